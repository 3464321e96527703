
theorem sr_X7_newTry {x0 tk pg : Nat} (t0 : Nat) (a0 : Int32) (a1 : Int32) {S : kS} (hI : INJ S) (hG : RG (vw x0 tk pg t0 S)) (hs : a0.toInt = (vw x0 tk pg t0 S).1 8) (hl : -1 ≤ a1.toInt ∧ a1.toInt ≤ 459) (hd : 0 ≤ a0.toInt → (ar S 44 t0 (a0.toInt / 3).toNat).toInt ≤ 8) : wT_X7_newTry t0 a0 a1 S (fun S1 r => (r = -1 ∧ S1 = S) ∨ (jNT (vw x0 tk pg t0 S) (vw x0 tk pg t0 S1) ∧ RG (vw x0 tk pg t0 S1) ∧ r.toInt = (vw x0 tk pg t0 S).1 24 ∧ (vw x0 tk pg t0 S1).2 149 ((vw x0 tk pg t0 S).1 24).toNat = 0 ∧ ((vw x0 tk pg t0 S1).2 44 ((vw x0 tk pg t0 S).1 24).toNat = 0 ∨ (0 ≤ (vw x0 tk pg t0 S).1 8 ∧ (vw x0 tk pg t0 S1).2 44 ((vw x0 tk pg t0 S).1 24).toNat = (vw x0 tk pg t0 S).2 44 ((vw x0 tk pg t0 S).1 8 / 3).toNat + 1)))) := by
  refine kmT_X7_newTry _ _ _ _ _ _ (fun S1 r hF p => ?_) (sk_X7_newTry _ _ _ hI hG.2.2.2.1.1 ⟨hs ▸ hG.2.2.2.2.2.2.1.1, by rw [hs]; exact hG.2.2.2.2.2.2.1.2, hG.2.2.2.1.2⟩ hG.2.2.2.2.2.2.2.2.2.2.2.2.1)
  have hv := vw_k (t0 := x0) (tk := tk) (pg := pg) (sc := t0) hF hI (by decide) (by decide)
  have h0 : 0 ≤ (S.1 24 t0).toInt := hG.2.2.2.1.1
  rcases p with q | ⟨q1, q2, q3, q4, q5, q6, q7⟩
  · exact Or.inl q
  have u4 := up_v h0 q4
  have u5 := up_v h0 q5
  have u6 := up_v h0 q6
  have e9 : ∀ i : Nat, i = ix (S.1 24 t0) ↔ (i : Int) = (S.1 24 t0).toInt := fun i => by unfold ix; omega
  have dd : (if 0 ≤ a0.toInt then ar S 44 t0 (a0.toInt / 3).toNat + 1 else 0).toInt = 0 ∨ (0 ≤ a0.toInt ∧ (if 0 ≤ a0.toInt then ar S 44 t0 (a0.toInt / 3).toNat + 1 else 0).toInt = (ar S 44 t0 (a0.toInt / 3).toNat).toInt + 1) := by
    have rr := hG.2.2.2.2.2.2.2.2.2.2.2.2.1 (a0.toInt / 3).toNat
    rcases Decidable.em (0 ≤ a0.toInt) with c | c
    · refine Or.inr ⟨c, ?_⟩
      rw [if_pos c]
      exact w_add rfl (by have r1 : 0 ≤ (ar S 44 t0 (a0.toInt / 3).toNat).toInt := rr.1; have r2 : (ar S 44 t0 (a0.toInt / 3).toNat).toInt ≤ 9 := rr.2; have r3 : (1 : Int32).toInt = 1 := rfl; omega)
    · rw [if_neg c]; exact Or.inl rfl
  have m4 : (vw x0 tk pg t0 S1).2 44 ((vw x0 tk pg t0 S).1 24).toNat = (if 0 ≤ a0.toInt then ar S 44 t0 (a0.toInt / 3).toNat + 1 else 0).toInt := by
    show (ar S1 44 t0 (S.1 24 t0).toInt.toNat).toInt = _
    rw [u5, if_pos (by omega)]
  have nt : jNT (vw x0 tk pg t0 S) (vw x0 tk pg t0 S1) := ⟨q3, fun i => by rw [← hs]; exact u4 i, fun i hi => ⟨by show (ar S1 44 t0 i).toInt = _; rw [u5 i, if_neg (show ¬ (i : Int) = (S.1 24 t0).toInt from hi)]; rfl, by show (ar S1 49 t0 i &&& 3).toInt = (ar S 49 t0 i &&& 3).toInt; rw [q7 i, if_neg (fun q => hi ((e9 i).mp q))]⟩, hv⟩
  refine Or.inr ⟨nt, RG_nt (V := (vw x0 tk pg t0 S)) (V1 := (vw x0 tk pg t0 S1)) q3 q1 (fun i => ?_) (fun i => ?_) (fun i => ?_) hv hG, q2, ?_, ?_⟩
  · show -1 ≤ (ar S1 43 t0 i).toInt ∧ (ar S1 43 t0 i).toInt ≤ 1379
    rw [u4 i]
    split
    · rw [hs]; have b6 := hG.2.2.2.2.2.2.1; have b3 := hG.2.2.2.1; exact ⟨b6.1, by have := b6.2; have := b3.2; show (vw x0 tk pg t0 S).1 8 ≤ 1379; omega⟩
    · exact hG.2.2.2.2.2.2.2.2.2.2.1 i
  · show 0 ≤ (ar S1 44 t0 i).toInt ∧ (ar S1 44 t0 i).toInt ≤ 9
    rw [u5 i]
    split
    · rcases dd with c | ⟨c0, c⟩
      · rw [c]; decide
      · rw [c]; have rr := hG.2.2.2.2.2.2.2.2.2.2.2.2.1 (a0.toInt / 3).toNat; have r1 : 0 ≤ (ar S 44 t0 (a0.toInt / 3).toNat).toInt := rr.1; have := hd c0; omega
    · exact hG.2.2.2.2.2.2.2.2.2.2.2.2.1 i
  · show -1 ≤ (ar S1 45 t0 i).toInt ∧ (ar S1 45 t0 i).toInt ≤ 459
    rw [u6 i]
    split
    · exact hl
    · exact hG.2.2.2.2.2.2.2.2.2.2.2.2.2.1 i
  · show (ar S1 49 t0 (S.1 24 t0).toInt.toNat &&& 3).toInt = 0
    rw [q7, if_pos (show (S.1 24 t0).toInt.toNat = ix (S.1 24 t0) from rfl)]
    rfl
  · rw [m4]
    rcases dd with c | ⟨c0, c⟩
    · exact Or.inl c
    · refine Or.inr ⟨by rw [← hs]; exact c0, c.trans ?_⟩
      rw [← hs]
      rfl
