
theorem sr_X3_take {tk pg sc : Nat} (t0 : Nat) (a0 : Int32) {S : kS} (hI : INJ S) (hO14_t0 : S.2.1 14 t0 = some tk) (hO15_t0 : S.2.1 15 t0 = some pg) (hO16_t0 : S.2.1 16 t0 = some sc) (hG : RG (vw t0 tk pg sc S)) : wT_X3_take t0 a0 S (fun S1 r => Rx 0 (vw t0 tk pg sc S) (vw t0 tk pg sc S1) ∧ (r ≠ 0 → Rx (-2) (vw t0 tk pg sc S) (vw t0 tk pg sc S1)) ∧ (r = 0 → S1 = S)) := by
  refine kmT_X3_take _ _ _ _ _ (fun S1 r hF p => ?_) (sk_X3_take (tk := tk) _ _ hI hO14_t0 ⟨hG.1.1, hG.1.2.1⟩)
  have hv := vw_k (t0 := t0) (tk := tk) (pg := pg) (sc := sc) hF hI (by decide) (by decide)
  rcases p with ⟨p1, p2⟩ | ⟨p1, p2, p3, p4⟩
  · subst p2; exact ⟨Rx_rf, fun q => absurd p1 q, fun _ => rfl⟩
  · have q := Rx_at hv (Or.inl ⟨p3, p4⟩) hG (Or.inr p4)
    exact ⟨Rx_m q (by decide), fun _ => q, fun q => by rw [p1] at q; exact absurd q (by decide)⟩
