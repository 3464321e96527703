
theorem sr_X3_kind {tk pg sc : Nat} (t0 : Nat) {S : kS} (hI : INJ S) (hO14_t0 : S.2.1 14 t0 = some tk) (hO15_t0 : S.2.1 15 t0 = some pg) (hO16_t0 : S.2.1 16 t0 = some sc) (hG : RG (vw t0 tk pg sc S)) : wT_X3_kind t0 S (fun S1 r => S = S1 ∧ r.toInt = (vw t0 tk pg sc S).2 64 ((vw t0 tk pg sc S).1 6).toNat) := by
  refine kmT_X3_kind _ _ _ _ (fun S1 r hF p => ?_) (sk_X3_kind (tk := tk) _ hI hO14_t0 ⟨hG.1.1, hG.1.2.1⟩)
  have hv := vw_k (t0 := t0) (tk := tk) (pg := pg) (sc := sc) hF hI (by decide) (by decide)
  exact ⟨p.1, by rw [p.2]; rfl⟩
