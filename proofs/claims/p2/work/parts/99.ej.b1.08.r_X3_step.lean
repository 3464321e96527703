
theorem sr_X3_step {tk pg sc : Nat} (t0 : Nat) {S : kS} (hI : INJ S) (hO14_t0 : S.2.1 14 t0 = some tk) (hO15_t0 : S.2.1 15 t0 = some pg) (hO16_t0 : S.2.1 16 t0 = some sc) (hG : RG (vw t0 tk pg sc S)) (hz : NZ (vw t0 tk pg sc S)) : wT_X3_step t0 S (fun S1 => Rx (-2) (vw t0 tk pg sc S) (vw t0 tk pg sc S1)) := by
  refine kmT_X3_step _ _ _ _ (fun S1 hF p => ?_) (sk_X3_step (tk := tk) _ hI hO14_t0 ⟨hG.1.1, hG.1.2.1⟩)
  have hv := vw_k (t0 := t0) (tk := tk) (pg := pg) (sc := sc) hF hI (by decide) (by decide)
  exact Rx_at hv p hG (Or.inl hz)
