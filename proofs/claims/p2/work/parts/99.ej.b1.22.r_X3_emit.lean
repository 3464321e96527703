
theorem sr_X3_emit {tk pg sc : Nat} (t0 : Nat) (a0 : Int32) (a1 : Int32) {S : kS} (hI : INJ S) (hO14_t0 : S.2.1 14 t0 = some tk) (hO15_t0 : S.2.1 15 t0 = some pg) (hO16_t0 : S.2.1 16 t0 = some sc) (hG : RG (vw t0 tk pg sc S)) : wT_X3_emit t0 a0 a1 S (fun S1 r => EMr a0.toInt a1.toInt r.toInt (vw t0 tk pg sc S) (vw t0 tk pg sc S1)) := by
  refine kmT_X3_emit _ _ _ _ _ _ (fun S1 r hF p => ?_) (sk_X3_emit (pg := pg) _ _ _ hI hO15_t0 hG.2.1.1)
  have hv := vw_k (t0 := t0) (tk := tk) (pg := pg) (sc := sc) hF hI (by decide) (by decide)
  have h0 : 0 ≤ (S.1 17 pg).toInt := hG.2.1.1
  refine ⟨p.1, p.2.1, ?_⟩
  rcases p.2.2 with ⟨q1, q2, q3, q4, q5, q6⟩ | ⟨q1, q2⟩
  · exact Or.inl ⟨q1, q2, q3, up_v h0 q4, up_v h0 q5, up_v h0 q6, hv⟩
  · exact Or.inr ⟨q1, by rw [q2]⟩
