
theorem sr_X3_wrong {tk pg sc : Nat} (t0 : Nat) (a0 : Int32) {S : kS} (hI : INJ S) (hO14_t0 : S.2.1 14 t0 = some tk) (hO15_t0 : S.2.1 15 t0 = some pg) (hO16_t0 : S.2.1 16 t0 = some sc) (hG : RG (vw t0 tk pg sc S)) (hw : 0 < a0.toInt ∧ a0.toInt ≤ 6) : wT_X3_wrong t0 a0 S (fun S1 => Rx (-100) (vw t0 tk pg sc S) (vw t0 tk pg sc S1) ∧ (vw t0 tk pg sc S1).1 7 ≠ 0) := by
  refine kmT_X3_wrong _ _ _ _ _ (fun S1 hF p => ?_) (sk_X3_wrong (tk := tk) _ _ hI hO14_t0 ⟨hG.1.1, hG.1.2.1⟩ hG.1.2.2.2.2.2.2.2.2.1 hw)
  have hv := vw_k (t0 := t0) (tk := tk) (pg := pg) (sc := sc) hF hI (by decide) (by decide)
  refine ⟨Rx_wr hv p.1 (fun g => ?_), p.1⟩
  rcases p.2 with ⟨q1, q2⟩ | ⟨q1, q2⟩
  · exact q2
  · exact q2.trans (g.1.2.2.2.2.2.1 q1)
