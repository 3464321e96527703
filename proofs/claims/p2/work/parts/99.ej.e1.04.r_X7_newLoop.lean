
theorem sr_X7_newLoop {x0 tk pg : Nat} (t0 : Nat) (a0 : Int32) (a1 : Int32) {S : kS} (hI : INJ S) (hG : RG (vw x0 tk pg t0 S)) (hs : a0.toInt = (vw x0 tk pg t0 S).1 8) : wT_X7_newLoop t0 a0 a1 S (fun S1 r => (r = -1 ∧ S1 = S) ∨ (NL a1.toInt (vw x0 tk pg t0 S) (vw x0 tk pg t0 S1) ∧ r.toInt = (vw x0 tk pg t0 S).1 25 ∧ (vw x0 tk pg t0 S).1 25 < 460)) := by
  refine kmT_X7_newLoop _ _ _ _ _ _ (fun S1 r hF p => ?_) (sk_X7_newLoop _ _ _ hI hG.2.2.2.2.1.1)
  have hv := vw_k (t0 := x0) (tk := tk) (pg := pg) (sc := t0) hF hI (by decide) (by decide)
  have h0 : 0 ≤ (S.1 25 t0).toInt := hG.2.2.2.2.1.1
  rcases p with q | ⟨q1, q2, q3, q4, q5⟩
  · exact Or.inl q
  · refine Or.inr ⟨⟨q3, fun i => ?_, up_v h0 q5, hv⟩, q2, q1⟩
    rw [← hs]
    exact up_v h0 q4 i
