
theorem sr_X5_openRoutine {x0 tk sc : Nat} (t0 : Nat) (a0 : Int64) {S : kS} (hI : INJ S) (hG : RG (vw x0 tk t0 sc S)) : wT_X5_openRoutine t0 a0 S (fun S1 => (12 ≤ (vw x0 tk t0 sc S).1 18 ∧ S1 = S) ∨ jOPN (vw x0 tk t0 sc S) (vw x0 tk t0 sc S1)) := by
  refine kmT_X5_openRoutine _ _ _ _ _ (fun S1 hF p => ?_) (sk_X5_openRoutine _ _ hI hG.2.2.1.1)
  have hv := vw_k (t0 := x0) (tk := tk) (pg := t0) (sc := sc) hF hI (by decide) (by decide)
  have h0 : 0 ≤ (S.1 18 t0).toInt := hG.2.2.1.1
  rcases p with q | ⟨q1, q2, q3, q4, q5⟩
  · exact Or.inl q
  have u4 := up_v h0 q4
  have u5 := up_v h0 q5
  refine Or.inr ⟨q1, q2, up_v h0 q3, hv, RG_or (V := (vw x0 tk t0 sc S)) (V1 := (vw x0 tk t0 sc S1)) q2 q1 (fun i => ?_) (fun i => ?_) hv hG, u5⟩
  · show 0 ≤ (ar S1 35 t0 i).toInt ∧ (ar S1 35 t0 i).toInt ≤ 12
    rw [u4 i]
    split
    · decide
    · exact hG.2.2.2.2.2.2.2.2.1 i
  · show 0 ≤ (ar S1 36 t0 i).toInt ∧ (ar S1 36 t0 i).toInt ≤ 16
    rw [u5 i]
    split
    · decide
    · exact hG.2.2.2.2.2.2.2.2.2.1 i
