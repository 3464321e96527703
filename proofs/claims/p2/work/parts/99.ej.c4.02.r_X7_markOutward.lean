
theorem sr_X7_markOutward {x0 tk pg : Nat} (t0 : Nat) (a0 : Int32) (a1 : Int32) (a2 : Int32) {S : kS} (hI : INJ S) (hG : RG (vw x0 tk pg t0 S)) (ha : -1 ≤ a0.toInt ∧ a0.toInt ≤ 1379) (hw : a2 = 4 ∨ a2 = 8) : wT_X7_markOutward t0 a0 a1 a2 S (fun S1 => Rx 0 (vw x0 tk pg t0 S) (vw x0 tk pg t0 S1)) := by
  refine kmT_X7_markOutward _ _ _ _ _ _ _ (fun S1 hF p => ?_) (sk_X7_markOutward _ _ _ _ hI hG.2.2.2.2.2.2.2.2.2.2.1 ha hw)
  have hv := vw_k (t0 := x0) (tk := tk) (pg := pg) (sc := t0) hF hI (by decide) (by decide)
  refine Rx_mk hv (funext (fun i => ?_))
  show (ar S1 49 t0 i &&& 3).toInt = (ar S 49 t0 i &&& 3).toInt
  rw [p i]
