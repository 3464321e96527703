
theorem sr_X5_closeRoutine {x0 tk sc : Nat} (t0 : Nat) {S : kS} (hI : INJ S) (hG : RG (vw x0 tk t0 sc S)) (hB : BG 12 (vw x0 tk t0 sc S)) (hT : TY (-2) (vw x0 tk t0 sc S)) (hs : (vw x0 tk t0 sc S).1 8 = -1) : wT_X5_closeRoutine t0 S (fun S1 => Rx 1 (vw x0 tk t0 sc S) (vw x0 tk t0 sc S1) ∧ TY (-2) (vw x0 tk t0 sc S1)) := by
  refine kmT_X5_closeRoutine _ _ _ _ (fun S1 hF p => ?_) (sk_X5_closeRoutine _ hI hG.2.1.1 hG.2.2.1)
  have hv := vw_k (t0 := x0) (tk := tk) (pg := t0) (sc := sc) hF hI (by decide) (by decide)
  have h0 : 0 ≤ (S.1 17 t0).toInt := hG.2.1.1
  rcases p with ⟨q0, q⟩ | ⟨q1, q2, q3, q4, q5⟩ | ⟨q1, q2, q3, q4, q5⟩
  · rw [q]; exact ⟨Rx_m Rx_rf (by decide), hT⟩
  · exact Rx_cr hG hB (by decide) hT hs q2 q1 (up_v h0 q3) (up_v h0 q4) (up_v h0 q5) hv
  · have v3 := VF_33 hv (show (S1.1 17 t0).toInt = (S.1 17 t0).toInt by rw [q2]) (funext (fun i => show (ar S1 28 t0 i).toInt = (ar S 28 t0 i).toInt by rw [q3 i])) (funext (fun i => show (ar S1 29 t0 i).toInt = (ar S 29 t0 i).toInt by rw [q4 i])) (funext (fun i => show (ar S1 30 t0 i).toInt = (ar S 30 t0 i).toInt by rw [q5 i]))
    exact ⟨Rx_m (Rx_ir v3 (by decide) (by decide) (by decide) (fun g => RG_ir (hv_sub v3 (by decide) (by decide)) g)) (by decide), TY_v v3 (by decide) (by decide) hT⟩
