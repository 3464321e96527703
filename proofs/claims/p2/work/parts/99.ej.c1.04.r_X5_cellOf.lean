
theorem sr_X5_cellOf {x0 tk sc : Nat} (t0 : Nat) (a0 : Int64) {S : kS} (hI : INJ S) (hG : RG (vw x0 tk t0 sc S)) : wT_X5_cellOf t0 a0 S (fun S1 r => Rx 0 (vw x0 tk t0 sc S) (vw x0 tk t0 sc S1)) := by
  refine kmT_X5_cellOf _ _ _ _ _ (fun S1 r hF p => ?_) (sk_X5_cellOf _ _ hI hG.2.2.2.2.2.2.2.2.1 hG.2.2.1)
  have hv := vw_k (t0 := x0) (tk := tk) (pg := t0) (sc := sc) hF hI (by decide) (by decide)
  exact Rx_ir hv (by decide) (by decide) (by decide) (fun g => RG_35 (V1 := (vw x0 tk t0 sc S1)) p (hv_sub hv (by decide) (by decide)) g)
