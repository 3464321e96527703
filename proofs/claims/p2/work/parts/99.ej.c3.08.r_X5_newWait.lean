
theorem sr_X5_newWait {x0 tk sc : Nat} (t0 : Nat) {S : kS} (hI : INJ S) (hG : RG (vw x0 tk t0 sc S)) : wT_X5_newWait t0 S (fun S1 r => NWR r.toInt (vw x0 tk t0 sc S) (vw x0 tk t0 sc S1)) := by
  refine kmT_X5_newWait _ _ _ _ (fun S1 r hF p => ?_) (sk_X5_newWait _ hI hG.2.2.2.2.2.2.2.2.2.1 hG.2.2.1)
  have hv := vw_k (t0 := x0) (tk := tk) (pg := t0) (sc := sc) hF hI (by decide) (by decide)
  exact ⟨hv, fun g => RG_36 (V1 := (vw x0 tk t0 sc S1)) p.1 (hv_sub hv (by decide) (by decide)) g, p.2.1, p.2.2.1, p.2.2.2⟩
