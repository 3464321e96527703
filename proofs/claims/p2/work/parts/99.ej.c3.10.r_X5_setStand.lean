
theorem sr_X5_setStand {x0 tk sc : Nat} (t0 : Nat) (a0 : Int32) (a1 : Int32) {S : kS} (hI : INJ S) (hG : RG (vw x0 tk t0 sc S)) (ha : 0 ≤ a1.toInt ∧ a1.toInt ≤ 8063) : wT_X5_setStand t0 a0 a1 S (fun S1 => SSR a0.toInt a1.toInt (vw x0 tk t0 sc S) (vw x0 tk t0 sc S1)) := by
  refine kmT_X5_setStand _ _ _ _ _ _ (fun S1 hF p => ?_) (sk_X5_setStand _ _ _ hI hG.2.2.2.2.2.2.2.2.2.2.2.2.2.2.1 hG.2.2.1 ha)
  have hv := vw_k (t0 := x0) (tk := tk) (pg := t0) (sc := sc) hF hI (by decide) (by decide)
  exact ⟨hv, fun g => RG_37 (V1 := (vw x0 tk t0 sc S1)) p.1 (hv_sub hv (by decide) (by decide)) g, p.2⟩
