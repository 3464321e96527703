
theorem NZ_vf {zi fa : List Nat} {V V1 : PV} (hv : VF zi fa V V1) (hz : 6 ∉ zi) (hf : 64 ∉ fa) (h : NZ V) : NZ V1 := by
  unfold NZ at h ⊢
  rw [hv.1 6 hz, hv.2 64 hf (fun e => absurd e (by decide))]
  exact h
theorem KQ {V : PV} (hG : RG V) (h : V.2 64 (V.1 6).toNat ≠ 4) : V.1 7 = 0 := by
  rcases Decidable.em (V.1 7 = 0) with c | c
  · exact c
  · exfalso
    apply h
    rw [hG.1.2.2.2.2.2.1 c]
    exact hG.1.2.2.2.2.1
