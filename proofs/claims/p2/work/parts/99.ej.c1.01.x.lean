
theorem NZ_w {V : PV} (hG : RG V) (h : V.1 7 ≠ 0) : NZ V := by
  unfold NZ
  rw [hG.1.2.2.2.2.2.1 h]
  have := hG.1.2.2.2.2.1
  show V.2 64 4001 ≠ 0
  omega
theorem Rx_eq {S S1 : PV} (h : S1 = S) : Rx 0 S S1 := by rw [h]; exact Rx_rf
