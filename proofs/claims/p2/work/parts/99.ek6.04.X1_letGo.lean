
set_option maxHeartbeats 400000 in
theorem sk_X1_letGo {n : Int} {N : Nat → Prop} {LL : Nat → List Nat} {D : Nat → Nat} {ro : Nat} (t0 : Nat) (a0 : Nat) (a1 : Int32) {S : kS} (hI : INJ S) (hL : LNS N LL S none) (hG : AGE n (S.1 5 t0).toInt (ar S 10 t0)) (hc : CH (S.2.1 24) (S.2.1 61 a0) (LL a0)) (hn : (LL a0).Nodup) (hA : ∀ p, p ∈ LL a0 → (∀ q, S.2.1 23 p = some q → q ∈ LL a0 ∧ D p = D q + 1) ∧ (S.2.1 23 p = none → p = ro)) (hC : ∀ p c, p ∈ LL a0 → S.2.1 22 p = some c → 0 ≤ (S.1 28 c).toInt ∧ (S.1 28 c).toInt < n) : wT_X1_letGo t0 a0 a1 S (fun S1 => DST n N LL t0 a0 (a1 ≠ 0 ∨ S.1 13 ro ≠ 0) (a1 = 0) (LL a0) S S1) := by
  have nS : FX [12, 13, 25, 26, 27] S S := FX_rf
  unfold wT_X1_letGo
  intro z1 ez1
  refine kmT_X1_drop _ _ _ _ _ _ (fun S2 hF1 pS2 => ?_) (sk_X1_drop (n := n) (N := N) (LL := LL) (D := D) (ro := ro) _ _ _ (INJ_x nS (by decide) hI) hL hG hc hn hA hC)
  have nS2 : FX [12, 13, 25, 26, 27] S S2 := FX_k hF1 (by decide) nS
  have y28_S2 : S2.1 28 = S.1 28 := hF1.1 28 (by decide)
  have y30_S2 : S2.1 30 = S.1 30 := hF1.1 30 (by decide)
  have y38_S2 : S2.1 38 = S.1 38 := hF1.1 38 (by decide)
  have y39_S2 : S2.1 39 = S.1 39 := hF1.1 39 (by decide)
  clear hF1
  refine kmT_X1_turnRound _ _ _ _ _ (fun S3 hF2 pS3 => ?_) (sk_X1_turnRound (n := n) _ _ (INJ_x nS2 (by decide) hI) pS2.2.1 (⟨by rw [ez1]; exact hG.1, by rw [ez1]; have := hG.2.1; omega⟩))
  have nS3 : FX [12, 13, 25, 26, 27] S S3 := FX_k hF2 (by decide) nS2
  have y5_S3 : S3.1 5 = S2.1 5 := hF2.1 5 (by decide)
  have y13_S3 : S3.1 13 = S2.1 13 := hF2.1 13 (by decide)
  have y28_S3 : S3.1 28 = S2.1 28 := hF2.1 28 (by decide)
  have y30_S3 : S3.1 30 = S2.1 30 := hF2.1 30 (by decide)
  have y38_S3 : S3.1 38 = S2.1 38 := hF2.1 38 (by decide)
  have y39_S3 : S3.1 39 = S2.1 39 := hF2.1 39 (by decide)
  have r12_S3 : S3.2.1 12 = S2.2.1 12 := hF2.2.1 12 (by decide)
  have r13_S3 : S3.2.1 13 = S2.2.1 13 := hF2.2.1 13 (by decide)
  have r25_S3 : S3.2.1 25 = S2.2.1 25 := hF2.2.1 25 (by decide)
  have r26_S3 : S3.2.1 26 = S2.2.1 26 := hF2.2.1 26 (by decide)
  have r27_S3 : S3.2.1 27 = S2.2.1 27 := hF2.2.1 27 (by decide)
  clear hF2
  exact DST_t pS2 pS3 y5_S3 r12_S3 r13_S3 r25_S3 r26_S3 r27_S3 y13_S3 y28_S3
