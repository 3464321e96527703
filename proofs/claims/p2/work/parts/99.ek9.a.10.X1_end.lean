
set_option maxHeartbeats 400000 in
theorem sk_X1_end {N T G : Nat → Prop} {U : List Nat} {L : Nat → List Nat} {D : Nat → Nat} {P : Nat → Int32} (t0 : Nat) (a0 : Nat) {S : kS} (hI : INJ S) (hH : HI t0 N T G U L D P S) (ht : tl S t0 a0) (hg : ∀ u, G u) : wT_X1_end t0 a0 S (fun S1 => HI t0 N T G U L D P S1 ∧ (S1.1 5 t0).toInt = 0 ∧ K3 S S1 ∧ S1.1 30 a0 = 3) := by
  have nS : FX [12, 13, 25, 26, 27] S S := FX_rf
  obtain ⟨d1, d2, d3, ro, d4, d5⟩ := HI_dr hH ht
  unfold wT_X1_end
  refine kmT_X1_letGo _ _ _ _ _ _ (fun S1 hF1 pS1 => ?_) (sk_X1_letGo (n := (S.1 1 t0).toInt) (N := N) (LL := L) (D := D) (ro := ro) _ _ _ (INJ_x nS (by decide) hI) hH.2.2.1 hH.2.2.2.2.2.2.1 d1 d2 d4 d3)
  have nS1 : FX [12, 13, 25, 26, 27] S S1 := FX_k hF1 (by decide) nS
  have fS1 := HF_k hF1 (INJ_x nS (by decide) hI) (by decide) (by decide) (by decide)
  clear hF1
  have h1 := HI_ds hH (HF_s fS1 (by decide) (by decide) (by decide) (by decide)) pS1
  have t1 : tl S1 t0 a0 := (by rw [tl_e (fS1.1 1 (by decide)) (fS1.2.2.2.1 3 (by decide))]; exact ht)
  refine kmT_X1_work _ _ _ _ (fun S2 hF2 pS2 => ?_) (sk_X1_work (N := N) (T := T) (G := G) (U := U) (L := L) (D := D) (P := P) _ (INJ_x nS1 (by decide) hI) h1 hg)
  have nS2 : FX [12, 13, 25, 26, 27] S S2 := FX_k hF2 (by decide) nS1
  have fS2 := HF_k hF2 (INJ_x nS1 (by decide) hI) (by decide) (by decide) (by decide)
  clear hF2
  have t2 : tl S2 t0 a0 := (by rw [tl_e (fS2.1 1 (by decide)) (fS2.2.2.2.1 3 (by decide))]; exact t1)
  refine kmT_X1_close _ _ _ _ _ (fun S3 hF3 pS3 => ?_) (sk_X1_close (N := N) (T := T) (G := G) (U := U) (L := L) (D := D) (P := P) _ _ (INJ_x nS2 (by decide) hI) pS2.1 t2 hg)
  have nS3 : FX [12, 13, 25, 26, 27] S S3 := FX_k hF3 (by decide) nS2
  have fS3 := HF_k hF3 (INJ_x nS2 (by decide) hI) (by decide) (by decide) (by decide)
  clear hF3
  have t3 : tl S3 t0 a0 := (by rw [tl_e (fS3.1 1 (by decide)) (fS3.2.2.2.1 3 (by decide))]; exact t2)
  refine kmT_X1_tellParent _ _ _ _ _ (fun S4 hF4 pS4 => ?_) (sk_X1_tellParent (N := N) (T := T) (G := G) (U := U) (L := L) (D := D) (P := P) _ _ (INJ_x nS3 (by decide) hI) pS3.1 t3 hg)
  have nS4 : FX [12, 13, 25, 26, 27] S S4 := FX_k hF4 (by decide) nS3
  have fS4 := HF_k hF4 (INJ_x nS3 (by decide) hI) (by decide) (by decide) (by decide)
  clear hF4
  refine kmT_X1_work _ _ _ _ (fun S5 hF5 pS5 => ?_) (sk_X1_work (N := N) (T := T) (G := G) (U := U) (L := L) (D := D) (P := P) _ (INJ_x nS4 (by decide) hI) pS4 hg)
  have nS5 : FX [12, 13, 25, 26, 27] S S5 := FX_k hF5 (by decide) nS4
  have fS5 := HF_k hF5 (INJ_x nS4 (by decide) hI) (by decide) (by decide) (by decide)
  clear hF5
  have k5 : K3 S3 S5 := K3_tr (K3_f fS4 (by decide)) pS5.2.2; exact ⟨pS5.1, pS5.2.1, K3_tr (K3_tr (K3_f fS1 (by decide)) pS2.2.2) (K3_tr pS3.2.1 k5), k5 a0 pS3.2.2⟩
