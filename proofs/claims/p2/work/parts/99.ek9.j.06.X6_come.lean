
set_option maxHeartbeats 400000 in
theorem sk_X6_come {N : Nat → Prop} {LL : Nat → List Nat} {t9 : Nat} (t0 : Nat) (a0 : Nat) (a1 : Int32) {S : kS} (hI : INJ S) (hL : LNS N LL S none) (hp : a0 ∈ LL t9) (hl : S.2.1 25 a0 = none) (hq : ∀ q, S.2.1 23 a0 = some q → q ∈ LL t9 ∧ S.2.1 25 q = none) : wT_X6_come t0 a0 a1 S (fun S1 => LNS N LL S1 none ∧ STM (LL t9) S S1) := by
  have nS : FX [] S S := FX_rf
  unfold wT_X6_come
  intro S1 eS1
  have nS1 : FX [] S S1 := FX_i eS1 nS
  intro S2 eS2
  have nS2 : FX [] S S2 := FX_i eS2 nS1
  have l2 : LNS N LL S2 none := LNS_i (LNS_no (LNS_w hL eS1) (by rw [eS1]; exact hl)) (by decide) eS2
  have m2 : STM (LL t9) S S2 := STM_e (STM_w hp (by decide) eS1) (fun o => by rw [(HF_i eS2).1 13 (by decide)])
  have s2 : S2.1 13 a0 ≠ 0 := by rw [(HF_i eS2).1 13 (by decide), eS1, k_ii, if_pos ⟨rfl, rfl⟩]; decide
  refine kmT_X6_tellAbout _ _ _ _ _ (fun S3 hF1 pS3 => ?_) (sk_X6_tellAbout (N := N) (LL := LL) (t9 := t9) _ _ (INJ_x nS2 (by decide) hI) l2 s2 (by rw [eS2, eS1]; exact hq))
  have nS3 : FX [] S S3 := FX_k hF1 (by decide) nS2
  have fS3 := HF_k hF1 (INJ_x nS2 (by decide) hI) (by decide) (by decide) (by decide)
  clear hF1
  exact ⟨pS3.1, STM_tr m2 pS3.2⟩
