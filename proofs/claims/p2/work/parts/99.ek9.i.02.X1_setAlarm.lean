
set_option maxHeartbeats 400000 in
theorem sk_X1_setAlarm {N : Nat → Prop} {LL : Nat → List Nat} {t9 : Nat} (t0 : Nat) (a0 : Nat) (a1 : Int32) {S : kS} (hI : INJ S) (hL : LNS N LL S none) (hp : a0 ∈ LL t9) (hl : S.2.1 25 a0 = none) (hs : S.1 13 a0 = 0) (hN8 : ∀ l, S.2.1 8 t0 = some l → N l) : wT_X1_setAlarm t0 a0 a1 S (fun S1 => LNS N LL S1 none) := by
  have nS : FX [12, 13, 25, 26, 27] S S := FX_rf
  unfold wT_X1_setAlarm
  intro z1 ez1
  intro z2 ez2
  refine ⟨fun c1 => ?_, fun c1 => ?_⟩
  · intro z4 ez4
    intro z5 ez5
    unfold wT_X1_setAlarm_23
    intro S6 eS6
    have nS6 : FX [12, 13, 25, 26, 27] S S6 := FX_i eS6 nS
    obtain ⟨Q, gQ⟩ := LNS_i hL (by decide) eS6
    have hl6 : S6.2.1 25 a0 = none := by rw [eS6]; exact hl
    have hs6 : S6.1 13 a0 = 0 := by rw [(HF_i eS6).1 13 (by decide)]; exact hs
    intro z7 ez7
    intro q8 eq8
    have wq8 := rd_w nS6 (by decide) ez7 eq8
    have nq := hN8 q8 wq8
    obtain ⟨b1, b2, b3, b4⟩ := gQ.1 q8 nq
    refine kmT_X2_add _ _ _ _ _ (fun S9 hF2 pS9 => ?_) (sk_X2_add (Q := Q q8) _ _ (INJ_x nS6 (by decide) hI) b1 b2 b3 b4 (fun m => by have w := (gQ.2.1 q8 a0 m).2.1; rw [hl6] at w; cases w))
    have nS9 : FX [12, 13, 25, 26, 27] S S9 := FX_k hF2 (by decide) nS6
    have fS9 := HF_k hF2 (INJ_x nS6 (by decide) hI) (by decide) (by decide) (by decide)
    clear hF2
    obtain ⟨l1, l2, w1, w2, w3, w4, w5, w6⟩ := pS9
    obtain ⟨Q1, g1⟩ := LNI_ad gQ nq hp hl6 hs6 w1 w2 w3 w4 w5 w6
    exact ⟨Q1, by rw [fS9.1 13 (by decide)]; exact g1⟩
  · unfold wT_X1_setAlarm_23
    intro S6 eS6
    have nS6 : FX [12, 13, 25, 26, 27] S S6 := FX_i eS6 nS
    obtain ⟨Q, gQ⟩ := LNS_i hL (by decide) eS6
    have hl6 : S6.2.1 25 a0 = none := by rw [eS6]; exact hl
    have hs6 : S6.1 13 a0 = 0 := by rw [(HF_i eS6).1 13 (by decide)]; exact hs
    intro z7 ez7
    intro q8 eq8
    have wq8 := rd_w nS6 (by decide) ez7 eq8
    have nq := hN8 q8 wq8
    obtain ⟨b1, b2, b3, b4⟩ := gQ.1 q8 nq
    refine kmT_X2_add _ _ _ _ _ (fun S9 hF3 pS9 => ?_) (sk_X2_add (Q := Q q8) _ _ (INJ_x nS6 (by decide) hI) b1 b2 b3 b4 (fun m => by have w := (gQ.2.1 q8 a0 m).2.1; rw [hl6] at w; cases w))
    have nS9 : FX [12, 13, 25, 26, 27] S S9 := FX_k hF3 (by decide) nS6
    have fS9 := HF_k hF3 (INJ_x nS6 (by decide) hI) (by decide) (by decide) (by decide)
    clear hF3
    obtain ⟨l1, l2, w1, w2, w3, w4, w5, w6⟩ := pS9
    obtain ⟨Q1, g1⟩ := LNI_ad gQ nq hp hl6 hs6 w1 w2 w3 w4 w5 w6
    exact ⟨Q1, by rw [fS9.1 13 (by decide)]; exact g1⟩
