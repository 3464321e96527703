
set_option maxHeartbeats 400000 in
theorem sk_X1_breakOff {N T G : Nat → Prop} {U : List Nat} {L : Nat → List Nat} {D : Nat → Nat} {P : Nat → Int32} (t0 : Nat) (a0 : Nat) (a1 : Int32) {S : kS} (hI : INJ S) (hH : HI t0 N T G U L D P S) (ht : tl S t0 a0) (hg : ∀ u, G u) (h3 : S.1 30 a0 ≠ 3) (hr : S.1 30 a0 ≠ 0) : wT_X1_breakOff t0 a0 a1 S (fun S1 => HI t0 N T G U L D P S1 ∧ (S1.1 5 t0).toInt = 0 ∧ K3 S S1) := by
  have nS : FX [12, 13, 25, 26, 27] S S := FX_rf
  unfold wT_X1_breakOff
  intro S1 eS1
  have nS1 : FX [12, 13, 25, 26, 27] S S1 := FX_i eS1 nS
  have h1 : HI t0 N T (fun u => u ≠ a0) U L D P S1 := HI_st (HI_wk hH (fun u _ => hg u)) eS1 (fun _ => nr_q hH.2.2.2.2.2.1 hr) (fun q => absurd rfl q) (fun q => absurd rfl q)
  have t1 : tl S1 t0 a0 := (by rw [tl_e ((HF_i eS1).1 1 (by decide)) ((HF_i eS1).2.2.2.1 3 (by decide))]; exact ht)
  intro z2 ez2
  intro z3 ez3
  refine kmT_X1_plan _ _ _ _ _ (fun S4 hF1 pS4 => ?_) (sk_X1_plan (n := (S1.1 1 t0).toInt) _ _ (INJ_x nS1 (by decide) hI) h1.2.2.2.2.2.2.1 (pl_c h1.1 t1 ez2 ez3))
  have nS4 : FX [12, 13, 25, 26, 27] S S4 := FX_k hF1 (by decide) nS1
  have fS4 := HF_k hF1 (INJ_x nS1 (by decide) hI) (by decide) (by decide) (by decide)
  clear hF1
  have h4 := HI_pl h1 (HF_s fS4 (by decide) (by decide) (by decide) (by decide)) pS4.1
  have t4 : tl S4 t0 a0 := (by rw [tl_e (fS4.1 1 (by decide)) (fS4.2.2.2.1 3 (by decide))]; exact t1)
  obtain ⟨d1, d2, d3, ro, d4, d5⟩ := HI_dr h4 t4
  refine kmT_X1_letGo _ _ _ _ _ _ (fun S5 hF2 pS5 => ?_) (sk_X1_letGo (n := (S4.1 1 t0).toInt) (N := N) (LL := L) (D := D) (ro := ro) _ _ _ (INJ_x nS4 (by decide) hI) h4.2.2.1 h4.2.2.2.2.2.2.1 d1 d2 d4 d3)
  have nS5 : FX [12, 13, 25, 26, 27] S S5 := FX_k hF2 (by decide) nS4
  have fS5 := HF_k hF2 (INJ_x nS4 (by decide) hI) (by decide) (by decide) (by decide)
  clear hF2
  have h5 := HI_ds h4 (HF_s fS5 (by decide) (by decide) (by decide) (by decide)) pS5
  have al7 := pS5.2.2.2.2.1 (Or.inl (by decide))
  intro S6 eS6
  have nS6 : FX [12, 13, 25, 26, 27] S S6 := FX_i eS6 nS5
  have h6 := HI_oc h5 eS6 (fun q => absurd rfl q) (fun q => absurd rfl q)
  intro S7 eS7
  have nS7 : FX [12, 13, 25, 26, 27] S S7 := FX_i eS7 nS6
  have h7 := HI_i h6 eS7 (by decide)
  have o7 : S7.1 38 a0 = 2 := by rw [(HF_i eS7).1 38 (by decide), eS6, k_ii, if_pos ⟨rfl, rfl⟩]
  have s7 : S7.1 13 = S5.1 13 := by rw [(HF_i eS7).1 13 (by decide), (HF_i eS6).1 13 (by decide)]
  have w7 : HI t0 N T G U L D P S7 := HI_sg (t := a0) h7 (fun u _ => by rcases Decidable.em (u = a0) with c9 | c9; (exact Or.inr c9); (exact Or.inl c9)) (fun _ => by rw [s7]; exact al7) (fun _ q => by rw [o7] at q; exact absurd q (by decide))
  refine kmT_X1_work _ _ _ _ (fun S8 hF3 pS8 => ?_) (sk_X1_work (N := N) (T := T) (G := G) (U := U) (L := L) (D := D) (P := P) _ (INJ_x nS7 (by decide) hI) w7 hg)
  have nS8 : FX [12, 13, 25, 26, 27] S S8 := FX_k hF3 (by decide) nS7
  have fS8 := HF_k hF3 (INJ_x nS7 (by decide) hI) (by decide) (by decide) (by decide)
  clear hF3
  exact ⟨pS8.1, pS8.2.1, K3_tr (K3_tr (K3_i eS1 (Or.inr h3)) (K3_tr (K3_f fS4 (by decide)) (K3_f fS5 (by decide)))) (K3_tr (K3_tr (K3_f (HF_i eS6) (by decide)) (K3_f (HF_i eS7) (by decide))) pS8.2.2)⟩
