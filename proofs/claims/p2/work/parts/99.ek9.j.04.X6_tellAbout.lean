
set_option maxHeartbeats 400000 in
theorem sk_X6_tellAbout {N : Nat → Prop} {LL : Nat → List Nat} {t9 : Nat} (t0 : Nat) (a0 : Nat) {S : kS} (hI : INJ S) (hL : LNS N LL S none) (ha : S.1 13 a0 ≠ 0) (hq : ∀ q, S.2.1 23 a0 = some q → q ∈ LL t9 ∧ S.2.1 25 q = none) : wT_X6_tellAbout t0 a0 S (fun S1 => LNS N LL S1 none ∧ STM (LL t9) S S1) := by
  have nS : FX [] S S := FX_rf
  unfold wT_X6_tellAbout
  intro z1 ez1
  refine ⟨fun c1 => ?_, fun q2 c1 => ?_⟩
  · exact ⟨hL, STM_rf⟩
  · intro z3 ez3
    have m2 := hq q2 (by grind [k_ii, k_ir, k_ri, k_rr, k_ai, k_ar, k_li, k_lr, k_qi, k_qr, ar_ci, ar_cl, ar_cq, la_ci, la_ca, la_cq, qa_ci, qa_ca, qa_cl, tk_link])
    refine ⟨fun c2 => ?_, fun c2 => ?_⟩
    · exact ⟨hL, STM_rf⟩
    · intro z5 ez5
      intro z6 ez6
      refine kmT_X4_hears _ _ _ _ _ _ (fun S7 r7 hF3 pS7 => ?_) (sk_X4_hears _ _ _ (INJ_x nS (by decide) hI) (by rw [ez5]; exact ha))
      have nS7 : FX [] S S7 := FX_k hF3 (by decide) nS
      have fS7 := HF_k hF3 (INJ_x nS (by decide) hI) (by decide) (by decide) (by decide)
      clear hF3
      exact ⟨LNS_no (LNS_h hL (fS7.2.1 12 (by decide)) (fS7.2.1 13 (by decide)) (fS7.2.1 25 (by decide)) (fS7.2.1 26 (by decide)) (fS7.2.1 27 (by decide)) pS7.2.2) (by rw [fS7.2.1 25 (by decide)]; exact m2.2), fun o => by rcases Decidable.em (o = q2) with c9 | c9; (rcases Decidable.em (r7 = 0) with d9 | d9; (exact Or.inl (by rw [c9]; exact pS7.2.1 d9)); (exact Or.inr ⟨by rw [c9]; exact m2.1, by rw [c9]; exact pS7.1 d9⟩)); (exact Or.inl (pS7.2.2 o c9))⟩
