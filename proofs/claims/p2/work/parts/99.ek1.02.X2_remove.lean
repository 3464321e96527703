
set_option maxHeartbeats 400000 in
theorem sk_X2_remove (t0 : Nat) (a0 : Nat) {S : kS} (hI : INJ S) (h1 : S.2.1 26 a0 ≠ some a0) (h2 : S.2.1 27 a0 ≠ some a0) : wT_X2_remove t0 a0 S (fun S1 => (∀ x, S1.2.1 27 x = if x = a0 then none else if S.2.1 26 a0 = some x then S.2.1 27 a0 else S.2.1 27 x) ∧ (∀ x, S1.2.1 26 x = if x = a0 then none else if S.2.1 27 a0 = some x then S.2.1 26 a0 else S.2.1 26 x) ∧ (∀ x, S1.2.1 25 x = if x = a0 then none else S.2.1 25 x) ∧ (∀ x, S1.2.1 12 x = if x = t0 ∧ S.2.1 26 a0 = none then S.2.1 27 a0 else S.2.1 12 x) ∧ (∀ x, S1.2.1 13 x = if x = t0 ∧ S.2.1 27 a0 = none then S.2.1 26 a0 else S.2.1 13 x)) := by
  have nS : FX [12, 13, 25, 26, 27] S S := FX_rf
  unfold wT_X2_remove
  intro z1 ez1
  refine ⟨fun c1 => ?_, fun q2 c1 => ?_⟩
  · intro z3 ez3
    intro S4 eS4
    have nS4 : FX [12, 13, 25, 26, 27] S S4 := FX_r eS4 (by decide) nS
    have arS4 := ar_cr eS4 (by decide)
    have laS4 := la_cr eS4 (by decide)
    have qaS4 := qa_cr eS4 (by decide)
    unfold wT_X2_remove_29
    intro z9 ez9
    refine ⟨fun c2 => ?_, fun q10 c2 => ?_⟩
    · intro z11 ez11
      intro S12 eS12
      have nS12 : FX [12, 13, 25, 26, 27] S S12 := FX_r eS12 (by decide) nS4
      have arS12 := ar_cr eS12 (by decide)
      have laS12 := la_cr eS12 (by decide)
      have qaS12 := qa_cr eS12 (by decide)
      unfold wT_X2_remove_58
      intro S17 eS17
      have nS17 : FX [12, 13, 25, 26, 27] S S17 := FX_r eS17 (by decide) nS12
      have arS17 := ar_cr eS17 (by decide)
      have laS17 := la_cr eS17 (by decide)
      have qaS17 := qa_cr eS17 (by decide)
      intro S18 eS18
      have nS18 : FX [12, 13, 25, 26, 27] S S18 := FX_r eS18 (by decide) nS17
      have arS18 := ar_cr eS18 (by decide)
      have laS18 := la_cr eS18 (by decide)
      have qaS18 := qa_cr eS18 (by decide)
      intro S19 eS19
      have nS19 : FX [12, 13, 25, 26, 27] S S19 := FX_r eS19 (by decide) nS18
      have arS19 := ar_cr eS19 (by decide)
      have laS19 := la_cr eS19 (by decide)
      have qaS19 := qa_cr eS19 (by decide)
      exact by grind [k_ii, k_ir, k_ri, k_rr, k_ai, k_ar, k_li, k_lr, k_qi, k_qr, ar_ci, ar_cl, ar_cq, la_ci, la_ca, la_cq, qa_ci, qa_ca, qa_cl, tk_link]
    · intro z13 ez13
      intro z14 ez14
      refine ⟨q10, by grind [k_ii, k_ir, k_ri, k_rr, k_ai, k_ar, k_li, k_lr, k_qi, k_qr, ar_ci, ar_cl, ar_cq, la_ci, la_ca, la_cq, qa_ci, qa_ca, qa_cl, tk_link], ?_⟩
      intro S16 eS16
      have nS16 : FX [12, 13, 25, 26, 27] S S16 := FX_r eS16 (by decide) nS4
      have arS16 := ar_cr eS16 (by decide)
      have laS16 := la_cr eS16 (by decide)
      have qaS16 := qa_cr eS16 (by decide)
      unfold wT_X2_remove_58
      intro S17 eS17
      have nS17 : FX [12, 13, 25, 26, 27] S S17 := FX_r eS17 (by decide) nS16
      have arS17 := ar_cr eS17 (by decide)
      have laS17 := la_cr eS17 (by decide)
      have qaS17 := qa_cr eS17 (by decide)
      intro S18 eS18
      have nS18 : FX [12, 13, 25, 26, 27] S S18 := FX_r eS18 (by decide) nS17
      have arS18 := ar_cr eS18 (by decide)
      have laS18 := la_cr eS18 (by decide)
      have qaS18 := qa_cr eS18 (by decide)
      intro S19 eS19
      have nS19 : FX [12, 13, 25, 26, 27] S S19 := FX_r eS19 (by decide) nS18
      have arS19 := ar_cr eS19 (by decide)
      have laS19 := la_cr eS19 (by decide)
      have qaS19 := qa_cr eS19 (by decide)
      exact by grind [k_ii, k_ir, k_ri, k_rr, k_ai, k_ar, k_li, k_lr, k_qi, k_qr, ar_ci, ar_cl, ar_cq, la_ci, la_ca, la_cq, qa_ci, qa_ca, qa_cl, tk_link]
  · intro z5 ez5
    intro z6 ez6
    refine ⟨q2, by grind [k_ii, k_ir, k_ri, k_rr, k_ai, k_ar, k_li, k_lr, k_qi, k_qr, ar_ci, ar_cl, ar_cq, la_ci, la_ca, la_cq, qa_ci, qa_ca, qa_cl, tk_link], ?_⟩
    intro S8 eS8
    have nS8 : FX [12, 13, 25, 26, 27] S S8 := FX_r eS8 (by decide) nS
    have arS8 := ar_cr eS8 (by decide)
    have laS8 := la_cr eS8 (by decide)
    have qaS8 := qa_cr eS8 (by decide)
    unfold wT_X2_remove_29
    intro z9 ez9
    refine ⟨fun c3 => ?_, fun q10 c3 => ?_⟩
    · intro z11 ez11
      intro S12 eS12
      have nS12 : FX [12, 13, 25, 26, 27] S S12 := FX_r eS12 (by decide) nS8
      have arS12 := ar_cr eS12 (by decide)
      have laS12 := la_cr eS12 (by decide)
      have qaS12 := qa_cr eS12 (by decide)
      unfold wT_X2_remove_58
      intro S17 eS17
      have nS17 : FX [12, 13, 25, 26, 27] S S17 := FX_r eS17 (by decide) nS12
      have arS17 := ar_cr eS17 (by decide)
      have laS17 := la_cr eS17 (by decide)
      have qaS17 := qa_cr eS17 (by decide)
      intro S18 eS18
      have nS18 : FX [12, 13, 25, 26, 27] S S18 := FX_r eS18 (by decide) nS17
      have arS18 := ar_cr eS18 (by decide)
      have laS18 := la_cr eS18 (by decide)
      have qaS18 := qa_cr eS18 (by decide)
      intro S19 eS19
      have nS19 : FX [12, 13, 25, 26, 27] S S19 := FX_r eS19 (by decide) nS18
      have arS19 := ar_cr eS19 (by decide)
      have laS19 := la_cr eS19 (by decide)
      have qaS19 := qa_cr eS19 (by decide)
      exact by grind [k_ii, k_ir, k_ri, k_rr, k_ai, k_ar, k_li, k_lr, k_qi, k_qr, ar_ci, ar_cl, ar_cq, la_ci, la_ca, la_cq, qa_ci, qa_ca, qa_cl, tk_link]
    · intro z13 ez13
      intro z14 ez14
      refine ⟨q10, by grind [k_ii, k_ir, k_ri, k_rr, k_ai, k_ar, k_li, k_lr, k_qi, k_qr, ar_ci, ar_cl, ar_cq, la_ci, la_ca, la_cq, qa_ci, qa_ca, qa_cl, tk_link], ?_⟩
      intro S16 eS16
      have nS16 : FX [12, 13, 25, 26, 27] S S16 := FX_r eS16 (by decide) nS8
      have arS16 := ar_cr eS16 (by decide)
      have laS16 := la_cr eS16 (by decide)
      have qaS16 := qa_cr eS16 (by decide)
      unfold wT_X2_remove_58
      intro S17 eS17
      have nS17 : FX [12, 13, 25, 26, 27] S S17 := FX_r eS17 (by decide) nS16
      have arS17 := ar_cr eS17 (by decide)
      have laS17 := la_cr eS17 (by decide)
      have qaS17 := qa_cr eS17 (by decide)
      intro S18 eS18
      have nS18 : FX [12, 13, 25, 26, 27] S S18 := FX_r eS18 (by decide) nS17
      have arS18 := ar_cr eS18 (by decide)
      have laS18 := la_cr eS18 (by decide)
      have qaS18 := qa_cr eS18 (by decide)
      intro S19 eS19
      have nS19 : FX [12, 13, 25, 26, 27] S S19 := FX_r eS19 (by decide) nS18
      have arS19 := ar_cr eS19 (by decide)
      have laS19 := la_cr eS19 (by decide)
      have qaS19 := qa_cr eS19 (by decide)
      exact by grind [k_ii, k_ir, k_ri, k_rr, k_ai, k_ar, k_li, k_lr, k_qi, k_qr, ar_ci, ar_cl, ar_cq, la_ci, la_ca, la_cq, qa_ci, qa_ca, qa_cl, tk_link]
