
set_option maxHeartbeats 400000 in
theorem sk_X2_add {Q : List Nat} (t0 : Nat) (a0 : Nat) {S : kS} (hI : INJ S) (hD : DL (S.2.1 26) (S.2.1 27) none Q none) (hf : S.2.1 12 t0 = hdo Q none) (hl : S.2.1 13 t0 = lso Q none) (hn : Q.Nodup) (ha : a0 ∉ Q) : wT_X2_add t0 a0 S (fun S1 => ∃ l1 l2, Q = l1 ++ l2 ∧ (∀ x, S1.2.1 26 x = adA (fu (S.2.1 26) a0 (lso l1 none)) (hdo l2 none) a0 x) ∧ (∀ x, S1.2.1 27 x = adB (fu (S.2.1 27) a0 (hdo l2 none)) (lso l1 none) a0 x) ∧ (∀ x, S1.2.1 25 x = if x = a0 then some t0 else S.2.1 25 x) ∧ (∀ x, S1.2.1 12 x = if x = t0 ∧ lso l1 none = none then some a0 else S.2.1 12 x) ∧ (∀ x, S1.2.1 13 x = if x = t0 ∧ hdo l2 none = none then some a0 else S.2.1 13 x)) := by
  have nS : FX [12, 13, 25, 26, 27] S S := FX_rf
  unfold wT_X2_add
  intro z1 ez1
  refine it_rule (fun u : Nat × Nat × Option Nat × kS => (FX [12, 13, 25, 26, 27] S u.2.2.2) ∧ (S = u.2.2.2 ∧ t0 = u.1 ∧ a0 = u.2.1 ∧ ∃ l1 l2, Q = l1 ++ l2 ∧ u.2.2.1 = lso l1 none)) (fun u => (((psx Q u.2.2.1 : Nat) : Int)).toNat) ?_ (by exact ⟨nS, rfl, rfl, rfl, Q, [], (List.append_nil Q).symm, by rw [ez1]; exact hl⟩)
  rintro ⟨x0, x1, x2, Sl5⟩ k5 hI5 hk5
  replace hI5 : (FX [12, 13, 25, 26, 27] S Sl5) ∧ (S = Sl5 ∧ t0 = x0 ∧ a0 = x1 ∧ ∃ l1 l2, Q = l1 ++ l2 ∧ x2 = lso l1 none) := hI5
  obtain ⟨nSl5, hI5⟩ := hI5
  replace hk5 : ∀ v : Nat × Nat × Option Nat × kS, (FX [12, 13, 25, 26, 27] S v.2.2.2) ∧ (S = v.2.2.2 ∧ t0 = v.1 ∧ a0 = v.2.1 ∧ ∃ l1 l2, Q = l1 ++ l2 ∧ v.2.2.1 = lso l1 none) → (((psx Q v.2.2.1 : Nat) : Int)).toNat < (((psx Q x2 : Nat) : Int)).toNat → k5 v := hk5
  show wT_X2_add_5 _ k5 x0 x1 x2 Sl5
  unfold wT_X2_add_5
  obtain ⟨rfl, hI5⟩ := hI5
  obtain ⟨rfl, hI5⟩ := hI5
  obtain ⟨rfl, hI5⟩ := hI5
  obtain ⟨l1, l2, hq, hx⟩ := hI5
  have fb := dl_fb hD hq
  have fm : ∀ q, q ∈ l1 ∨ q ∈ l2 → q ≠ a0 := fun q h9 e9 => ha (by rw [hq, ← e9]; exact List.mem_append.mpr h9)
  have fq : ∀ q, lso l1 none = some q → q ≠ a0 := fun q h9 => by obtain ⟨r, er, _⟩ := (fb.2 q h9).2; exact fm q (Or.inl (by rw [er]; exact List.mem_append_right _ (List.mem_cons_self ..)))
  have fh : ∀ q, hdo l2 none = some q → q ≠ a0 := fun q h9 => by obtain ⟨r, er⟩ := hdo_some h9; exact fm q (Or.inr (by rw [er]; exact List.mem_cons_self ..))
  have fg : ∀ q, lso l1 none = some q → hdo l2 none ≠ some q := fun q h9 h8 => by obtain ⟨r, er, _⟩ := (fb.2 q h9).2; obtain ⟨r2, er2⟩ := hdo_some h8; rw [hq] at hn; exact (List.nodup_append.mp hn).2.2 q (by rw [er]; exact List.mem_append_right _ (List.mem_cons_self ..)) q (by rw [er2]; exact List.mem_cons_self ..) rfl
  refine ⟨fun c1 => ?_, fun q2 c1 => ?_⟩
  · unfold wT_X2_add_28
    refine ⟨fun c2 => ?_, fun q7 c2 => ?_⟩
    · intro z8 ez8
      unfold wT_X2_add_43
      intro S10 eS10
      have nS10 : FX [12, 13, 25, 26, 27] S S10 := FX_r eS10 (by decide) nS
      have arS10 := ar_cr eS10 (by decide)
      have laS10 := la_cr eS10 (by decide)
      have qaS10 := qa_cr eS10 (by decide)
      intro S11 eS11
      have nS11 : FX [12, 13, 25, 26, 27] S S11 := FX_r eS11 (by decide) nS10
      have arS11 := ar_cr eS11 (by decide)
      have laS11 := la_cr eS11 (by decide)
      have qaS11 := qa_cr eS11 (by decide)
      intro S12 eS12
      have nS12 : FX [12, 13, 25, 26, 27] S S12 := FX_r eS12 (by decide) nS11
      have arS12 := ar_cr eS12 (by decide)
      have laS12 := la_cr eS12 (by decide)
      have qaS12 := qa_cr eS12 (by decide)
      refine ⟨fun c3 => ?_, fun q13 c3 => ?_⟩
      · intro S14 eS14
        have nS14 : FX [12, 13, 25, 26, 27] S S14 := FX_r eS14 (by decide) nS12
        have arS14 := ar_cr eS14 (by decide)
        have laS14 := la_cr eS14 (by decide)
        have qaS14 := qa_cr eS14 (by decide)
        unfold wT_X2_add_76
        refine ⟨fun c4 => ?_, fun q16 c4 => ?_⟩
        · intro S17 eS17
          have nS17 : FX [12, 13, 25, 26, 27] S S17 := FX_r eS17 (by decide) nS14
          have arS17 := ar_cr eS17 (by decide)
          have laS17 := la_cr eS17 (by decide)
          have qaS17 := qa_cr eS17 (by decide)
          exact ⟨l1, l2, hq, by (try clear hk5); grind [adA_x, adB_x, fu_x, k_ii, k_ir, k_ri, k_rr, k_ai, k_ar, k_li, k_lr, k_qi, k_qr, ar_ci, ar_cl, ar_cq, la_ci, la_ca, la_cq, qa_ci, qa_ca, qa_cl, tk_link], by (try clear hk5); grind [adA_x, adB_x, fu_x, k_ii, k_ir, k_ri, k_rr, k_ai, k_ar, k_li, k_lr, k_qi, k_qr, ar_ci, ar_cl, ar_cq, la_ci, la_ca, la_cq, qa_ci, qa_ca, qa_cl, tk_link], by (try clear hk5); grind [adA_x, adB_x, fu_x, k_ii, k_ir, k_ri, k_rr, k_ai, k_ar, k_li, k_lr, k_qi, k_qr, ar_ci, ar_cl, ar_cq, la_ci, la_ca, la_cq, qa_ci, qa_ca, qa_cl, tk_link], by (try clear hk5); grind [adA_x, adB_x, fu_x, k_ii, k_ir, k_ri, k_rr, k_ai, k_ar, k_li, k_lr, k_qi, k_qr, ar_ci, ar_cl, ar_cq, la_ci, la_ca, la_cq, qa_ci, qa_ca, qa_cl, tk_link], by (try clear hk5); grind [adA_x, adB_x, fu_x, k_ii, k_ir, k_ri, k_rr, k_ai, k_ar, k_li, k_lr, k_qi, k_qr, ar_ci, ar_cl, ar_cq, la_ci, la_ca, la_cq, qa_ci, qa_ca, qa_cl, tk_link]⟩
        · intro S18 eS18
          have nS18 : FX [12, 13, 25, 26, 27] S S18 := FX_r eS18 (by decide) nS14
          have arS18 := ar_cr eS18 (by decide)
          have laS18 := la_cr eS18 (by decide)
          have qaS18 := qa_cr eS18 (by decide)
          exact ⟨l1, l2, hq, by (try clear hk5); grind [adA_x, adB_x, fu_x, k_ii, k_ir, k_ri, k_rr, k_ai, k_ar, k_li, k_lr, k_qi, k_qr, ar_ci, ar_cl, ar_cq, la_ci, la_ca, la_cq, qa_ci, qa_ca, qa_cl, tk_link], by (try clear hk5); grind [adA_x, adB_x, fu_x, k_ii, k_ir, k_ri, k_rr, k_ai, k_ar, k_li, k_lr, k_qi, k_qr, ar_ci, ar_cl, ar_cq, la_ci, la_ca, la_cq, qa_ci, qa_ca, qa_cl, tk_link], by (try clear hk5); grind [adA_x, adB_x, fu_x, k_ii, k_ir, k_ri, k_rr, k_ai, k_ar, k_li, k_lr, k_qi, k_qr, ar_ci, ar_cl, ar_cq, la_ci, la_ca, la_cq, qa_ci, qa_ca, qa_cl, tk_link], by (try clear hk5); grind [adA_x, adB_x, fu_x, k_ii, k_ir, k_ri, k_rr, k_ai, k_ar, k_li, k_lr, k_qi, k_qr, ar_ci, ar_cl, ar_cq, la_ci, la_ca, la_cq, qa_ci, qa_ca, qa_cl, tk_link], by (try clear hk5); grind [adA_x, adB_x, fu_x, k_ii, k_ir, k_ri, k_rr, k_ai, k_ar, k_li, k_lr, k_qi, k_qr, ar_ci, ar_cl, ar_cq, la_ci, la_ca, la_cq, qa_ci, qa_ca, qa_cl, tk_link]⟩
      · intro S15 eS15
        have nS15 : FX [12, 13, 25, 26, 27] S S15 := FX_r eS15 (by decide) nS12
        have arS15 := ar_cr eS15 (by decide)
        have laS15 := la_cr eS15 (by decide)
        have qaS15 := qa_cr eS15 (by decide)
        unfold wT_X2_add_76
        refine ⟨fun c5 => ?_, fun q16 c5 => ?_⟩
        · intro S17 eS17
          have nS17 : FX [12, 13, 25, 26, 27] S S17 := FX_r eS17 (by decide) nS15
          have arS17 := ar_cr eS17 (by decide)
          have laS17 := la_cr eS17 (by decide)
          have qaS17 := qa_cr eS17 (by decide)
          exact ⟨l1, l2, hq, by (try clear hk5); grind [adA_x, adB_x, fu_x, k_ii, k_ir, k_ri, k_rr, k_ai, k_ar, k_li, k_lr, k_qi, k_qr, ar_ci, ar_cl, ar_cq, la_ci, la_ca, la_cq, qa_ci, qa_ca, qa_cl, tk_link], by (try clear hk5); grind [adA_x, adB_x, fu_x, k_ii, k_ir, k_ri, k_rr, k_ai, k_ar, k_li, k_lr, k_qi, k_qr, ar_ci, ar_cl, ar_cq, la_ci, la_ca, la_cq, qa_ci, qa_ca, qa_cl, tk_link], by (try clear hk5); grind [adA_x, adB_x, fu_x, k_ii, k_ir, k_ri, k_rr, k_ai, k_ar, k_li, k_lr, k_qi, k_qr, ar_ci, ar_cl, ar_cq, la_ci, la_ca, la_cq, qa_ci, qa_ca, qa_cl, tk_link], by (try clear hk5); grind [adA_x, adB_x, fu_x, k_ii, k_ir, k_ri, k_rr, k_ai, k_ar, k_li, k_lr, k_qi, k_qr, ar_ci, ar_cl, ar_cq, la_ci, la_ca, la_cq, qa_ci, qa_ca, qa_cl, tk_link], by (try clear hk5); grind [adA_x, adB_x, fu_x, k_ii, k_ir, k_ri, k_rr, k_ai, k_ar, k_li, k_lr, k_qi, k_qr, ar_ci, ar_cl, ar_cq, la_ci, la_ca, la_cq, qa_ci, qa_ca, qa_cl, tk_link]⟩
        · intro S18 eS18
          have nS18 : FX [12, 13, 25, 26, 27] S S18 := FX_r eS18 (by decide) nS15
          have arS18 := ar_cr eS18 (by decide)
          have laS18 := la_cr eS18 (by decide)
          have qaS18 := qa_cr eS18 (by decide)
          exact ⟨l1, l2, hq, by (try clear hk5); grind [adA_x, adB_x, fu_x, k_ii, k_ir, k_ri, k_rr, k_ai, k_ar, k_li, k_lr, k_qi, k_qr, ar_ci, ar_cl, ar_cq, la_ci, la_ca, la_cq, qa_ci, qa_ca, qa_cl, tk_link], by (try clear hk5); grind [adA_x, adB_x, fu_x, k_ii, k_ir, k_ri, k_rr, k_ai, k_ar, k_li, k_lr, k_qi, k_qr, ar_ci, ar_cl, ar_cq, la_ci, la_ca, la_cq, qa_ci, qa_ca, qa_cl, tk_link], by (try clear hk5); grind [adA_x, adB_x, fu_x, k_ii, k_ir, k_ri, k_rr, k_ai, k_ar, k_li, k_lr, k_qi, k_qr, ar_ci, ar_cl, ar_cq, la_ci, la_ca, la_cq, qa_ci, qa_ca, qa_cl, tk_link], by (try clear hk5); grind [adA_x, adB_x, fu_x, k_ii, k_ir, k_ri, k_rr, k_ai, k_ar, k_li, k_lr, k_qi, k_qr, ar_ci, ar_cl, ar_cq, la_ci, la_ca, la_cq, qa_ci, qa_ca, qa_cl, tk_link], by (try clear hk5); grind [adA_x, adB_x, fu_x, k_ii, k_ir, k_ri, k_rr, k_ai, k_ar, k_li, k_lr, k_qi, k_qr, ar_ci, ar_cl, ar_cq, la_ci, la_ca, la_cq, qa_ci, qa_ca, qa_cl, tk_link]⟩
    · intro z9 ez9
      unfold wT_X2_add_43
      intro S10 eS10
      have nS10 : FX [12, 13, 25, 26, 27] S S10 := FX_r eS10 (by decide) nS
      have arS10 := ar_cr eS10 (by decide)
      have laS10 := la_cr eS10 (by decide)
      have qaS10 := qa_cr eS10 (by decide)
      intro S11 eS11
      have nS11 : FX [12, 13, 25, 26, 27] S S11 := FX_r eS11 (by decide) nS10
      have arS11 := ar_cr eS11 (by decide)
      have laS11 := la_cr eS11 (by decide)
      have qaS11 := qa_cr eS11 (by decide)
      intro S12 eS12
      have nS12 : FX [12, 13, 25, 26, 27] S S12 := FX_r eS12 (by decide) nS11
      have arS12 := ar_cr eS12 (by decide)
      have laS12 := la_cr eS12 (by decide)
      have qaS12 := qa_cr eS12 (by decide)
      refine ⟨fun c6 => ?_, fun q13 c6 => ?_⟩
      · intro S14 eS14
        have nS14 : FX [12, 13, 25, 26, 27] S S14 := FX_r eS14 (by decide) nS12
        have arS14 := ar_cr eS14 (by decide)
        have laS14 := la_cr eS14 (by decide)
        have qaS14 := qa_cr eS14 (by decide)
        unfold wT_X2_add_76
        refine ⟨fun c7 => ?_, fun q16 c7 => ?_⟩
        · intro S17 eS17
          have nS17 : FX [12, 13, 25, 26, 27] S S17 := FX_r eS17 (by decide) nS14
          have arS17 := ar_cr eS17 (by decide)
          have laS17 := la_cr eS17 (by decide)
          have qaS17 := qa_cr eS17 (by decide)
          exact ⟨l1, l2, hq, by (try clear hk5); grind [adA_x, adB_x, fu_x, k_ii, k_ir, k_ri, k_rr, k_ai, k_ar, k_li, k_lr, k_qi, k_qr, ar_ci, ar_cl, ar_cq, la_ci, la_ca, la_cq, qa_ci, qa_ca, qa_cl, tk_link], by (try clear hk5); grind [adA_x, adB_x, fu_x, k_ii, k_ir, k_ri, k_rr, k_ai, k_ar, k_li, k_lr, k_qi, k_qr, ar_ci, ar_cl, ar_cq, la_ci, la_ca, la_cq, qa_ci, qa_ca, qa_cl, tk_link], by (try clear hk5); grind [adA_x, adB_x, fu_x, k_ii, k_ir, k_ri, k_rr, k_ai, k_ar, k_li, k_lr, k_qi, k_qr, ar_ci, ar_cl, ar_cq, la_ci, la_ca, la_cq, qa_ci, qa_ca, qa_cl, tk_link], by (try clear hk5); grind [adA_x, adB_x, fu_x, k_ii, k_ir, k_ri, k_rr, k_ai, k_ar, k_li, k_lr, k_qi, k_qr, ar_ci, ar_cl, ar_cq, la_ci, la_ca, la_cq, qa_ci, qa_ca, qa_cl, tk_link], by (try clear hk5); grind [adA_x, adB_x, fu_x, k_ii, k_ir, k_ri, k_rr, k_ai, k_ar, k_li, k_lr, k_qi, k_qr, ar_ci, ar_cl, ar_cq, la_ci, la_ca, la_cq, qa_ci, qa_ca, qa_cl, tk_link]⟩
        · intro S18 eS18
          have nS18 : FX [12, 13, 25, 26, 27] S S18 := FX_r eS18 (by decide) nS14
          have arS18 := ar_cr eS18 (by decide)
          have laS18 := la_cr eS18 (by decide)
          have qaS18 := qa_cr eS18 (by decide)
          exact ⟨l1, l2, hq, by (try clear hk5); grind [adA_x, adB_x, fu_x, k_ii, k_ir, k_ri, k_rr, k_ai, k_ar, k_li, k_lr, k_qi, k_qr, ar_ci, ar_cl, ar_cq, la_ci, la_ca, la_cq, qa_ci, qa_ca, qa_cl, tk_link], by (try clear hk5); grind [adA_x, adB_x, fu_x, k_ii, k_ir, k_ri, k_rr, k_ai, k_ar, k_li, k_lr, k_qi, k_qr, ar_ci, ar_cl, ar_cq, la_ci, la_ca, la_cq, qa_ci, qa_ca, qa_cl, tk_link], by (try clear hk5); grind [adA_x, adB_x, fu_x, k_ii, k_ir, k_ri, k_rr, k_ai, k_ar, k_li, k_lr, k_qi, k_qr, ar_ci, ar_cl, ar_cq, la_ci, la_ca, la_cq, qa_ci, qa_ca, qa_cl, tk_link], by (try clear hk5); grind [adA_x, adB_x, fu_x, k_ii, k_ir, k_ri, k_rr, k_ai, k_ar, k_li, k_lr, k_qi, k_qr, ar_ci, ar_cl, ar_cq, la_ci, la_ca, la_cq, qa_ci, qa_ca, qa_cl, tk_link], by (try clear hk5); grind [adA_x, adB_x, fu_x, k_ii, k_ir, k_ri, k_rr, k_ai, k_ar, k_li, k_lr, k_qi, k_qr, ar_ci, ar_cl, ar_cq, la_ci, la_ca, la_cq, qa_ci, qa_ca, qa_cl, tk_link]⟩
      · intro S15 eS15
        have nS15 : FX [12, 13, 25, 26, 27] S S15 := FX_r eS15 (by decide) nS12
        have arS15 := ar_cr eS15 (by decide)
        have laS15 := la_cr eS15 (by decide)
        have qaS15 := qa_cr eS15 (by decide)
        unfold wT_X2_add_76
        refine ⟨fun c8 => ?_, fun q16 c8 => ?_⟩
        · intro S17 eS17
          have nS17 : FX [12, 13, 25, 26, 27] S S17 := FX_r eS17 (by decide) nS15
          have arS17 := ar_cr eS17 (by decide)
          have laS17 := la_cr eS17 (by decide)
          have qaS17 := qa_cr eS17 (by decide)
          exact ⟨l1, l2, hq, by (try clear hk5); grind [adA_x, adB_x, fu_x, k_ii, k_ir, k_ri, k_rr, k_ai, k_ar, k_li, k_lr, k_qi, k_qr, ar_ci, ar_cl, ar_cq, la_ci, la_ca, la_cq, qa_ci, qa_ca, qa_cl, tk_link], by (try clear hk5); grind [adA_x, adB_x, fu_x, k_ii, k_ir, k_ri, k_rr, k_ai, k_ar, k_li, k_lr, k_qi, k_qr, ar_ci, ar_cl, ar_cq, la_ci, la_ca, la_cq, qa_ci, qa_ca, qa_cl, tk_link], by (try clear hk5); grind [adA_x, adB_x, fu_x, k_ii, k_ir, k_ri, k_rr, k_ai, k_ar, k_li, k_lr, k_qi, k_qr, ar_ci, ar_cl, ar_cq, la_ci, la_ca, la_cq, qa_ci, qa_ca, qa_cl, tk_link], by (try clear hk5); grind [adA_x, adB_x, fu_x, k_ii, k_ir, k_ri, k_rr, k_ai, k_ar, k_li, k_lr, k_qi, k_qr, ar_ci, ar_cl, ar_cq, la_ci, la_ca, la_cq, qa_ci, qa_ca, qa_cl, tk_link], by (try clear hk5); grind [adA_x, adB_x, fu_x, k_ii, k_ir, k_ri, k_rr, k_ai, k_ar, k_li, k_lr, k_qi, k_qr, ar_ci, ar_cl, ar_cq, la_ci, la_ca, la_cq, qa_ci, qa_ca, qa_cl, tk_link]⟩
        · intro S18 eS18
          have nS18 : FX [12, 13, 25, 26, 27] S S18 := FX_r eS18 (by decide) nS15
          have arS18 := ar_cr eS18 (by decide)
          have laS18 := la_cr eS18 (by decide)
          have qaS18 := qa_cr eS18 (by decide)
          exact ⟨l1, l2, hq, by (try clear hk5); grind [adA_x, adB_x, fu_x, k_ii, k_ir, k_ri, k_rr, k_ai, k_ar, k_li, k_lr, k_qi, k_qr, ar_ci, ar_cl, ar_cq, la_ci, la_ca, la_cq, qa_ci, qa_ca, qa_cl, tk_link], by (try clear hk5); grind [adA_x, adB_x, fu_x, k_ii, k_ir, k_ri, k_rr, k_ai, k_ar, k_li, k_lr, k_qi, k_qr, ar_ci, ar_cl, ar_cq, la_ci, la_ca, la_cq, qa_ci, qa_ca, qa_cl, tk_link], by (try clear hk5); grind [adA_x, adB_x, fu_x, k_ii, k_ir, k_ri, k_rr, k_ai, k_ar, k_li, k_lr, k_qi, k_qr, ar_ci, ar_cl, ar_cq, la_ci, la_ca, la_cq, qa_ci, qa_ca, qa_cl, tk_link], by (try clear hk5); grind [adA_x, adB_x, fu_x, k_ii, k_ir, k_ri, k_rr, k_ai, k_ar, k_li, k_lr, k_qi, k_qr, ar_ci, ar_cl, ar_cq, la_ci, la_ca, la_cq, qa_ci, qa_ca, qa_cl, tk_link], by (try clear hk5); grind [adA_x, adB_x, fu_x, k_ii, k_ir, k_ri, k_rr, k_ai, k_ar, k_li, k_lr, k_qi, k_qr, ar_ci, ar_cl, ar_cq, la_ci, la_ca, la_cq, qa_ci, qa_ca, qa_cl, tk_link]⟩
  · intro z3 ez3
    intro z4 ez4
    refine ⟨fun c9 => ?_, fun c9 => ?_⟩
    · unfold wT_X2_add_28
      refine ⟨fun c10 => ?_, fun q7 c10 => ?_⟩
      · intro z8 ez8
        unfold wT_X2_add_43
        intro S10 eS10
        have nS10 : FX [12, 13, 25, 26, 27] S S10 := FX_r eS10 (by decide) nS
        have arS10 := ar_cr eS10 (by decide)
        have laS10 := la_cr eS10 (by decide)
        have qaS10 := qa_cr eS10 (by decide)
        intro S11 eS11
        have nS11 : FX [12, 13, 25, 26, 27] S S11 := FX_r eS11 (by decide) nS10
        have arS11 := ar_cr eS11 (by decide)
        have laS11 := la_cr eS11 (by decide)
        have qaS11 := qa_cr eS11 (by decide)
        intro S12 eS12
        have nS12 : FX [12, 13, 25, 26, 27] S S12 := FX_r eS12 (by decide) nS11
        have arS12 := ar_cr eS12 (by decide)
        have laS12 := la_cr eS12 (by decide)
        have qaS12 := qa_cr eS12 (by decide)
        refine ⟨fun c11 => ?_, fun q13 c11 => ?_⟩
        · intro S14 eS14
          have nS14 : FX [12, 13, 25, 26, 27] S S14 := FX_r eS14 (by decide) nS12
          have arS14 := ar_cr eS14 (by decide)
          have laS14 := la_cr eS14 (by decide)
          have qaS14 := qa_cr eS14 (by decide)
          unfold wT_X2_add_76
          refine ⟨fun c12 => ?_, fun q16 c12 => ?_⟩
          · intro S17 eS17
            have nS17 : FX [12, 13, 25, 26, 27] S S17 := FX_r eS17 (by decide) nS14
            have arS17 := ar_cr eS17 (by decide)
            have laS17 := la_cr eS17 (by decide)
            have qaS17 := qa_cr eS17 (by decide)
            exact ⟨l1, l2, hq, by (try clear hk5); grind [adA_x, adB_x, fu_x, k_ii, k_ir, k_ri, k_rr, k_ai, k_ar, k_li, k_lr, k_qi, k_qr, ar_ci, ar_cl, ar_cq, la_ci, la_ca, la_cq, qa_ci, qa_ca, qa_cl, tk_link], by (try clear hk5); grind [adA_x, adB_x, fu_x, k_ii, k_ir, k_ri, k_rr, k_ai, k_ar, k_li, k_lr, k_qi, k_qr, ar_ci, ar_cl, ar_cq, la_ci, la_ca, la_cq, qa_ci, qa_ca, qa_cl, tk_link], by (try clear hk5); grind [adA_x, adB_x, fu_x, k_ii, k_ir, k_ri, k_rr, k_ai, k_ar, k_li, k_lr, k_qi, k_qr, ar_ci, ar_cl, ar_cq, la_ci, la_ca, la_cq, qa_ci, qa_ca, qa_cl, tk_link], by (try clear hk5); grind [adA_x, adB_x, fu_x, k_ii, k_ir, k_ri, k_rr, k_ai, k_ar, k_li, k_lr, k_qi, k_qr, ar_ci, ar_cl, ar_cq, la_ci, la_ca, la_cq, qa_ci, qa_ca, qa_cl, tk_link], by (try clear hk5); grind [adA_x, adB_x, fu_x, k_ii, k_ir, k_ri, k_rr, k_ai, k_ar, k_li, k_lr, k_qi, k_qr, ar_ci, ar_cl, ar_cq, la_ci, la_ca, la_cq, qa_ci, qa_ca, qa_cl, tk_link]⟩
          · intro S18 eS18
            have nS18 : FX [12, 13, 25, 26, 27] S S18 := FX_r eS18 (by decide) nS14
            have arS18 := ar_cr eS18 (by decide)
            have laS18 := la_cr eS18 (by decide)
            have qaS18 := qa_cr eS18 (by decide)
            exact ⟨l1, l2, hq, by (try clear hk5); grind [adA_x, adB_x, fu_x, k_ii, k_ir, k_ri, k_rr, k_ai, k_ar, k_li, k_lr, k_qi, k_qr, ar_ci, ar_cl, ar_cq, la_ci, la_ca, la_cq, qa_ci, qa_ca, qa_cl, tk_link], by (try clear hk5); grind [adA_x, adB_x, fu_x, k_ii, k_ir, k_ri, k_rr, k_ai, k_ar, k_li, k_lr, k_qi, k_qr, ar_ci, ar_cl, ar_cq, la_ci, la_ca, la_cq, qa_ci, qa_ca, qa_cl, tk_link], by (try clear hk5); grind [adA_x, adB_x, fu_x, k_ii, k_ir, k_ri, k_rr, k_ai, k_ar, k_li, k_lr, k_qi, k_qr, ar_ci, ar_cl, ar_cq, la_ci, la_ca, la_cq, qa_ci, qa_ca, qa_cl, tk_link], by (try clear hk5); grind [adA_x, adB_x, fu_x, k_ii, k_ir, k_ri, k_rr, k_ai, k_ar, k_li, k_lr, k_qi, k_qr, ar_ci, ar_cl, ar_cq, la_ci, la_ca, la_cq, qa_ci, qa_ca, qa_cl, tk_link], by (try clear hk5); grind [adA_x, adB_x, fu_x, k_ii, k_ir, k_ri, k_rr, k_ai, k_ar, k_li, k_lr, k_qi, k_qr, ar_ci, ar_cl, ar_cq, la_ci, la_ca, la_cq, qa_ci, qa_ca, qa_cl, tk_link]⟩
        · intro S15 eS15
          have nS15 : FX [12, 13, 25, 26, 27] S S15 := FX_r eS15 (by decide) nS12
          have arS15 := ar_cr eS15 (by decide)
          have laS15 := la_cr eS15 (by decide)
          have qaS15 := qa_cr eS15 (by decide)
          unfold wT_X2_add_76
          refine ⟨fun c13 => ?_, fun q16 c13 => ?_⟩
          · intro S17 eS17
            have nS17 : FX [12, 13, 25, 26, 27] S S17 := FX_r eS17 (by decide) nS15
            have arS17 := ar_cr eS17 (by decide)
            have laS17 := la_cr eS17 (by decide)
            have qaS17 := qa_cr eS17 (by decide)
            exact ⟨l1, l2, hq, by (try clear hk5); grind [adA_x, adB_x, fu_x, k_ii, k_ir, k_ri, k_rr, k_ai, k_ar, k_li, k_lr, k_qi, k_qr, ar_ci, ar_cl, ar_cq, la_ci, la_ca, la_cq, qa_ci, qa_ca, qa_cl, tk_link], by (try clear hk5); grind [adA_x, adB_x, fu_x, k_ii, k_ir, k_ri, k_rr, k_ai, k_ar, k_li, k_lr, k_qi, k_qr, ar_ci, ar_cl, ar_cq, la_ci, la_ca, la_cq, qa_ci, qa_ca, qa_cl, tk_link], by (try clear hk5); grind [adA_x, adB_x, fu_x, k_ii, k_ir, k_ri, k_rr, k_ai, k_ar, k_li, k_lr, k_qi, k_qr, ar_ci, ar_cl, ar_cq, la_ci, la_ca, la_cq, qa_ci, qa_ca, qa_cl, tk_link], by (try clear hk5); grind [adA_x, adB_x, fu_x, k_ii, k_ir, k_ri, k_rr, k_ai, k_ar, k_li, k_lr, k_qi, k_qr, ar_ci, ar_cl, ar_cq, la_ci, la_ca, la_cq, qa_ci, qa_ca, qa_cl, tk_link], by (try clear hk5); grind [adA_x, adB_x, fu_x, k_ii, k_ir, k_ri, k_rr, k_ai, k_ar, k_li, k_lr, k_qi, k_qr, ar_ci, ar_cl, ar_cq, la_ci, la_ca, la_cq, qa_ci, qa_ca, qa_cl, tk_link]⟩
          · intro S18 eS18
            have nS18 : FX [12, 13, 25, 26, 27] S S18 := FX_r eS18 (by decide) nS15
            have arS18 := ar_cr eS18 (by decide)
            have laS18 := la_cr eS18 (by decide)
            have qaS18 := qa_cr eS18 (by decide)
            exact ⟨l1, l2, hq, by (try clear hk5); grind [adA_x, adB_x, fu_x, k_ii, k_ir, k_ri, k_rr, k_ai, k_ar, k_li, k_lr, k_qi, k_qr, ar_ci, ar_cl, ar_cq, la_ci, la_ca, la_cq, qa_ci, qa_ca, qa_cl, tk_link], by (try clear hk5); grind [adA_x, adB_x, fu_x, k_ii, k_ir, k_ri, k_rr, k_ai, k_ar, k_li, k_lr, k_qi, k_qr, ar_ci, ar_cl, ar_cq, la_ci, la_ca, la_cq, qa_ci, qa_ca, qa_cl, tk_link], by (try clear hk5); grind [adA_x, adB_x, fu_x, k_ii, k_ir, k_ri, k_rr, k_ai, k_ar, k_li, k_lr, k_qi, k_qr, ar_ci, ar_cl, ar_cq, la_ci, la_ca, la_cq, qa_ci, qa_ca, qa_cl, tk_link], by (try clear hk5); grind [adA_x, adB_x, fu_x, k_ii, k_ir, k_ri, k_rr, k_ai, k_ar, k_li, k_lr, k_qi, k_qr, ar_ci, ar_cl, ar_cq, la_ci, la_ca, la_cq, qa_ci, qa_ca, qa_cl, tk_link], by (try clear hk5); grind [adA_x, adB_x, fu_x, k_ii, k_ir, k_ri, k_rr, k_ai, k_ar, k_li, k_lr, k_qi, k_qr, ar_ci, ar_cl, ar_cq, la_ci, la_ca, la_cq, qa_ci, qa_ca, qa_cl, tk_link]⟩
      · intro z9 ez9
        unfold wT_X2_add_43
        intro S10 eS10
        have nS10 : FX [12, 13, 25, 26, 27] S S10 := FX_r eS10 (by decide) nS
        have arS10 := ar_cr eS10 (by decide)
        have laS10 := la_cr eS10 (by decide)
        have qaS10 := qa_cr eS10 (by decide)
        intro S11 eS11
        have nS11 : FX [12, 13, 25, 26, 27] S S11 := FX_r eS11 (by decide) nS10
        have arS11 := ar_cr eS11 (by decide)
        have laS11 := la_cr eS11 (by decide)
        have qaS11 := qa_cr eS11 (by decide)
        intro S12 eS12
        have nS12 : FX [12, 13, 25, 26, 27] S S12 := FX_r eS12 (by decide) nS11
        have arS12 := ar_cr eS12 (by decide)
        have laS12 := la_cr eS12 (by decide)
        have qaS12 := qa_cr eS12 (by decide)
        refine ⟨fun c14 => ?_, fun q13 c14 => ?_⟩
        · intro S14 eS14
          have nS14 : FX [12, 13, 25, 26, 27] S S14 := FX_r eS14 (by decide) nS12
          have arS14 := ar_cr eS14 (by decide)
          have laS14 := la_cr eS14 (by decide)
          have qaS14 := qa_cr eS14 (by decide)
          unfold wT_X2_add_76
          refine ⟨fun c15 => ?_, fun q16 c15 => ?_⟩
          · intro S17 eS17
            have nS17 : FX [12, 13, 25, 26, 27] S S17 := FX_r eS17 (by decide) nS14
            have arS17 := ar_cr eS17 (by decide)
            have laS17 := la_cr eS17 (by decide)
            have qaS17 := qa_cr eS17 (by decide)
            exact ⟨l1, l2, hq, by (try clear hk5); grind [adA_x, adB_x, fu_x, k_ii, k_ir, k_ri, k_rr, k_ai, k_ar, k_li, k_lr, k_qi, k_qr, ar_ci, ar_cl, ar_cq, la_ci, la_ca, la_cq, qa_ci, qa_ca, qa_cl, tk_link], by (try clear hk5); grind [adA_x, adB_x, fu_x, k_ii, k_ir, k_ri, k_rr, k_ai, k_ar, k_li, k_lr, k_qi, k_qr, ar_ci, ar_cl, ar_cq, la_ci, la_ca, la_cq, qa_ci, qa_ca, qa_cl, tk_link], by (try clear hk5); grind [adA_x, adB_x, fu_x, k_ii, k_ir, k_ri, k_rr, k_ai, k_ar, k_li, k_lr, k_qi, k_qr, ar_ci, ar_cl, ar_cq, la_ci, la_ca, la_cq, qa_ci, qa_ca, qa_cl, tk_link], by (try clear hk5); grind [adA_x, adB_x, fu_x, k_ii, k_ir, k_ri, k_rr, k_ai, k_ar, k_li, k_lr, k_qi, k_qr, ar_ci, ar_cl, ar_cq, la_ci, la_ca, la_cq, qa_ci, qa_ca, qa_cl, tk_link], by (try clear hk5); grind [adA_x, adB_x, fu_x, k_ii, k_ir, k_ri, k_rr, k_ai, k_ar, k_li, k_lr, k_qi, k_qr, ar_ci, ar_cl, ar_cq, la_ci, la_ca, la_cq, qa_ci, qa_ca, qa_cl, tk_link]⟩
          · intro S18 eS18
            have nS18 : FX [12, 13, 25, 26, 27] S S18 := FX_r eS18 (by decide) nS14
            have arS18 := ar_cr eS18 (by decide)
            have laS18 := la_cr eS18 (by decide)
            have qaS18 := qa_cr eS18 (by decide)
            exact ⟨l1, l2, hq, by (try clear hk5); grind [adA_x, adB_x, fu_x, k_ii, k_ir, k_ri, k_rr, k_ai, k_ar, k_li, k_lr, k_qi, k_qr, ar_ci, ar_cl, ar_cq, la_ci, la_ca, la_cq, qa_ci, qa_ca, qa_cl, tk_link], by (try clear hk5); grind [adA_x, adB_x, fu_x, k_ii, k_ir, k_ri, k_rr, k_ai, k_ar, k_li, k_lr, k_qi, k_qr, ar_ci, ar_cl, ar_cq, la_ci, la_ca, la_cq, qa_ci, qa_ca, qa_cl, tk_link], by (try clear hk5); grind [adA_x, adB_x, fu_x, k_ii, k_ir, k_ri, k_rr, k_ai, k_ar, k_li, k_lr, k_qi, k_qr, ar_ci, ar_cl, ar_cq, la_ci, la_ca, la_cq, qa_ci, qa_ca, qa_cl, tk_link], by (try clear hk5); grind [adA_x, adB_x, fu_x, k_ii, k_ir, k_ri, k_rr, k_ai, k_ar, k_li, k_lr, k_qi, k_qr, ar_ci, ar_cl, ar_cq, la_ci, la_ca, la_cq, qa_ci, qa_ca, qa_cl, tk_link], by (try clear hk5); grind [adA_x, adB_x, fu_x, k_ii, k_ir, k_ri, k_rr, k_ai, k_ar, k_li, k_lr, k_qi, k_qr, ar_ci, ar_cl, ar_cq, la_ci, la_ca, la_cq, qa_ci, qa_ca, qa_cl, tk_link]⟩
        · intro S15 eS15
          have nS15 : FX [12, 13, 25, 26, 27] S S15 := FX_r eS15 (by decide) nS12
          have arS15 := ar_cr eS15 (by decide)
          have laS15 := la_cr eS15 (by decide)
          have qaS15 := qa_cr eS15 (by decide)
          unfold wT_X2_add_76
          refine ⟨fun c16 => ?_, fun q16 c16 => ?_⟩
          · intro S17 eS17
            have nS17 : FX [12, 13, 25, 26, 27] S S17 := FX_r eS17 (by decide) nS15
            have arS17 := ar_cr eS17 (by decide)
            have laS17 := la_cr eS17 (by decide)
            have qaS17 := qa_cr eS17 (by decide)
            exact ⟨l1, l2, hq, by (try clear hk5); grind [adA_x, adB_x, fu_x, k_ii, k_ir, k_ri, k_rr, k_ai, k_ar, k_li, k_lr, k_qi, k_qr, ar_ci, ar_cl, ar_cq, la_ci, la_ca, la_cq, qa_ci, qa_ca, qa_cl, tk_link], by (try clear hk5); grind [adA_x, adB_x, fu_x, k_ii, k_ir, k_ri, k_rr, k_ai, k_ar, k_li, k_lr, k_qi, k_qr, ar_ci, ar_cl, ar_cq, la_ci, la_ca, la_cq, qa_ci, qa_ca, qa_cl, tk_link], by (try clear hk5); grind [adA_x, adB_x, fu_x, k_ii, k_ir, k_ri, k_rr, k_ai, k_ar, k_li, k_lr, k_qi, k_qr, ar_ci, ar_cl, ar_cq, la_ci, la_ca, la_cq, qa_ci, qa_ca, qa_cl, tk_link], by (try clear hk5); grind [adA_x, adB_x, fu_x, k_ii, k_ir, k_ri, k_rr, k_ai, k_ar, k_li, k_lr, k_qi, k_qr, ar_ci, ar_cl, ar_cq, la_ci, la_ca, la_cq, qa_ci, qa_ca, qa_cl, tk_link], by (try clear hk5); grind [adA_x, adB_x, fu_x, k_ii, k_ir, k_ri, k_rr, k_ai, k_ar, k_li, k_lr, k_qi, k_qr, ar_ci, ar_cl, ar_cq, la_ci, la_ca, la_cq, qa_ci, qa_ca, qa_cl, tk_link]⟩
          · intro S18 eS18
            have nS18 : FX [12, 13, 25, 26, 27] S S18 := FX_r eS18 (by decide) nS15
            have arS18 := ar_cr eS18 (by decide)
            have laS18 := la_cr eS18 (by decide)
            have qaS18 := qa_cr eS18 (by decide)
            exact ⟨l1, l2, hq, by (try clear hk5); grind [adA_x, adB_x, fu_x, k_ii, k_ir, k_ri, k_rr, k_ai, k_ar, k_li, k_lr, k_qi, k_qr, ar_ci, ar_cl, ar_cq, la_ci, la_ca, la_cq, qa_ci, qa_ca, qa_cl, tk_link], by (try clear hk5); grind [adA_x, adB_x, fu_x, k_ii, k_ir, k_ri, k_rr, k_ai, k_ar, k_li, k_lr, k_qi, k_qr, ar_ci, ar_cl, ar_cq, la_ci, la_ca, la_cq, qa_ci, qa_ca, qa_cl, tk_link], by (try clear hk5); grind [adA_x, adB_x, fu_x, k_ii, k_ir, k_ri, k_rr, k_ai, k_ar, k_li, k_lr, k_qi, k_qr, ar_ci, ar_cl, ar_cq, la_ci, la_ca, la_cq, qa_ci, qa_ca, qa_cl, tk_link], by (try clear hk5); grind [adA_x, adB_x, fu_x, k_ii, k_ir, k_ri, k_rr, k_ai, k_ar, k_li, k_lr, k_qi, k_qr, ar_ci, ar_cl, ar_cq, la_ci, la_ca, la_cq, qa_ci, qa_ca, qa_cl, tk_link], by (try clear hk5); grind [adA_x, adB_x, fu_x, k_ii, k_ir, k_ri, k_rr, k_ai, k_ar, k_li, k_lr, k_qi, k_qr, ar_ci, ar_cl, ar_cq, la_ci, la_ca, la_cq, qa_ci, qa_ca, qa_cl, tk_link]⟩
    · intro z6 ez6
      obtain ⟨r, er, ea⟩ := (fb.2 q2 (hx.symm.trans c1)).2
      have hb5 : Q = r ++ ([q2] ++ l2) := by rw [hq, er, List.append_assoc]
      have mb : psx Q (lso r none) < psx Q x2 := by rw [hx, psx_l hq hn, psx_l hb5 hn, er]; simp
      exact hk5 _ (by exact ⟨nS, rfl, rfl, rfl, r, [q2] ++ l2, hb5, by rw [ez6]; exact ea⟩) (by show ((psx Q z6 : Nat) : Int).toNat < ((psx Q x2 : Nat) : Int).toNat; rw [ez6, ea]; simpa using mb)
