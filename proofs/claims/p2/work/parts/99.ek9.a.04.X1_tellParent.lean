
set_option maxHeartbeats 400000 in
theorem sk_X1_tellParent {N T G : Nat → Prop} {U : List Nat} {L : Nat → List Nat} {D : Nat → Nat} {P : Nat → Int32} (t0 : Nat) (a0 : Nat) {S : kS} (hI : INJ S) (hH : HI t0 N T G U L D P S) (ht : tl S t0 a0) (hg : ∀ u, G u) : wT_X1_tellParent t0 a0 S (fun S1 => HI t0 N T G U L D P S1) := by
  have nS : FX [12, 13, 25, 26, 27] S S := FX_rf
  unfold wT_X1_tellParent
  intro z1 ez1
  refine ⟨fun c1 => ?_, fun q2 c1 => ?_⟩
  · exact hH
  · intro z3 ez3
    refine ⟨fun c2 => ?_, fun c2 => ?_⟩
    · intro z5 ez5
      obtain ⟨u9, m9⟩ : ∃ u, q2 ∈ L u := by have as9 := hH.2.2.2.2.1.1 a0 q2 ht (by grind [k_ii, k_ir, k_ri, k_rr, k_ai, k_ar, k_li, k_lr, k_qi, k_qr, ar_ci, ar_cl, ar_cq, la_ci, la_ca, la_cq, qa_ci, qa_ca, qa_cl, tk_link]); rcases as9 with as9 | as9; (exact as9); (exact absurd (show S.1 13 q2 = 0 by grind [k_ii, k_ir, k_ri, k_rr, k_ai, k_ar, k_li, k_lr, k_qi, k_qr, ar_ci, ar_cl, ar_cq, la_ci, la_ca, la_cq, qa_ci, qa_ca, qa_cl, tk_link]) as9.1)
      have ow9 := HI_own hH m9
      obtain ⟨d1, d2, d3, ro, d4, _⟩ := HI_dr hH ow9.1
      have s9 : S.1 13 q2 = 0 := by grind [k_ii, k_ir, k_ri, k_rr, k_ai, k_ar, k_li, k_lr, k_qi, k_qr, ar_ci, ar_cl, ar_cq, la_ci, la_ca, la_cq, qa_ci, qa_ca, qa_cl, tk_link]
      refine ⟨fun c3 => ?_, fun c3 => ?_⟩
      · intro z7 ez7
        refine kmT_X1_report _ _ _ _ _ _ _ (fun S8 hF4 pS8 => ?_) (sk_X1_report (n := (S.1 1 t0).toInt) (N := N) (LL := L) (D := D) (ro := ro) (t9 := u9) _ _ _ _ (INJ_x nS (by decide) hI) ow9.2.1 m9 (by decide) ow9.2.2.2 hH.1.2.1 hH.2.2.1 hH.2.2.2.2.2.2.1 d1 d2 d4 ow9.2.2.1 d3)
        have nS8 : FX [12, 13, 25, 26, 27] S S8 := FX_k hF4 (by decide) nS
        have fS8 := HF_k hF4 (INJ_x nS (by decide) hI) (by decide) (by decide) (by decide)
        clear hF4
        have h8 := HI_rp hH (hg u9) m9 s9 (HF_s fS8 (by decide) (by decide) (by decide) (by decide)) pS8
        exact h8
      · intro z9 ez9
        refine kmT_X1_report _ _ _ _ _ _ _ (fun S10 hF5 pS10 => ?_) (sk_X1_report (n := (S.1 1 t0).toInt) (N := N) (LL := L) (D := D) (ro := ro) (t9 := u9) _ _ _ _ (INJ_x nS (by decide) hI) ow9.2.1 m9 (by decide) ow9.2.2.2 hH.1.2.1 hH.2.2.1 hH.2.2.2.2.2.2.1 d1 d2 d4 ow9.2.2.1 d3)
        have nS10 : FX [12, 13, 25, 26, 27] S S10 := FX_k hF5 (by decide) nS
        have fS10 := HF_k hF5 (INJ_x nS (by decide) hI) (by decide) (by decide) (by decide)
        clear hF5
        have h10 := HI_rp hH (hg u9) m9 s9 (HF_s fS10 (by decide) (by decide) (by decide) (by decide)) pS10
        exact h10
    · exact hH
