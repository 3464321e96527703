
set_option maxHeartbeats 400000 in
theorem sk_X1_settle {N T G : Nat → Prop} {U : List Nat} {L : Nat → List Nat} {D : Nat → Nat} {P : Nat → Int32} (t0 : Nat) (a0 : Nat) {S : kS} (hI : INJ S) (hH : HI t0 N T G U L D P S) (ht : tl S t0 a0) (hg : G a0) : wT_X1_settle t0 a0 S (fun S1 => HI t0 N T G U L D P S1 ∧ K3 S S1) := by
  have nS : FX [] S S := FX_rf
  unfold wT_X1_settle
  intro z1 ez1
  refine ⟨fun c1 => ?_, fun c1 => ?_⟩
  · exact ⟨hH, K3_rf⟩
  · intro z3 ez3
    have s1 : S.1 30 a0 = 1 := by grind [k_ii, k_ir, k_ri, k_rr, k_ai, k_ar, k_li, k_lr, k_qi, k_qr, ar_ci, ar_cl, ar_cq, la_ci, la_ca, la_cq, qa_ci, qa_ca, qa_cl, tk_link]
    refine ⟨fun c2 => ?_, fun c2 => ?_⟩
    · exact ⟨hH, K3_rf⟩
    · intro z5 ez5
      have o1 : S.1 38 a0 ≠ 0 := by grind [k_ii, k_ir, k_ri, k_rr, k_ai, k_ar, k_li, k_lr, k_qi, k_qr, ar_ci, ar_cl, ar_cq, la_ci, la_ca, la_cq, qa_ci, qa_ca, qa_cl, tk_link]
      have sg := hH.2.2.2.1 a0 hg ht
      have cl1 := sg.1 (Or.inr (Or.inr ⟨s1, o1⟩))
      refine ⟨fun c3 => ?_, fun c3 => ?_⟩
      · intro S7 eS7
        have nS7 : FX [] S S7 := FX_i eS7 nS
        exact ⟨HI_st hH eS7 (fun _ => nr_q hH.2.2.2.2.2.1 (by rw [s1]; decide)) (fun _ _ => cl1) (fun _ _ => sg.2 (Or.inr (Or.inl s1))), K3_i eS7 (Or.inr (by rw [s1]; decide))⟩
      · refine kmT_X1_enterRow _ _ _ _ _ (fun S8 hF4 pS8 => ?_) (sk_X1_enterRow _ _ (INJ_x nS (by decide) hI) (⟨hH.2.2.2.2.2.1.1.1, hH.2.2.2.2.2.1.1.2.1⟩))
        have nS8 : FX [] S S8 := FX_k hF4 (by decide) nS
        have fS8 := HF_k hF4 (INJ_x nS (by decide) hI) (by decide) (by decide) (by decide)
        clear hF4
        exact ⟨HI_en hH ht (nr_s hH.2.2.2.2.2.1 hH.1 ht (by rw [s1]; decide)) cl1 (sg.2 (Or.inr (Or.inl s1))) (HF_s fS8 (by decide) (by decide) (by decide) (by decide)) pS8, K3_en pS8 (by rw [s1]; decide)⟩
