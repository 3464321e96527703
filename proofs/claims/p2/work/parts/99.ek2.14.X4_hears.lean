
set_option maxHeartbeats 400000 in
theorem sk_X4_hears (t0 : Nat) (a0 : Int32) (a1 : Int32) {S : kS} (hI : INJ S) (ha : a0 ≠ 0) : wT_X4_hears t0 a0 a1 S (fun S1 r => (r ≠ 0 → S1.1 13 t0 ≠ 0) ∧ (r = 0 → S1.1 13 t0 = S.1 13 t0) ∧ ∀ o, o ≠ t0 → S1.1 13 o = S.1 13 o) := by
  have nS : FX [] S S := FX_rf
  unfold wT_X4_hears
  intro z1 ez1
  refine ⟨fun c1 => ?_, fun c1 => ?_⟩
  · unfold wT_X4_hears_50
    intro S13 eS13
    have nS13 : FX [] S S13 := FX_i eS13 nS
    intro S14 eS14
    have nS14 : FX [] S S14 := FX_i eS14 nS13
    exact by grind [k_ii, k_ir, k_ri, k_rr, k_ai, k_ar, k_li, k_lr, k_qi, k_qr, ar_ci, ar_cl, ar_cq, la_ci, la_ca, la_cq, qa_ci, qa_ca, qa_cl, tk_link]
  · refine ⟨fun c2 => ?_, fun c2 => ?_⟩
    · unfold wT_X4_hears_50
      intro S13 eS13
      have nS13 : FX [] S S13 := FX_i eS13 nS
      intro S14 eS14
      have nS14 : FX [] S S14 := FX_i eS14 nS13
      exact by grind [k_ii, k_ir, k_ri, k_rr, k_ai, k_ar, k_li, k_lr, k_qi, k_qr, ar_ci, ar_cl, ar_cq, la_ci, la_ca, la_cq, qa_ci, qa_ca, qa_cl, tk_link]
    · intro z4 ez4
      intro z5 ez5
      intro S6 eS6
      have nS6 : FX [] S S6 := FX_i eS6 nS
      intro z7 ez7
      intro z8 ez8
      intro S9 eS9
      have nS9 : FX [] S S9 := FX_i eS9 nS6
      intro z10 ez10
      refine ⟨fun c3 => ?_, fun c3 => ?_⟩
      · intro S12 eS12
        have nS12 : FX [] S S12 := FX_i eS12 nS9
        exact by grind [k_ii, k_ir, k_ri, k_rr, k_ai, k_ar, k_li, k_lr, k_qi, k_qr, ar_ci, ar_cl, ar_cq, la_ci, la_ca, la_cq, qa_ci, qa_ca, qa_cl, tk_link]
      · exact by grind [k_ii, k_ir, k_ri, k_rr, k_ai, k_ar, k_li, k_lr, k_qi, k_qr, ar_ci, ar_cl, ar_cq, la_ci, la_ca, la_cq, qa_ci, qa_ca, qa_cl, tk_link]
