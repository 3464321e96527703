
set_option maxHeartbeats 400000 in
theorem sk_X5_hasState (t0 : Nat) (a0 : Int32) (a1 : Int32) {S : kS} (hI : INJ S) (hr : (S.1 18 t0).toInt ≤ 12) : wT_X5_hasState t0 a0 a1 S (fun S1 r => S = S1 ∧ (r ≠ 0 → 0 ≤ a0.toInt ∧ a0.toInt < (S.1 18 t0).toInt ∧ 0 ≤ a1.toInt ∧ a1.toInt ≤ (ar S 36 t0 (ix a0)).toInt)) := by
  have nS : FX [] S S := FX_rf
  unfold wT_X5_hasState
  refine kmT_X5_has _ _ _ _ _ (fun S1 r1 hF1 pS1 => ?_) (sk_X5_has _ _ (INJ_x nS (by decide) hI) )
  obtain ⟨rfl, pS1⟩ := pS1
  clear hF1
  refine ⟨fun c2 => ?_, fun c2 => ?_⟩
  · exact by grind [k_ii, k_ir, k_ri, k_rr, k_ai, k_ar, k_li, k_lr, k_qi, k_qr, ar_ci, ar_cl, ar_cq, la_ci, la_ca, la_cq, qa_ci, qa_ca, qa_cl, tk_link, kn12]
  · refine ⟨fun c3 => ?_, fun c3 => ?_⟩
    · exact by grind [k_ii, k_ir, k_ri, k_rr, k_ai, k_ar, k_li, k_lr, k_qi, k_qr, ar_ci, ar_cl, ar_cq, la_ci, la_ca, la_cq, qa_ci, qa_ca, qa_cl, tk_link, kn12]
    · intro z4 ez4
      intro q5 eq5
      have wq5 := rd_w nS (by decide) ez4 eq5
      refine ⟨by grind [k_ii, k_ir, k_ri, k_rr, k_ai, k_ar, k_li, k_lr, k_qi, k_qr, ar_ci, ar_cl, ar_cq, la_ci, la_ca, la_cq, qa_ci, qa_ca, qa_cl, tk_link, kn12], ?_⟩
      intro z6 ez6
      replace ez6 := ez6.trans (ar_rd nS (by decide) (by decide) wq5)
      refine ⟨fun c4 => ?_, fun c4 => ?_⟩
      · exact by grind [k_ii, k_ir, k_ri, k_rr, k_ai, k_ar, k_li, k_lr, k_qi, k_qr, ar_ci, ar_cl, ar_cq, la_ci, la_ca, la_cq, qa_ci, qa_ca, qa_cl, tk_link, kn12]
      · exact by grind [k_ii, k_ir, k_ri, k_rr, k_ai, k_ar, k_li, k_lr, k_qi, k_qr, ar_ci, ar_cl, ar_cq, la_ci, la_ca, la_cq, qa_ci, qa_ca, qa_cl, tk_link, kn12]
