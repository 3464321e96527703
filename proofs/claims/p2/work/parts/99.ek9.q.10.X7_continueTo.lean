
set_option maxHeartbeats 400000 in
theorem sk_X7_continueTo (t0 : Nat) (a0 : Int32) (a1 : Int32) {S : kS} (hI : INJ S) (ho : ∀ i, -1 ≤ (ar S 43 t0 i).toInt ∧ (ar S 43 t0 i).toInt ≤ 1379) (ha : -1 ≤ a0.toInt ∧ a0.toInt ≤ 1379) (hl : 0 ≤ a1.toInt ∧ a1.toInt < 460) : wT_X7_continueTo t0 a0 a1 S (fun S1 r => S = S1) := by
  have nS : FX [] S S := FX_rf
  unfold wT_X7_continueTo
  intro z1 ez1
  intro q2 eq2
  have wq2 := rd_w nS (by decide) ez1 eq2
  refine ⟨by grind [k_ii, k_ir, k_ri, k_rr, k_ai, k_ar, k_li, k_lr, k_qi, k_qr, ar_ci, ar_cl, ar_cq, la_ci, la_ca, la_cq, qa_ci, qa_ca, qa_cl, tk_link, kn460], ?_⟩
  intro z3 ez3
  replace ez3 := ez3.trans (ar_rd nS (by decide) (by decide) wq2)
  intro z4 ez4
  intro q5 eq5
  have wq5 := rd_w nS (by decide) ez4 eq5
  refine ⟨by grind [k_ii, k_ir, k_ri, k_rr, k_ai, k_ar, k_li, k_lr, k_qi, k_qr, ar_ci, ar_cl, ar_cq, la_ci, la_ca, la_cq, qa_ci, qa_ca, qa_cl, tk_link, kn460], ?_⟩
  intro z6 ez6
  replace ez6 := ez6.trans (ar_rd nS (by decide) (by decide) wq5)
  refine kmT_X7_leaveTo _ _ _ _ _ _ _ (fun S7 r7 hF1 pS7 => ?_) (sk_X7_leaveTo _ _ _ _ (INJ_x nS (by decide) hI) ho ha)
  obtain ⟨rfl, pS7⟩ := pS7
  clear hF1
  exact by grind [k_ii, k_ir, k_ri, k_rr, k_ai, k_ar, k_li, k_lr, k_qi, k_qr, ar_ci, ar_cl, ar_cq, la_ci, la_ca, la_cq, qa_ci, qa_ca, qa_cl, tk_link, kn460]
