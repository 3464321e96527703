
set_option maxHeartbeats 400000 in
theorem sk_X11_row {h : Nat} (t0 : Nat) (a0 : Int32) {S : kS} (hI : INJ S) (hO72_t0 : S.2.1 72 t0 = some h) (h3 : (S.1 3 h).toInt ≤ 200) : wT_X11_row t0 a0 S (fun S1 r => S = S1) := by
  have nS : FX [] S S := FX_rf
  unfold wT_X11_row
  refine ⟨fun c1 => ?_, fun c1 => ?_⟩
  · exact by grind [k_ii, k_ir, k_ri, k_rr, k_ai, k_ar, k_li, k_lr, k_qi, k_qr, ar_ci, ar_cl, ar_cq, la_ci, la_ca, la_cq, qa_ci, qa_ca, qa_cl, tk_link, kn200]
  · intro z2 ez2
    intro q3 eq3
    obtain rfl := ob_q nS (by decide) hO72_t0 ez2 eq3
    intro z4 ez4
    refine ⟨fun c2 => ?_, fun c2 => ?_⟩
    · intro z6 ez6
      intro q7 eq7
      obtain rfl := ob_q nS (by decide) hO72_t0 ez6 eq7
      intro z8 ez8
      intro q9 eq9
      have wq9 := rd_w nS (by decide) ez8 eq9
      refine ⟨by grind [k_ii, k_ir, k_ri, k_rr, k_ai, k_ar, k_li, k_lr, k_qi, k_qr, ar_ci, ar_cl, ar_cq, la_ci, la_ca, la_cq, qa_ci, qa_ca, qa_cl, tk_link, kn200], ?_⟩
      intro z10 ez10
      replace ez10 := ez10.trans (ar_rd nS (by decide) (by decide) wq9)
      exact by grind [k_ii, k_ir, k_ri, k_rr, k_ai, k_ar, k_li, k_lr, k_qi, k_qr, ar_ci, ar_cl, ar_cq, la_ci, la_ca, la_cq, qa_ci, qa_ca, qa_cl, tk_link, kn200]
    · exact by grind [k_ii, k_ir, k_ri, k_rr, k_ai, k_ar, k_li, k_lr, k_qi, k_qr, ar_ci, ar_cl, ar_cq, la_ci, la_ca, la_cq, qa_ci, qa_ca, qa_cl, tk_link, kn200]
