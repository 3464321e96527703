
set_option maxHeartbeats 400000 in
theorem sk_X3_cellHere {tk pg sc : Nat} (t0 : Nat) {S : kS} (hI : INJ S) (hO14_t0 : S.2.1 14 t0 = some tk) (hO15_t0 : S.2.1 15 t0 = some pg) (hO16_t0 : S.2.1 16 t0 = some sc) (hG_S : RG (vw t0 tk pg sc S)) : wT_X3_cellHere t0 S (fun S1 r => Rx (-2) (vw t0 tk pg sc S) (vw t0 tk pg sc S1) ∧ r ≠ -1) := by
  have nS : FX [] S S := FX_rf
  have PS : Rx 0 (vw t0 tk pg sc S) (vw t0 tk pg sc S) := Rx_rf
  unfold wT_X3_cellHere
  refine kmT_X3_kind _ _ _ _ (fun S1 r1 hF1 pS1 => ?_) (sr_X3_kind (tk := tk) (pg := pg) (sc := sc) _ (INJ_x nS (by decide) hI) (ob_h nS (by decide) hO14_t0) (ob_h nS (by decide) hO15_t0) (ob_h nS (by decide) hO16_t0) (Rx_g PS hG_S))
  obtain ⟨rfl, pS1⟩ := pS1
  clear hF1
  refine ⟨fun c2 => ?_, fun c2 => ?_⟩
  · intro z3 ez3
    intro z4 ez4
    intro q5 eq5
    obtain rfl := ob_q nS (by decide) hO14_t0 ez4 eq5
    intro z6 ez6
    intro z7 ez7
    have dz7 : 0 ≤ z7.toInt ∧ z7.toInt ≤ 4001 := by rw [ez7]; exact ⟨(Rx_g PS hG_S).1.1, (Rx_g PS hG_S).1.2.1⟩
    intro q8 eq8
    have wq8 := rd_w nS (by decide) ez6 eq8
    refine ⟨by grind [NZ, vi_6, va_64, k_ii, k_ir, k_ri, k_rr, k_ai, k_ar, k_li, k_lr, k_qi, k_qr, ar_ci, ar_cl, ar_cq, la_ci, la_ca, la_cq, qa_ci, qa_ca, qa_cl, tk_link, kn4002], ?_⟩
    intro z9 ez9
    replace ez9 := ez9.trans (la_rd nS (by decide) (by decide) wq8)
    refine ⟨pg, ob_e nS (by decide) hO15_t0 ez3, ?_⟩
    refine kmT_X5_cellOf _ _ _ _ _ (fun S11 r11 hF3 pS11 => ?_) (sr_X5_cellOf (x0 := t0) (tk := tk) (sc := sc) _ _ (INJ_x nS (by decide) hI) (Rx_g PS hG_S))
    have nS11 : FX [] S S11 := FX_k hF3 (by decide) nS
    have z6_S11 : ∀ o, S11.1 6 o = S.1 6 o := fun o => congrFun (hF3.1 6 (by decide)) o
    have ar64_S11 := KF_ar hF3 (INJ_x nS (by decide) hI) (by decide) (by decide) (f := 64) (by decide)
    have PS11 := Rx_tr hG_S PS pS11
    have uS11 : (vw t0 tk pg sc S11).1 6 = (vw t0 tk pg sc S).1 6 ∧ ∀ i, (vw t0 tk pg sc S11).2 64 i = (vw t0 tk pg sc S).2 64 i := ⟨(vw_k hF3 (INJ_x nS (by decide) hI) (by decide) (by decide)).1 6 (by decide), fun i => congrFun ((vw_k hF3 (INJ_x nS (by decide) hI) (by decide) (by decide)).2 64 (by decide) (by decide)) i⟩
    clear hF3
    refine ⟨fun c4 => ?_, fun c4 => ?_⟩
    · refine kmT_X3_step _ _ _ _ (fun S13 hF5 pS13 => ?_) (sr_X3_step (tk := tk) (pg := pg) (sc := sc) _ (INJ_x nS11 (by decide) hI) (ob_h nS11 (by decide) hO14_t0) (ob_h nS11 (by decide) hO15_t0) (ob_h nS11 (by decide) hO16_t0) (Rx_g PS11 hG_S) (by grind [NZ, vi_6, va_64, k_ii, k_ir, k_ri, k_rr, k_ai, k_ar, k_li, k_lr, k_qi, k_qr, ar_ci, ar_cl, ar_cq, la_ci, la_ca, la_cq, qa_ci, qa_ca, qa_cl, tk_link, kn4002]))
      have nS13 : FX [] S S13 := FX_k hF5 (by decide) nS11
      have ar64_S13 := KF_ar hF5 (INJ_x nS11 (by decide) hI) (by decide) (by decide) (f := 64) (by decide)
      have PS13 := Rx_tr hG_S PS11 pS13
      clear hF5
      exact ⟨Rx_m PS13 (by decide), by grind [NZ, vi_6, va_64, k_ii, k_ir, k_ri, k_rr, k_ai, k_ar, k_li, k_lr, k_qi, k_qr, ar_ci, ar_cl, ar_cq, la_ci, la_ca, la_cq, qa_ci, qa_ca, qa_cl, tk_link, kn4002]⟩
    · refine kmT_X3_wrong _ _ _ _ _ (fun S14 hF6 pS14 => ?_) (sr_X3_wrong (tk := tk) (pg := pg) (sc := sc) _ _ (INJ_x nS11 (by decide) hI) (ob_h nS11 (by decide) hO14_t0) (ob_h nS11 (by decide) hO15_t0) (ob_h nS11 (by decide) hO16_t0) (Rx_g PS11 hG_S) ((by decide)))
      have nS14 : FX [] S S14 := FX_k hF6 (by decide) nS11
      have ar64_S14 := KF_ar hF6 (INJ_x nS11 (by decide) hI) (by decide) (by decide) (f := 64) (by decide)
      have PS14 := Rx_tr hG_S PS11 pS14.1
      have fS14 : (vw t0 tk pg sc S14).1 7 ≠ 0 := pS14.2
      clear hF6
      exact ⟨Rx_m PS14 (by decide), by grind [NZ, vi_6, va_64, k_ii, k_ir, k_ri, k_rr, k_ai, k_ar, k_li, k_lr, k_qi, k_qr, ar_ci, ar_cl, ar_cq, la_ci, la_ca, la_cq, qa_ci, qa_ca, qa_cl, tk_link, kn4002]⟩
  · refine kmT_X3_wrong _ _ _ _ _ (fun S15 hF7 pS15 => ?_) (sr_X3_wrong (tk := tk) (pg := pg) (sc := sc) _ _ (INJ_x nS (by decide) hI) (ob_h nS (by decide) hO14_t0) (ob_h nS (by decide) hO15_t0) (ob_h nS (by decide) hO16_t0) (Rx_g PS hG_S) ((by decide)))
    have nS15 : FX [] S S15 := FX_k hF7 (by decide) nS
    have ar64_S15 := KF_ar hF7 (INJ_x nS (by decide) hI) (by decide) (by decide) (f := 64) (by decide)
    have PS15 := Rx_tr hG_S PS pS15.1
    have fS15 : (vw t0 tk pg sc S15).1 7 ≠ 0 := pS15.2
    clear hF7
    exact ⟨Rx_m PS15 (by decide), by grind [NZ, vi_6, va_64, k_ii, k_ir, k_ri, k_rr, k_ai, k_ar, k_li, k_lr, k_qi, k_qr, ar_ci, ar_cl, ar_cq, la_ci, la_ca, la_cq, qa_ci, qa_ca, qa_cl, tk_link, kn4002]⟩
