
set_option maxHeartbeats 400000 in
theorem sk_X3_givenCell {tk pg sc : Nat} (t0 : Nat) {S : kS} (hI : INJ S) (hO14_t0 : S.2.1 14 t0 = some tk) (hO15_t0 : S.2.1 15 t0 = some pg) (hO16_t0 : S.2.1 16 t0 = some sc) (hG_S : RG (vw t0 tk pg sc S)) (hr : (vw t0 tk pg sc S).1 7 = 0 → 1 ≤ (vw t0 tk pg sc S).1 18) : wT_X3_givenCell t0 S (fun S1 => Rx (-2) (vw t0 tk pg sc S) (vw t0 tk pg sc S1)) := by
  have nS : FX [] S S := FX_rf
  have PS : Rx 0 (vw t0 tk pg sc S) (vw t0 tk pg sc S) := Rx_rf
  unfold wT_X3_givenCell
  intro z1 ez1
  refine ⟨pg, ob_e nS (by decide) hO15_t0 ez1, ?_⟩
  intro z3 ez3
  have d3 : 0 ≤ z3.toInt ∧ z3.toInt ≤ 12 ∧ z3.toInt = (vw t0 tk pg sc S).1 18 := by rw [ez3]; exact ⟨hG_S.2.2.1.1, hG_S.2.2.1.2, rfl⟩
  intro z4 ez4
  have hrz4 : -2147483648 ≤ z3.toInt - 1 ∧ z3.toInt - 1 < 2147483648 := by grind [NZ, vi_6, va_64, k_ii, k_ir, k_ri, k_rr, k_ai, k_ar, k_li, k_lr, k_qi, k_qr, ar_ci, ar_cl, ar_cq, la_ci, la_ca, la_cq, qa_ci, qa_ca, qa_cl, tk_link, kn12, kn4002]
  replace ez4 : z4.toInt = z3.toInt - 1 := w_sub ez4 hrz4
  clear hrz4
  refine kmT_X3_kind _ _ _ _ (fun S5 r5 hF1 pS5 => ?_) (sr_X3_kind (tk := tk) (pg := pg) (sc := sc) _ (INJ_x nS (by decide) hI) (ob_h nS (by decide) hO14_t0) (ob_h nS (by decide) hO15_t0) (ob_h nS (by decide) hO16_t0) (Rx_g PS hG_S))
  obtain ⟨rfl, pS5⟩ := pS5
  clear hF1
  refine ⟨fun c2 => ?_, fun c2 => ?_⟩
  · intro z7 ez7
    intro z8 ez8
    intro q9 eq9
    obtain rfl := ob_q nS (by decide) hO14_t0 ez8 eq9
    intro z10 ez10
    intro z11 ez11
    have dz11 : 0 ≤ z11.toInt ∧ z11.toInt ≤ 4001 := by rw [ez11]; exact ⟨(Rx_g PS hG_S).1.1, (Rx_g PS hG_S).1.2.1⟩
    intro q12 eq12
    have wq12 := rd_w nS (by decide) ez10 eq12
    refine ⟨by grind [NZ, vi_6, va_64, k_ii, k_ir, k_ri, k_rr, k_ai, k_ar, k_li, k_lr, k_qi, k_qr, ar_ci, ar_cl, ar_cq, la_ci, la_ca, la_cq, qa_ci, qa_ca, qa_cl, tk_link, kn12, kn4002], ?_⟩
    intro z13 ez13
    replace ez13 := ez13.trans (la_rd nS (by decide) (by decide) wq12)
    refine ⟨pg, ob_e nS (by decide) hO15_t0 ez7, ?_⟩
    refine kmT_X5_cellNamed _ _ _ _ _ _ (fun S15 r15 hF3 pS15 => ?_) (sk_X5_cellNamed _ _ _ (INJ_x nS (by decide) hI) hG_S.2.2.2.2.2.2.2.2.1 (⟨(show 0 ≤ (vw t0 tk pg sc S).1 18 from hG_S.2.2.1.1), (show (vw t0 tk pg sc S).1 18 ≤ 12 from hG_S.2.2.1.2)⟩))
    obtain ⟨rfl, pS15⟩ := pS15
    clear hF3
    have q7 : (vw t0 tk pg sc S).1 7 = 0 := KQ hG_S (by rw [← pS5, show r5 = 3 by assumption]; decide)
    have d4 : 0 ≤ z4.toInt ∧ z4.toInt < 12 := by have := hr q7; omega
    have nz5 : NZ (vw t0 tk pg sc S) := by unfold NZ; rw [← pS5, show r5 = 3 by assumption]; decide
    refine ⟨fun c4 => ?_, fun c4 => ?_⟩
    · intro z17 ez17
      intro z18 ez18
      intro q19 eq19
      obtain rfl := ob_q nS (by decide) hO14_t0 ez18 eq19
      intro z20 ez20
      intro z21 ez21
      have dz21 : 0 ≤ z21.toInt ∧ z21.toInt ≤ 4001 := by rw [ez21]; exact ⟨(Rx_g PS hG_S).1.1, (Rx_g PS hG_S).1.2.1⟩
      intro q22 eq22
      have wq22 := rd_w nS (by decide) ez20 eq22
      refine ⟨by grind [NZ, vi_6, va_64, k_ii, k_ir, k_ri, k_rr, k_ai, k_ar, k_li, k_lr, k_qi, k_qr, ar_ci, ar_cl, ar_cq, la_ci, la_ca, la_cq, qa_ci, qa_ca, qa_cl, tk_link, kn12, kn4002], ?_⟩
      intro z23 ez23
      replace ez23 := ez23.trans (la_rd nS (by decide) (by decide) wq22)
      refine ⟨pg, ob_e nS (by decide) hO15_t0 ez17, ?_⟩
      refine kmT_X5_cellOf _ _ _ _ _ (fun S25 r25 hF5 pS25 => ?_) (sr_X5_cellOf (x0 := t0) (tk := tk) (sc := sc) _ _ (INJ_x nS (by decide) hI) (Rx_g PS hG_S))
      have nS25 : FX [] S S25 := FX_k hF5 (by decide) nS
      have PS25 := Rx_tr hG_S PS pS25
      have uS25 : (vw t0 tk pg sc S25).1 6 = (vw t0 tk pg sc S).1 6 ∧ ∀ i, (vw t0 tk pg sc S25).2 64 i = (vw t0 tk pg sc S).2 64 i := ⟨(vw_k hF5 (INJ_x nS (by decide) hI) (by decide) (by decide)).1 6 (by decide), fun i => congrFun ((vw_k hF5 (INJ_x nS (by decide) hI) (by decide) (by decide)).2 64 (by decide) (by decide)) i⟩
      clear hF5
      refine ⟨fun c6 => ?_, fun c6 => ?_⟩
      · intro z27 ez27
        refine ⟨pg, ob_e nS25 (by decide) hO15_t0 ez27, ?_⟩
        intro z29 ez29
        intro q30 eq30
        have wq30 := rd_w nS25 (by decide) ez29 eq30
        refine ⟨by grind [NZ, vi_6, va_64, k_ii, k_ir, k_ri, k_rr, k_ai, k_ar, k_li, k_lr, k_qi, k_qr, ar_ci, ar_cl, ar_cq, la_ci, la_ca, la_cq, qa_ci, qa_ca, qa_cl, tk_link, kn12, kn4002], ?_⟩
        intro z31 ez31
        replace ez31 := ez31.trans (ar_rd nS25 (by decide) (by decide) wq30)
        intro z32 ez32
        refine ⟨by grind [NZ, vi_6, va_64, k_ii, k_ir, k_ri, k_rr, k_ai, k_ar, k_li, k_lr, k_qi, k_qr, ar_ci, ar_cl, ar_cq, la_ci, la_ca, la_cq, qa_ci, qa_ca, qa_cl, tk_link, kn12, kn4002], ?_⟩
        intro S33 eS33
        have nS33 : FX [] S S33 := FX_a eS33 nS25
        have arS33 := ar_wr hI nS25 (by decide) (by decide) wq30 eS33
        have vS33 := vw_ca (t0 := t0) (tk := tk) (pg := pg) (sc := sc) eS33 arS33 (by decide)
        have PS33 := Rx_tr hG_S PS25 (Rx_ir vS33 (by decide) (by decide) (by decide) (fun g => RG_ir (hv_sub vS33 (by decide) (by decide)) g))
        have nz33 : NZ (vw t0 tk pg sc S33) := NZ_vf vS33 (by decide) (by decide) (by unfold NZ at nz5 ⊢; rw [uS25.1, uS25.2]; exact nz5)
        refine kmT_X3_step _ _ _ _ (fun S34 hF7 pS34 => ?_) (sr_X3_step (tk := tk) (pg := pg) (sc := sc) _ (INJ_x nS33 (by decide) hI) (ob_h nS33 (by decide) hO14_t0) (ob_h nS33 (by decide) hO15_t0) (ob_h nS33 (by decide) hO16_t0) (Rx_g PS33 hG_S) nz33)
        have nS34 : FX [] S S34 := FX_k hF7 (by decide) nS33
        have PS34 := Rx_tr hG_S PS33 pS34
        clear hF7
        exact Rx_m PS34 (by decide)
      · refine kmT_X3_wrong _ _ _ _ _ (fun S35 hF8 pS35 => ?_) (sr_X3_wrong (tk := tk) (pg := pg) (sc := sc) _ _ (INJ_x nS25 (by decide) hI) (ob_h nS25 (by decide) hO14_t0) (ob_h nS25 (by decide) hO15_t0) (ob_h nS25 (by decide) hO16_t0) (Rx_g PS25 hG_S) ((by decide)))
        have nS35 : FX [] S S35 := FX_k hF8 (by decide) nS25
        have PS35 := Rx_tr hG_S PS25 pS35.1
        have fS35 : (vw t0 tk pg sc S35).1 7 ≠ 0 := pS35.2
        clear hF8
        exact Rx_m PS35 (by decide)
    · refine kmT_X3_wrong _ _ _ _ _ (fun S36 hF9 pS36 => ?_) (sr_X3_wrong (tk := tk) (pg := pg) (sc := sc) _ _ (INJ_x nS (by decide) hI) (ob_h nS (by decide) hO14_t0) (ob_h nS (by decide) hO15_t0) (ob_h nS (by decide) hO16_t0) (Rx_g PS hG_S) ((by decide)))
      have nS36 : FX [] S S36 := FX_k hF9 (by decide) nS
      have PS36 := Rx_tr hG_S PS pS36.1
      have fS36 : (vw t0 tk pg sc S36).1 7 ≠ 0 := pS36.2
      clear hF9
      exact Rx_m PS36 (by decide)
  · refine kmT_X3_wrong _ _ _ _ _ (fun S37 hF10 pS37 => ?_) (sr_X3_wrong (tk := tk) (pg := pg) (sc := sc) _ _ (INJ_x nS (by decide) hI) (ob_h nS (by decide) hO14_t0) (ob_h nS (by decide) hO15_t0) (ob_h nS (by decide) hO16_t0) (Rx_g PS hG_S) ((by decide)))
    have nS37 : FX [] S S37 := FX_k hF10 (by decide) nS
    have PS37 := Rx_tr hG_S PS pS37.1
    have fS37 : (vw t0 tk pg sc S37).1 7 ≠ 0 := pS37.2
    clear hF10
    exact Rx_m PS37 (by decide)
