
set_option maxHeartbeats 400000 in
theorem sk_X3_numberOf {tk pg sc : Nat} (t0 : Nat) (a0 : Int32) (a1 : Int32) {S : kS} (hI : INJ S) (hO14_t0 : S.2.1 14 t0 = some tk) (hO15_t0 : S.2.1 15 t0 = some pg) (hO16_t0 : S.2.1 16 t0 = some sc) (hG_S : RG (vw t0 tk pg sc S)) (hl : a0.toInt ≤ a1.toInt) : wT_X3_numberOf t0 a0 a1 S (fun S1 r => Rx (-2) (vw t0 tk pg sc S) (vw t0 tk pg sc S1) ∧ a0.toInt ≤ r.toInt ∧ r.toInt ≤ a1.toInt) := by
  have nS : FX [] S S := FX_rf
  have PS : Rx 0 (vw t0 tk pg sc S) (vw t0 tk pg sc S) := Rx_rf
  unfold wT_X3_numberOf
  intro z1 ez1
  intro q2 eq2
  obtain rfl := ob_q nS (by decide) hO14_t0 ez1 eq2
  intro z3 ez3
  intro z4 ez4
  have dz4 : 0 ≤ z4.toInt ∧ z4.toInt ≤ 4001 := by rw [ez4]; exact ⟨(Rx_g PS hG_S).1.1, (Rx_g PS hG_S).1.2.1⟩
  intro q5 eq5
  have wq5 := rd_w nS (by decide) ez3 eq5
  refine ⟨by grind [NZ, k_ii, k_ir, k_ri, k_rr, k_ai, k_ar, k_li, k_lr, k_qi, k_qr, ar_ci, ar_cl, ar_cq, la_ci, la_ca, la_cq, qa_ci, qa_ca, qa_cl, tk_link, kn4002], ?_⟩
  intro z6 ez6
  replace ez6 := ez6.trans (la_rd nS (by decide) (by decide) wq5)
  refine kmT_X3_kind _ _ _ _ (fun S7 r7 hF1 pS7 => ?_) (sr_X3_kind (tk := tk) (pg := pg) (sc := sc) _ (INJ_x nS (by decide) hI) (ob_h nS (by decide) hO14_t0) (ob_h nS (by decide) hO15_t0) (ob_h nS (by decide) hO16_t0) (Rx_g PS hG_S))
  obtain ⟨rfl, pS7⟩ := pS7
  clear hF1
  refine ⟨fun c2 => ?_, fun c2 => ?_⟩
  · intro z9 ez9
    intro z10 ez10
    refine ⟨fun c3 => ?_, fun c3 => ?_⟩
    · unfold wT_X3_numberOf_42
      refine kmT_X3_wrong _ _ _ _ _ (fun S18 hF4 pS18 => ?_) (sr_X3_wrong (tk := tk) (pg := pg) (sc := sc) _ _ (INJ_x nS (by decide) hI) (ob_h nS (by decide) hO14_t0) (ob_h nS (by decide) hO15_t0) (ob_h nS (by decide) hO16_t0) (Rx_g PS hG_S) ((by decide)))
      have nS18 : FX [] S S18 := FX_k hF4 (by decide) nS
      have PS18 := Rx_tr hG_S PS pS18.1
      have fS18 : (vw t0 tk pg sc S18).1 7 ≠ 0 := pS18.2
      clear hF4
      exact ⟨Rx_m PS18 (by decide), ⟨Int.le_refl _, hl⟩⟩
    · intro z12 ez12
      intro z13 ez13
      refine ⟨fun c5 => ?_, fun c5 => ?_⟩
      · refine kmT_X3_step _ _ _ _ (fun S15 hF6 pS15 => ?_) (sr_X3_step (tk := tk) (pg := pg) (sc := sc) _ (INJ_x nS (by decide) hI) (ob_h nS (by decide) hO14_t0) (ob_h nS (by decide) hO15_t0) (ob_h nS (by decide) hO16_t0) (Rx_g PS hG_S) (by grind [NZ, k_ii, k_ir, k_ri, k_rr, k_ai, k_ar, k_li, k_lr, k_qi, k_qr, ar_ci, ar_cl, ar_cq, la_ci, la_ca, la_cq, qa_ci, qa_ca, qa_cl, tk_link, kn4002]))
        have nS15 : FX [] S S15 := FX_k hF6 (by decide) nS
        have PS15 := Rx_tr hG_S PS pS15
        clear hF6
        intro z16 ez16
        have d16 : a0.toInt ≤ z16.toInt ∧ z16.toInt ≤ a1.toInt := by rw [ez16]; exact nr3 (by rw [← ez9, ← ez10]; assumption) (by rw [← ez12, ← ez13]; assumption)
        exact ⟨Rx_m PS15 (by decide), d16⟩
      · unfold wT_X3_numberOf_42
        refine kmT_X3_wrong _ _ _ _ _ (fun S18 hF7 pS18 => ?_) (sr_X3_wrong (tk := tk) (pg := pg) (sc := sc) _ _ (INJ_x nS (by decide) hI) (ob_h nS (by decide) hO14_t0) (ob_h nS (by decide) hO15_t0) (ob_h nS (by decide) hO16_t0) (Rx_g PS hG_S) ((by decide)))
        have nS18 : FX [] S S18 := FX_k hF7 (by decide) nS
        have PS18 := Rx_tr hG_S PS pS18.1
        have fS18 : (vw t0 tk pg sc S18).1 7 ≠ 0 := pS18.2
        clear hF7
        exact ⟨Rx_m PS18 (by decide), ⟨Int.le_refl _, hl⟩⟩
  · refine kmT_X3_wrong _ _ _ _ _ (fun S17 hF8 pS17 => ?_) (sr_X3_wrong (tk := tk) (pg := pg) (sc := sc) _ _ (INJ_x nS (by decide) hI) (ob_h nS (by decide) hO14_t0) (ob_h nS (by decide) hO15_t0) (ob_h nS (by decide) hO16_t0) (Rx_g PS hG_S) ((by decide)))
    have nS17 : FX [] S S17 := FX_k hF8 (by decide) nS
    have PS17 := Rx_tr hG_S PS pS17.1
    have fS17 : (vw t0 tk pg sc S17).1 7 ≠ 0 := pS17.2
    clear hF8
    exact ⟨Rx_m PS17 (by decide), ⟨Int.le_refl _, hl⟩⟩
