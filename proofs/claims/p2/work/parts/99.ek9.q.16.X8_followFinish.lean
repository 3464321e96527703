
set_option maxHeartbeats 400000 in
theorem sk_X8_followFinish {pg sc : Nat} (t0 : Nat) (a0 : Int32) (a1 : Int32) {S : kS} (hI : INJ S) (hO55_t0 : S.2.1 55 t0 = some pg) (hO31_pg : S.2.1 31 pg = some sc) (hT : TBI pg t0 S) (hR : PRR pg sc S) (ha : 0 ≤ a0.toInt ∧ a0.toInt < 460) : wT_X8_followFinish t0 a0 a1 S (fun S1 => TBI pg t0 S1) := by
  have nS : FX [] S S := FX_rf
  have rS := hR
  unfold wT_X8_followFinish
  intro z1 ez1
  refine ⟨pg, ob_e nS (by decide) hO55_t0 ez1, ?_⟩
  intro z3 ez3
  intro q4 eq4
  obtain rfl := ob_q nS (by decide) hO31_pg ez3 eq4
  intro z5 ez5
  intro q6 eq6
  have wq6 := rd_w nS (by decide) ez5 eq6
  refine ⟨by grind [k_ii, k_ir, k_ri, k_rr, k_ai, k_ar, k_li, k_lr, k_qi, k_qr, ar_ci, ar_cl, ar_cq, la_ci, la_ca, la_cq, qa_ci, qa_ca, qa_cl, tk_link, kn460], ?_⟩
  intro z7 ez7
  replace ez7 := ez7.trans (ar_rd nS (by decide) (by decide) wq6)
  have d7 : -1 ≤ z7.toInt ∧ z7.toInt ≤ 1379 := by rw [ez7]; exact hR.1 (ix a0)
  intro z8 ez8
  intro q9 eq9
  have wq9 := rd_w nS (by decide) ez8 eq9
  refine ⟨by grind [k_ii, k_ir, k_ri, k_rr, k_ai, k_ar, k_li, k_lr, k_qi, k_qr, ar_ci, ar_cl, ar_cq, la_ci, la_ca, la_cq, qa_ci, qa_ca, qa_cl, tk_link, kn460], ?_⟩
  intro z10 ez10
  replace ez10 := ez10.trans (ar_rd nS (by decide) (by decide) wq9)
  have d10 : -1 ≤ z10.toInt ∧ z10.toInt ≤ 459 := by rw [ez10]; exact hR.2.2 (ix a0)
  intro z11 ez11
  intro q12 eq12
  have wq12 := rd_w nS (by decide) ez11 eq12
  refine ⟨by grind [k_ii, k_ir, k_ri, k_rr, k_ai, k_ar, k_li, k_lr, k_qi, k_qr, ar_ci, ar_cl, ar_cq, la_ci, la_ca, la_cq, qa_ci, qa_ca, qa_cl, tk_link, kn460], ?_⟩
  intro z13 ez13
  replace ez13 := ez13.trans (ar_rd nS (by decide) (by decide) wq12)
  refine kmT_X8_reach _ _ _ _ _ (fun S14 hF1 pS14 => ?_) (sk_X8_reach (pg := pg) _ _ (INJ_x nS (by decide) hI) (ob_h nS (by decide) hO55_t0) hT)
  have nS14 : FX [] S S14 := FX_k hF1 (by decide) nS
  have fS14 := HF_k hF1 (INJ_x nS (by decide) hI) (by decide) (by decide) (by decide)
  have rS14 : PRR pg sc S14 := PRR_f rS fS14 (by decide)
  clear hF1
  refine kmT_X7_failureTo _ _ _ _ _ _ (fun S15 r15 hF2 pS15 => ?_) (sk_X7_failureTo _ _ _ (INJ_x nS14 (by decide) hI) rS14.1 d7)
  obtain ⟨rfl, pS15⟩ := pS15
  clear hF2
  refine kmT_X8_reach _ _ _ _ _ (fun S16 hF3 pS16 => ?_) (sk_X8_reach (pg := pg) _ _ (INJ_x nS14 (by decide) hI) (ob_h nS14 (by decide) hO55_t0) pS14)
  have nS16 : FX [] S S16 := FX_k hF3 (by decide) nS14
  have fS16 := HF_k hF3 (INJ_x nS14 (by decide) hI) (by decide) (by decide) (by decide)
  have rS16 : PRR pg sc S16 := PRR_f rS14 fS16 (by decide)
  clear hF3
  refine kmT_X7_cancelTo _ _ _ _ _ _ (fun S17 r17 hF4 pS17 => ?_) (sk_X7_cancelTo _ _ _ (INJ_x nS16 (by decide) hI) rS16.1 d7)
  obtain ⟨rfl, pS17⟩ := pS17
  clear hF4
  refine kmT_X8_reach _ _ _ _ _ (fun S18 hF5 pS18 => ?_) (sk_X8_reach (pg := pg) _ _ (INJ_x nS16 (by decide) hI) (ob_h nS16 (by decide) hO55_t0) pS16)
  have nS18 : FX [] S S18 := FX_k hF5 (by decide) nS16
  have fS18 := HF_k hF5 (INJ_x nS16 (by decide) hI) (by decide) (by decide) (by decide)
  have rS18 : PRR pg sc S18 := PRR_f rS16 fS18 (by decide)
  clear hF5
  refine ⟨fun c6 => ?_, fun c6 => ?_⟩
  · unfold wT_X8_followFinish_82
    refine ⟨fun c7 => ?_, fun c7 => ?_⟩
    · exact pS18
    · refine kmT_X7_is _ _ _ _ _ _ (fun S25 r25 hF8 pS25 => ?_) (sk_X7_is _ _ _ (INJ_x nS18 (by decide) hI) (by grind [k_ii, k_ir, k_ri, k_rr, k_ai, k_ar, k_li, k_lr, k_qi, k_qr, ar_ci, ar_cl, ar_cq, la_ci, la_ca, la_cq, qa_ci, qa_ca, qa_cl, tk_link, kn460]))
      obtain ⟨rfl, pS25⟩ := pS25
      clear hF8
      refine ⟨fun c9 => ?_, fun c9 => ?_⟩
      · exact pS18
      · refine kmT_X7_continueTo _ _ _ _ _ _ (fun S27 r27 hF10 pS27 => ?_) (sk_X7_continueTo _ _ _ (INJ_x nS18 (by decide) hI) rS18.1 d7 (⟨by grind [k_ii, k_ir, k_ri, k_rr, k_ai, k_ar, k_li, k_lr, k_qi, k_qr, ar_ci, ar_cl, ar_cq, la_ci, la_ca, la_cq, qa_ci, qa_ca, qa_cl, tk_link, kn460], by grind [k_ii, k_ir, k_ri, k_rr, k_ai, k_ar, k_li, k_lr, k_qi, k_qr, ar_ci, ar_cl, ar_cq, la_ci, la_ca, la_cq, qa_ci, qa_ca, qa_cl, tk_link, kn460]⟩))
        obtain ⟨rfl, pS27⟩ := pS27
        clear hF10
        refine kmT_X8_reach _ _ _ _ _ (fun S28 hF11 pS28 => ?_) (sk_X8_reach (pg := pg) _ _ (INJ_x nS18 (by decide) hI) (ob_h nS18 (by decide) hO55_t0) pS18)
        have nS28 : FX [] S S28 := FX_k hF11 (by decide) nS18
        have fS28 := HF_k hF11 (INJ_x nS18 (by decide) hI) (by decide) (by decide) (by decide)
        have rS28 : PRR pg sc S28 := PRR_f rS18 fS28 (by decide)
        clear hF11
        exact pS28
  · refine kmT_X7_is _ _ _ _ _ _ (fun S20 r20 hF12 pS20 => ?_) (sk_X7_is _ _ _ (INJ_x nS18 (by decide) hI) (by grind [k_ii, k_ir, k_ri, k_rr, k_ai, k_ar, k_li, k_lr, k_qi, k_qr, ar_ci, ar_cl, ar_cq, la_ci, la_ca, la_cq, qa_ci, qa_ca, qa_cl, tk_link, kn460]))
    obtain ⟨rfl, pS20⟩ := pS20
    clear hF12
    refine ⟨fun c13 => ?_, fun c13 => ?_⟩
    · unfold wT_X8_followFinish_82
      refine ⟨fun c14 => ?_, fun c14 => ?_⟩
      · exact pS18
      · refine kmT_X7_is _ _ _ _ _ _ (fun S25 r25 hF15 pS25 => ?_) (sk_X7_is _ _ _ (INJ_x nS18 (by decide) hI) (by grind [k_ii, k_ir, k_ri, k_rr, k_ai, k_ar, k_li, k_lr, k_qi, k_qr, ar_ci, ar_cl, ar_cq, la_ci, la_ca, la_cq, qa_ci, qa_ca, qa_cl, tk_link, kn460]))
        obtain ⟨rfl, pS25⟩ := pS25
        clear hF15
        refine ⟨fun c16 => ?_, fun c16 => ?_⟩
        · exact pS18
        · refine kmT_X7_continueTo _ _ _ _ _ _ (fun S27 r27 hF17 pS27 => ?_) (sk_X7_continueTo _ _ _ (INJ_x nS18 (by decide) hI) rS18.1 d7 (⟨by grind [k_ii, k_ir, k_ri, k_rr, k_ai, k_ar, k_li, k_lr, k_qi, k_qr, ar_ci, ar_cl, ar_cq, la_ci, la_ca, la_cq, qa_ci, qa_ca, qa_cl, tk_link, kn460], by grind [k_ii, k_ir, k_ri, k_rr, k_ai, k_ar, k_li, k_lr, k_qi, k_qr, ar_ci, ar_cl, ar_cq, la_ci, la_ca, la_cq, qa_ci, qa_ca, qa_cl, tk_link, kn460]⟩))
          obtain ⟨rfl, pS27⟩ := pS27
          clear hF17
          refine kmT_X8_reach _ _ _ _ _ (fun S28 hF18 pS28 => ?_) (sk_X8_reach (pg := pg) _ _ (INJ_x nS18 (by decide) hI) (ob_h nS18 (by decide) hO55_t0) pS18)
          have nS28 : FX [] S S28 := FX_k hF18 (by decide) nS18
          have fS28 := HF_k hF18 (INJ_x nS18 (by decide) hI) (by decide) (by decide) (by decide)
          have rS28 : PRR pg sc S28 := PRR_f rS18 fS28 (by decide)
          clear hF18
          exact pS28
    · refine kmT_X7_breakTo _ _ _ _ _ _ (fun S22 r22 hF19 pS22 => ?_) (sk_X7_breakTo _ _ _ (INJ_x nS18 (by decide) hI) rS18.1 d7 (⟨by grind [k_ii, k_ir, k_ri, k_rr, k_ai, k_ar, k_li, k_lr, k_qi, k_qr, ar_ci, ar_cl, ar_cq, la_ci, la_ca, la_cq, qa_ci, qa_ca, qa_cl, tk_link, kn460], by grind [k_ii, k_ir, k_ri, k_rr, k_ai, k_ar, k_li, k_lr, k_qi, k_qr, ar_ci, ar_cl, ar_cq, la_ci, la_ca, la_cq, qa_ci, qa_ca, qa_cl, tk_link, kn460]⟩))
      obtain ⟨rfl, pS22⟩ := pS22
      clear hF19
      refine kmT_X8_reach _ _ _ _ _ (fun S23 hF20 pS23 => ?_) (sk_X8_reach (pg := pg) _ _ (INJ_x nS18 (by decide) hI) (ob_h nS18 (by decide) hO55_t0) pS18)
      have nS23 : FX [] S S23 := FX_k hF20 (by decide) nS18
      have fS23 := HF_k hF20 (INJ_x nS18 (by decide) hI) (by decide) (by decide) (by decide)
      have rS23 : PRR pg sc S23 := PRR_f rS18 fS23 (by decide)
      clear hF20
      unfold wT_X8_followFinish_82
      refine ⟨fun c21 => ?_, fun c21 => ?_⟩
      · exact pS23
      · refine kmT_X7_is _ _ _ _ _ _ (fun S25 r25 hF22 pS25 => ?_) (sk_X7_is _ _ _ (INJ_x nS23 (by decide) hI) (by grind [k_ii, k_ir, k_ri, k_rr, k_ai, k_ar, k_li, k_lr, k_qi, k_qr, ar_ci, ar_cl, ar_cq, la_ci, la_ca, la_cq, qa_ci, qa_ca, qa_cl, tk_link, kn460]))
        obtain ⟨rfl, pS25⟩ := pS25
        clear hF22
        refine ⟨fun c23 => ?_, fun c23 => ?_⟩
        · exact pS23
        · refine kmT_X7_continueTo _ _ _ _ _ _ (fun S27 r27 hF24 pS27 => ?_) (sk_X7_continueTo _ _ _ (INJ_x nS23 (by decide) hI) rS23.1 d7 (⟨by grind [k_ii, k_ir, k_ri, k_rr, k_ai, k_ar, k_li, k_lr, k_qi, k_qr, ar_ci, ar_cl, ar_cq, la_ci, la_ca, la_cq, qa_ci, qa_ca, qa_cl, tk_link, kn460], by grind [k_ii, k_ir, k_ri, k_rr, k_ai, k_ar, k_li, k_lr, k_qi, k_qr, ar_ci, ar_cl, ar_cq, la_ci, la_ca, la_cq, qa_ci, qa_ca, qa_cl, tk_link, kn460]⟩))
          obtain ⟨rfl, pS27⟩ := pS27
          clear hF24
          refine kmT_X8_reach _ _ _ _ _ (fun S28 hF25 pS28 => ?_) (sk_X8_reach (pg := pg) _ _ (INJ_x nS23 (by decide) hI) (ob_h nS23 (by decide) hO55_t0) pS23)
          have nS28 : FX [] S S28 := FX_k hF25 (by decide) nS23
          have fS28 := HF_k hF25 (INJ_x nS23 (by decide) hI) (by decide) (by decide) (by decide)
          have rS28 : PRR pg sc S28 := PRR_f rS23 fS28 (by decide)
          clear hF25
          exact pS28
