
set_option maxHeartbeats 400000 in
theorem sk_X6_flow {h pg sc : Nat} {W : Int → Prop} (t0 : Nat) (a0 : Nat) (a1 : Int32) (a2 : Int32) {S : kS} (hI : INJ S) (hO41_t0 : S.2.1 41 t0 = some h) (hO2_h : S.2.1 2 h = some pg) (hO31_pg : S.2.1 31 pg = some sc) (hP : PGM (pv pg sc S)) (h2 : 0 ≤ a2.toInt ∧ a2.toInt < (pv pg sc S).1 17) (ho : a1.toInt = (pv pg sc S).2 28 a2.toInt.toNat) (hr : 13 ≤ a1.toInt ∧ a1.toInt ≤ 24) (hg : GV (pv pg sc S) W ((pv pg sc S).2 30 a2.toInt.toNat)) (hf : FRS (pv pg sc S) W (ar S 59 a0) (ar S 60 a0)) (h36 : (S.1 36 a0).toInt = a2.toInt + 1) (hq : (a1.toInt = 13 ∨ a1.toInt = 14 ∨ a1.toInt = 15 ∨ a1.toInt = 22) → PCG (pv pg sc S) W (a2.toInt + 1)) (hs : S.1 30 a0 ≠ 5) (h21 : 0 ≤ (S.1 21 t0).toInt ∧ (S.1 21 t0).toInt ≤ 64) (hb : ∀ b, S.2.1 40 t0 = some b → 0 ≤ (S.1 0 b).toInt ∧ (S.1 0 b).toInt ≤ 1000000000) : wT_X6_flow t0 a0 a1 a2 S (fun S1 => LVQ (pv pg sc S) W t0 a0 S S1 ∧ (0 ≤ (S1.1 21 t0).toInt ∧ (S1.1 21 t0).toInt ≤ 64) ∧ (a1 ≠ 14 → S1.1 0 = S.1 0) ∧ (a1 = 14 → ∀ b, S.2.1 40 t0 = some b → (S1.1 0 b).toInt = (S.1 0 b).toInt + 1 ∧ ∀ o, o ≠ b → S1.1 0 o = S.1 0 o)) := by
  have nS : FX [] S S := FX_rf
  have l17 : (pv pg sc S).1 17 ≤ 8064 := hP.1.2
  have k2 := kx_int a2 h2.1
  have act := hP.2.2.2.2.2.2.2.2.2.1 a2.toInt.toNat (by have : ((a2.toInt.toNat : Nat) : Int) = a2.toInt := k2; rw [this]; exact h2.2)
  have dscA := hP.2.2.2.2.2.2.1 a2.toInt.toNat
  unfold wT_X6_flow
  intro z1 ez1
  intro q2 eq2
  obtain rfl := ob_q nS (by decide) hO41_t0 ez1 eq2
  intro z3 ez3
  refine ⟨pg, ob_e nS (by decide) hO2_h ez3, ?_⟩
  intro z5 ez5
  intro z6 ez6
  intro q7 eq7
  have wq7 := rd_w nS (by decide) ez6 eq7
  refine ⟨by grind [k_ii, k_ir, k_ri, k_rr, k_ai, k_ar, k_li, k_lr, k_qi, k_qr, ar_ci, ar_cl, ar_cq, la_ci, la_ca, la_cq, qa_ci, qa_ca, qa_cl, tk_link, kn10, kn460, kn8064], ?_⟩
  intro z8 ez8
  replace ez8 := ez8.trans (ar_rd nS (by decide) (by decide) wq7)
  have e8 : z8.toInt = (pv pg sc S).2 29 a2.toInt.toNat := by rw [ez8]; rfl
  refine ⟨fun c1 => ?_, fun c1 => ?_⟩
  · refine kmT_X6_pop _ _ _ _ (fun S10 r10 hF2 pS10 => ?_) (sk_X6_pop _ (INJ_x nS (by decide) hI) h21)
    have nS10 : FX [] S S10 := FX_k hF2 (by decide) nS
    have fS10 := HF_k hF2 (INJ_x nS (by decide) hI) (by decide) (by decide) (by decide)
    clear hF2
    refine kmT_X9_set _ _ _ _ _ _ (fun S11 hF3 pS11 => ?_) (sk_X9_set _ _ _ (INJ_x nS10 (by decide) hI) )
    have nS11 : FX [] S S11 := FX_k hF3 (by decide) nS10
    have fS11 := HF_k hF3 (INJ_x nS10 (by decide) hI) (by decide) (by decide) (by decide)
    clear hF3
    have g11 : HF [21] [] [58] [] S S11 := HF_tr (HF_s fS10 (by decide) (by decide) (by decide) (by decide)) (HF_s fS11 (by decide) (by decide) (by decide) (by decide))
    exact ⟨LVQ_0 g11 (by decide) (by decide) hf (by rw [h36]; exact hq (by grind [k_ii, k_ir, k_ri, k_rr, k_ai, k_ar, k_li, k_lr, k_qi, k_qr, ar_ci, ar_cl, ar_cq, la_ci, la_ca, la_cq, qa_ci, qa_ca, qa_cl, tk_link, kn10, kn460, kn8064])), by rw [fS11.1 21 (by decide)]; exact pS10, fun _ => g11.1 0 (by decide), fun q => absurd q (by grind [k_ii, k_ir, k_ri, k_rr, k_ai, k_ar, k_li, k_lr, k_qi, k_qr, ar_ci, ar_cl, ar_cq, la_ci, la_ca, la_cq, qa_ci, qa_ca, qa_cl, tk_link, kn10, kn460, kn8064])⟩
  · refine ⟨fun c4 => ?_, fun c4 => ?_⟩
    · intro z13 ez13
      intro z14 ez14
      refine kmT_X6_pop _ _ _ _ (fun S15 r15 hF5 pS15 => ?_) (sk_X6_pop _ (INJ_x nS (by decide) hI) h21)
      have nS15 : FX [] S S15 := FX_k hF5 (by decide) nS
      have fS15 := HF_k hF5 (INJ_x nS (by decide) hI) (by decide) (by decide) (by decide)
      clear hF5
      intro q16 eq16
      have wq16 := rd_w nS (by decide) ez13 eq16
      have hb16 := hb q16 (ez13.symm.trans eq16)
      rw [← fS15.1 0 (by decide)] at hb16
      refine kmT_X0_note _ _ _ _ _ _ (fun S17 hF6 pS17 => ?_) (sk_X0_note _ _ _ (INJ_x nS15 (by decide) hI) hb16)
      have nS17 : FX [] S S17 := FX_k hF6 (by decide) nS15
      have fS17 := HF_k hF6 (INJ_x nS15 (by decide) hI) (by decide) (by decide) (by decide)
      clear hF6
      have g17 : HF [0, 21] [] [0, 1] [] S S17 := HF_tr (HF_s fS15 (by decide) (by decide) (by decide) (by decide)) (HF_s fS17 (by decide) (by decide) (by decide) (by decide))
      exact ⟨LVQ_0 g17 (by decide) (by decide) hf (by rw [h36]; exact hq (by grind [k_ii, k_ir, k_ri, k_rr, k_ai, k_ar, k_li, k_lr, k_qi, k_qr, ar_ci, ar_cl, ar_cq, la_ci, la_ca, la_cq, qa_ci, qa_ca, qa_cl, tk_link, kn10, kn460, kn8064])), by rw [fS17.1 21 (by decide)]; exact pS15, fun q => absurd (show a1 = 14 by grind [k_ii, k_ir, k_ri, k_rr, k_ai, k_ar, k_li, k_lr, k_qi, k_qr, ar_ci, ar_cl, ar_cq, la_ci, la_ca, la_cq, qa_ci, qa_ca, qa_cl, tk_link, kn10, kn460, kn8064]) q, fun _ b hb9 => (by have eb : q16 = b := Option.some.inj ((ez13.symm.trans eq16).symm.trans hb9); rw [← eb, pS17.1, fS15.1 0 (by decide)]; exact ⟨rfl, fun o ho => (pS17.2 o ho).trans (by rw [fS15.1 0 (by decide)])⟩)⟩
    · refine ⟨fun c7 => ?_, fun c7 => ?_⟩
      · refine kmT_X6_pop _ _ _ _ (fun S19 r19 hF8 pS19 => ?_) (sk_X6_pop _ (INJ_x nS (by decide) hI) h21)
        have nS19 : FX [] S S19 := FX_k hF8 (by decide) nS
        have fS19 := HF_k hF8 (INJ_x nS (by decide) hI) (by decide) (by decide) (by decide)
        clear hF8
        refine ⟨fun c9 => ?_, fun c9 => ?_⟩
        · intro z21 ez21
          have hrz21 : -2147483648 ≤ a2.toInt + 1 ∧ a2.toInt + 1 < 2147483648 := by grind [k_ii, k_ir, k_ri, k_rr, k_ai, k_ar, k_li, k_lr, k_qi, k_qr, ar_ci, ar_cl, ar_cq, la_ci, la_ca, la_cq, qa_ci, qa_ca, qa_cl, tk_link, kn10, kn460, kn8064]
          replace ez21 : z21.toInt = a2.toInt + 1 := w_add ez21 hrz21
          clear hrz21
          intro S22 eS22
          have nS22 : FX [] S S22 := FX_i eS22 nS19
          exact ⟨LVQ_p fS19 (by decide) (by decide) (LVQ_w eS22 (by rw [fS19.2.2.1 59 (by decide), fS19.2.2.1 60 (by decide)]; exact hf) (by rw [show z21.toInt = a2.toInt + 1 by grind [k_ii, k_ir, k_ri, k_rr, k_ai, k_ar, k_li, k_lr, k_qi, k_qr, ar_ci, ar_cl, ar_cq, la_ci, la_ca, la_cq, qa_ci, qa_ca, qa_cl, tk_link, kn10, kn460, kn8064]]; exact hq (by grind [k_ii, k_ir, k_ri, k_rr, k_ai, k_ar, k_li, k_lr, k_qi, k_qr, ar_ci, ar_cl, ar_cq, la_ci, la_ca, la_cq, qa_ci, qa_ca, qa_cl, tk_link, kn10, kn460, kn8064]))), by rw [(HF_i eS22).1 21 (by decide)]; exact pS19, fun _ => by rw [(HF_i eS22).1 0 (by decide), fS19.1 0 (by decide)], fun q => absurd q (by grind [k_ii, k_ir, k_ri, k_rr, k_ai, k_ar, k_li, k_lr, k_qi, k_qr, ar_ci, ar_cl, ar_cq, la_ci, la_ca, la_cq, qa_ci, qa_ca, qa_cl, tk_link, kn10, kn460, kn8064])⟩
        · intro S23 eS23
          have nS23 : FX [] S S23 := FX_i eS23 nS19
          have tgt : PCG (pv pg sc S) W z8.toInt := by rw [e8]; exact PCG_t (act.1 (by grind [k_ii, k_ir, k_ri, k_rr, k_ai, k_ar, k_li, k_lr, k_qi, k_qr, ar_ci, ar_cl, ar_cq, la_ci, la_ca, la_cq, qa_ci, qa_ca, qa_cl, tk_link, kn10, kn460, kn8064])) hg
          exact ⟨LVQ_p fS19 (by decide) (by decide) (LVQ_w eS23 (by rw [fS19.2.2.1 59 (by decide), fS19.2.2.1 60 (by decide)]; exact hf) tgt), by rw [(HF_i eS23).1 21 (by decide)]; exact pS19, fun _ => by rw [(HF_i eS23).1 0 (by decide), fS19.1 0 (by decide)], fun q => absurd q (by grind [k_ii, k_ir, k_ri, k_rr, k_ai, k_ar, k_li, k_lr, k_qi, k_qr, ar_ci, ar_cl, ar_cq, la_ci, la_ca, la_cq, qa_ci, qa_ca, qa_cl, tk_link, kn10, kn460, kn8064])⟩
      · refine ⟨fun c10 => ?_, fun c10 => ?_⟩
        · intro S25 eS25
          have nS25 : FX [] S S25 := FX_i eS25 nS
          have tgt : PCG (pv pg sc S) W z8.toInt := by rw [e8]; exact PCG_t (act.1 (by grind [k_ii, k_ir, k_ri, k_rr, k_ai, k_ar, k_li, k_lr, k_qi, k_qr, ar_ci, ar_cl, ar_cq, la_ci, la_ca, la_cq, qa_ci, qa_ca, qa_cl, tk_link, kn10, kn460, kn8064])) hg
          exact ⟨LVQ_w eS25 hf tgt, by rw [(HF_i eS25).1 21 (by decide)]; exact h21, fun _ => (HF_i eS25).1 0 (by decide), fun q => absurd q (by grind [k_ii, k_ir, k_ri, k_rr, k_ai, k_ar, k_li, k_lr, k_qi, k_qr, ar_ci, ar_cl, ar_cq, la_ci, la_ca, la_cq, qa_ci, qa_ca, qa_cl, tk_link, kn10, kn460, kn8064])⟩
        · refine ⟨fun c11 => ?_, fun c11 => ?_⟩
          · intro z27 ez27
            intro q28 eq28
            have wq28 := rd_w nS (by decide) ez27 eq28
            refine ⟨by grind [k_ii, k_ir, k_ri, k_rr, k_ai, k_ar, k_li, k_lr, k_qi, k_qr, ar_ci, ar_cl, ar_cq, la_ci, la_ca, la_cq, qa_ci, qa_ca, qa_cl, tk_link, kn10, kn460, kn8064], ?_⟩
            intro z29 ez29
            replace ez29 := ez29.trans (ar_rd nS (by decide) (by decide) wq28)
            have dsc : -1 ≤ z29.toInt ∧ z29.toInt ≤ 1379 := by rw [ez29]; exact dscA
            have ab := act.2.1 (by grind [k_ii, k_ir, k_ri, k_rr, k_ai, k_ar, k_li, k_lr, k_qi, k_qr, ar_ci, ar_cl, ar_cq, la_ci, la_ca, la_cq, qa_ci, qa_ca, qa_cl, tk_link, kn10, kn460, kn8064])
            refine kmT_X6_leave _ _ _ _ _ _ _ _ (fun S30 hF12 pS30 => ?_) (sk_X6_leave (h := h) (pg := pg) (sc := sc) (W := W) _ _ _ _ _ (INJ_x nS (by decide) hI) (ob_h nS (by decide) hO41_t0) (ob_h nS (by decide) hO2_h) (ob_h nS (by decide) hO31_pg) hP (by rw [ez29]; exact hg) dsc (by exact hP.2.2.2.1.2) (fun _ => by rw [e8]; exact ⟨ab.1, ab.2.1, GV_o hg ab.2.2⟩) hf)
            have nS30 : FX [] S S30 := FX_k hF12 (by decide) nS
            have fS30 := HF_k hF12 (INJ_x nS (by decide) hI) (by decide) (by decide) (by decide)
            clear hF12
            exact ⟨pS30, by rw [fS30.1 21 (by decide)]; exact h21, fun _ => fS30.1 0 (by decide), fun q => absurd q (by grind [k_ii, k_ir, k_ri, k_rr, k_ai, k_ar, k_li, k_lr, k_qi, k_qr, ar_ci, ar_cl, ar_cq, la_ci, la_ca, la_cq, qa_ci, qa_ca, qa_cl, tk_link, kn10, kn460, kn8064])⟩
          · refine ⟨fun c13 => ?_, fun c13 => ?_⟩
            · intro z32 ez32
              intro q33 eq33
              have wq33 := rd_w nS (by decide) ez32 eq33
              refine ⟨by grind [k_ii, k_ir, k_ri, k_rr, k_ai, k_ar, k_li, k_lr, k_qi, k_qr, ar_ci, ar_cl, ar_cq, la_ci, la_ca, la_cq, qa_ci, qa_ca, qa_cl, tk_link, kn10, kn460, kn8064], ?_⟩
              intro z34 ez34
              replace ez34 := ez34.trans (ar_rd nS (by decide) (by decide) wq33)
              have dsc : -1 ≤ z34.toInt ∧ z34.toInt ≤ 1379 := by rw [ez34]; exact dscA
              have ab := act.2.1 (by grind [k_ii, k_ir, k_ri, k_rr, k_ai, k_ar, k_li, k_lr, k_qi, k_qr, ar_ci, ar_cl, ar_cq, la_ci, la_ca, la_cq, qa_ci, qa_ca, qa_cl, tk_link, kn10, kn460, kn8064])
              refine kmT_X6_leave _ _ _ _ _ _ _ _ (fun S35 hF14 pS35 => ?_) (sk_X6_leave (h := h) (pg := pg) (sc := sc) (W := W) _ _ _ _ _ (INJ_x nS (by decide) hI) (ob_h nS (by decide) hO41_t0) (ob_h nS (by decide) hO2_h) (ob_h nS (by decide) hO31_pg) hP (by rw [ez34]; exact hg) dsc (by exact hP.2.2.2.1.2) (fun _ => by rw [e8]; exact ⟨ab.1, ab.2.1, GV_o hg ab.2.2⟩) hf)
              have nS35 : FX [] S S35 := FX_k hF14 (by decide) nS
              have fS35 := HF_k hF14 (INJ_x nS (by decide) hI) (by decide) (by decide) (by decide)
              clear hF14
              exact ⟨pS35, by rw [fS35.1 21 (by decide)]; exact h21, fun _ => fS35.1 0 (by decide), fun q => absurd q (by grind [k_ii, k_ir, k_ri, k_rr, k_ai, k_ar, k_li, k_lr, k_qi, k_qr, ar_ci, ar_cl, ar_cq, la_ci, la_ca, la_cq, qa_ci, qa_ca, qa_cl, tk_link, kn10, kn460, kn8064])⟩
            · refine ⟨fun c15 => ?_, fun c15 => ?_⟩
              · refine kmT_X6_pop _ _ _ _ (fun S37 r37 hF16 pS37 => ?_) (sk_X6_pop _ (INJ_x nS (by decide) hI) h21)
                have nS37 : FX [] S S37 := FX_k hF16 (by decide) nS
                have fS37 := HF_k hF16 (INJ_x nS (by decide) hI) (by decide) (by decide) (by decide)
                clear hF16
                have vS37 : pv pg sc S37 = (pv pg sc S) := pv_f fS37 (by decide) (by decide)
                intro z38 ez38
                intro q39 eq39
                have wq39 := rd_w nS37 (by decide) ez38 eq39
                refine ⟨by grind [k_ii, k_ir, k_ri, k_rr, k_ai, k_ar, k_li, k_lr, k_qi, k_qr, ar_ci, ar_cl, ar_cq, la_ci, la_ca, la_cq, qa_ci, qa_ca, qa_cl, tk_link, kn10, kn460, kn8064], ?_⟩
                intro z40 ez40
                replace ez40 := ez40.trans (ar_rd nS37 (by decide) (by decide) wq39)
                have e40 : z40 = ar S 30 pg (ix a2) := by rw [ez40, fS37.2.2.1 30 (by decide)]
                have dsc : -1 ≤ z40.toInt ∧ z40.toInt ≤ 1379 := by rw [e40]; exact dscA
                refine kmT_X6_leave _ _ _ _ _ _ _ _ (fun S41 hF17 pS41 => ?_) (sk_X6_leave (h := h) (pg := pg) (sc := sc) (W := W) _ _ _ _ _ (INJ_x nS37 (by decide) hI) (ob_h nS37 (by decide) hO41_t0) (ob_h nS37 (by decide) hO2_h) (ob_h nS37 (by decide) hO31_pg) (by rw [vS37]; exact hP) (by rw [vS37, e40]; exact hg) dsc (by rw [vS37]; exact hP.2.2.2.1.2) (fun q => absurd q (by decide)) (by rw [vS37, fS37.2.2.1 59 (by decide), fS37.2.2.1 60 (by decide)]; exact hf))
                have nS41 : FX [] S S41 := FX_k hF17 (by decide) nS37
                have fS41 := HF_k hF17 (INJ_x nS37 (by decide) hI) (by decide) (by decide) (by decide)
                clear hF17
                exact ⟨LVQ_p fS37 (by decide) (by decide) (by rw [vS37] at pS41; exact pS41), by rw [fS41.1 21 (by decide)]; exact pS37, fun _ => by rw [fS41.1 0 (by decide), fS37.1 0 (by decide)], fun q => absurd q (by grind [k_ii, k_ir, k_ri, k_rr, k_ai, k_ar, k_li, k_lr, k_qi, k_qr, ar_ci, ar_cl, ar_cq, la_ci, la_ca, la_cq, qa_ci, qa_ca, qa_cl, tk_link, kn10, kn460, kn8064])⟩
              · refine ⟨fun c18 => ?_, fun c18 => ?_⟩
                · refine kmT_X6_fail _ _ _ _ _ _ _ (fun S43 hF19 pS43 => ?_) (sk_X6_fail (h := h) (pg := pg) (sc := sc) (W := W) _ _ _ _ (INJ_x nS (by decide) hI) (ob_h nS (by decide) hO41_t0) (ob_h nS (by decide) hO2_h) (ob_h nS (by decide) hO31_pg) hP h2 hg hf)
                  have nS43 : FX [] S S43 := FX_k hF19 (by decide) nS
                  have fS43 := HF_k hF19 (INJ_x nS (by decide) hI) (by decide) (by decide) (by decide)
                  clear hF19
                  exact ⟨(by rcases pS43 with w | w; (exact absurd w.1 hs); (exact w.2)), by rw [fS43.1 21 (by decide)]; exact h21, fun _ => fS43.1 0 (by decide), fun q => absurd q (by grind [k_ii, k_ir, k_ri, k_rr, k_ai, k_ar, k_li, k_lr, k_qi, k_qr, ar_ci, ar_cl, ar_cq, la_ci, la_ca, la_cq, qa_ci, qa_ca, qa_cl, tk_link, kn10, kn460, kn8064])⟩
                · refine ⟨fun c20 => ?_, fun c20 => ?_⟩
                  · intro q45 eq45
                    obtain rfl := ob_q nS (by decide) hO31_pg ez5 eq45
                    have ab := act.2.2.1 (by grind [k_ii, k_ir, k_ri, k_rr, k_ai, k_ar, k_li, k_lr, k_qi, k_qr, ar_ci, ar_cl, ar_cq, la_ci, la_ca, la_cq, qa_ci, qa_ca, qa_cl, tk_link, kn10, kn460, kn8064])
                    have l24 : (pv pg sc S).1 24 ≤ 460 := hP.2.2.1.2
                    have kx := kx_int z8 (by rw [e8]; exact ab.1)
                    have go := GV_i hg (by have := ab.2.2; omega)
                    rw [show ((pv pg sc S).2 30 a2.toInt.toNat / 3).toNat = ix z8 by have := ab.2.2; unfold ix; rw [e8]; omega] at go
                    have tr := hP.2.2.2.2.2.2.2.2.2.2.2.2.1 (ix z8) (by rw [kx, e8]; exact ab.2.1)
                    refine kmT_X7_is _ _ _ _ _ _ (fun S46 r46 hF21 pS46 => ?_) (sk_X7_is _ _ _ (INJ_x nS (by decide) hI) (by grind [k_ii, k_ir, k_ri, k_rr, k_ai, k_ar, k_li, k_lr, k_qi, k_qr, ar_ci, ar_cl, ar_cq, la_ci, la_ca, la_cq, qa_ci, qa_ca, qa_cl, tk_link, kn10, kn460, kn8064]))
                    obtain ⟨rfl, pS46⟩ := pS46
                    clear hF21
                    refine ⟨fun c22 => ?_, fun c22 => ?_⟩
                    · intro z48 ez48
                      intro q49 eq49
                      have wq49 := rd_w nS (by decide) ez48 eq49
                      refine ⟨by grind [k_ii, k_ir, k_ri, k_rr, k_ai, k_ar, k_li, k_lr, k_qi, k_qr, ar_ci, ar_cl, ar_cq, la_ci, la_ca, la_cq, qa_ci, qa_ca, qa_cl, tk_link, kn10, kn460, kn8064], ?_⟩
                      intro z50 ez50
                      replace ez50 := ez50.trans (ar_rd nS (by decide) (by decide) wq49)
                      intro S51 eS51
                      have nS51 : FX [] S S51 := FX_i eS51 nS
                      exact ⟨LVQ_w eS51 hf (by rw [ez50]; exact PCG_t tr.2.2 go.2.2), by rw [(HF_i eS51).1 21 (by decide)]; exact h21, fun _ => (HF_i eS51).1 0 (by decide), fun q => absurd q (by grind [k_ii, k_ir, k_ri, k_rr, k_ai, k_ar, k_li, k_lr, k_qi, k_qr, ar_ci, ar_cl, ar_cq, la_ci, la_ca, la_cq, qa_ci, qa_ca, qa_cl, tk_link, kn10, kn460, kn8064])⟩
                    · intro z52 ez52
                      intro z53 ez53
                      intro q54 eq54
                      have wq54 := rd_w nS (by decide) ez53 eq54
                      refine ⟨by grind [k_ii, k_ir, k_ri, k_rr, k_ai, k_ar, k_li, k_lr, k_qi, k_qr, ar_ci, ar_cl, ar_cq, la_ci, la_ca, la_cq, qa_ci, qa_ca, qa_cl, tk_link, kn10, kn460, kn8064], ?_⟩
                      intro z55 ez55
                      replace ez55 := ez55.trans (ar_rd nS (by decide) (by decide) wq54)
                      have d55 : 0 ≤ z55.toInt ∧ z55.toInt ≤ 9 := by rw [ez55]; exact hP.2.2.2.2.2.2.2.1 (ix z8)
                      intro q56 eq56
                      have wq56 := rd_w nS (by decide) ez52 eq56
                      refine ⟨by grind [k_ii, k_ir, k_ri, k_rr, k_ai, k_ar, k_li, k_lr, k_qi, k_qr, ar_ci, ar_cl, ar_cq, la_ci, la_ca, la_cq, qa_ci, qa_ca, qa_cl, tk_link, kn10, kn460, kn8064], ?_⟩
                      intro S57 eS57
                      have nS57 : FX [] S S57 := FX_a eS57 nS
                      have arS57 := ar_wr hI nS (by decide) (by decide) wq56 eS57
                      intro z58 ez58
                      intro q59 eq59
                      have wq59 := rd_w nS57 (by decide) ez58 eq59
                      refine ⟨by grind [k_ii, k_ir, k_ri, k_rr, k_ai, k_ar, k_li, k_lr, k_qi, k_qr, ar_ci, ar_cl, ar_cq, la_ci, la_ca, la_cq, qa_ci, qa_ca, qa_cl, tk_link, kn10, kn460, kn8064], ?_⟩
                      intro z60 ez60
                      replace ez60 := ez60.trans (ar_rd nS57 (by decide) (by decide) wq59)
                      intro S61 eS61
                      have nS61 : FX [] S S61 := FX_i eS61 nS57
                      have kd := kx_int z55 d55.1
                      have m0 : ar S 49 sc (ix z8) &&& 2 ≠ 0 := by grind [k_ii, k_ir, k_ri, k_rr, k_ai, k_ar, k_li, k_lr, k_qi, k_qr, ar_ci, ar_cl, ar_cq, la_ci, la_ca, la_cq, qa_ci, qa_ca, qa_cl, tk_link, kn10, kn460, kn8064]
                      have e60 : z60.toInt = (pv pg sc S).2 47 (ix z8) := by rw [ez60, arS57 47 sc (ix z8), if_neg (fun c => absurd c.1 (by decide))]; rfl
                      have fr61 : FRS (pv pg sc S) (fun d => W d ∨ d = (ix z55 : Nat)) (ar S61 59 a0) (ar S61 60 a0) := FRS_u (k := ix z55) (x := 0) (y := ar S 60 a0 (ix z55)) hf (fun j => by rw [show ar S61 59 a0 j = ar S57 59 a0 j by rw [eS61]; rfl, arS57 59 a0 j]; rcases Decidable.em (j = ix z55) with c9 | c9; (rw [if_pos ⟨rfl, rfl, c9⟩, if_pos c9]); (rw [if_neg (fun q => c9 q.2.2), if_neg c9])) (fun j => by rw [show ar S61 60 a0 j = ar S57 60 a0 j by rw [eS61]; rfl, arS57 60 a0 j, if_neg (fun c => absurd c.1 (by decide))]; rcases Decidable.em (j = ix z55) with c9 | c9; (rw [if_pos c9, c9]); (rw [if_neg c9])) (fun q => absurd q (by decide))
                      have pg61 : PCG (pv pg sc S) (fun d => W d ∨ d = (ix z55 : Nat)) z60.toInt := by rw [e60]; exact PCG_t (tr.2.1 (an_2 m0)) (GV_b (GV_m hg (fun _ h => Or.inl h)) (by have := ab.2.2; omega) (by rw [kx, e8]; have := ab.2.2; omega) (fun _ => Or.inr (by rw [kd, ez55, show ((3 * ((ix z8 : Nat) : Int) + 2) / 3).toNat = ix z8 by omega]; rfl)))
                      have lv61 : LVQ (pv pg sc S) W t0 a0 S S61 := ⟨fun d => W d ∨ d = (ix z55 : Nat), fun _ h => Or.inl h, fr61, fun o ho => ⟨by rw [eS61, k_ii, if_neg (fun c => ho c.2), eS57]; rfl, fun j => by rw [show ar S61 59 o j = ar S57 59 o j by rw [eS61]; rfl, arS57 59 o j, if_neg (fun c => ho c.2.1)], fun j => by rw [show ar S61 60 o j = ar S57 60 o j by rw [eS61]; rfl, arS57 60 o j, if_neg (fun c => ho c.2.1)]⟩, Or.inr ⟨by rw [eS61, k_ii, if_neg (fun c => absurd c.1 (by decide)), eS57]; rfl, by rw [eS61, k_ii, if_pos ⟨rfl, rfl⟩]; exact pg61⟩⟩
                      exact ⟨lv61, by rw [(HF_i eS61).1 21 (by decide), (HF_a eS57 arS57).1 21 (by decide)]; exact h21, fun _ => by rw [(HF_i eS61).1 0 (by decide), (HF_a eS57 arS57).1 0 (by decide)], fun q => absurd q (by grind [k_ii, k_ir, k_ri, k_rr, k_ai, k_ar, k_li, k_lr, k_qi, k_qr, ar_ci, ar_cl, ar_cq, la_ci, la_ca, la_cq, qa_ci, qa_ca, qa_cl, tk_link, kn10, kn460, kn8064])⟩
                  · refine ⟨fun c23 => ?_, fun c23 => ?_⟩
                    · intro z63 ez63
                      refine kmT_X9_set _ _ _ _ _ _ (fun S64 hF24 pS64 => ?_) (sk_X9_set _ _ _ (INJ_x nS (by decide) hI) )
                      have nS64 : FX [] S S64 := FX_k hF24 (by decide) nS
                      have fS64 := HF_k hF24 (INJ_x nS (by decide) hI) (by decide) (by decide) (by decide)
                      clear hF24
                      exact ⟨LVQ_0 fS64 (by decide) (by decide) hf (by rw [h36]; exact hq (by grind [k_ii, k_ir, k_ri, k_rr, k_ai, k_ar, k_li, k_lr, k_qi, k_qr, ar_ci, ar_cl, ar_cq, la_ci, la_ca, la_cq, qa_ci, qa_ca, qa_cl, tk_link, kn10, kn460, kn8064])), by rw [fS64.1 21 (by decide)]; exact h21, fun _ => fS64.1 0 (by decide), fun q => absurd q (by grind [k_ii, k_ir, k_ri, k_rr, k_ai, k_ar, k_li, k_lr, k_qi, k_qr, ar_ci, ar_cl, ar_cq, la_ci, la_ca, la_cq, qa_ci, qa_ca, qa_cl, tk_link, kn10, kn460, kn8064])⟩
                    · refine ⟨fun c25 => ?_, fun c25 => ?_⟩
                      · refine kmT_X6_finishEnd _ _ _ _ _ _ (fun S66 hF26 pS66 => ?_) (sk_X6_finishEnd (h := h) (pg := pg) (sc := sc) (W := W) _ _ _ (INJ_x nS (by decide) hI) (ob_h nS (by decide) hO41_t0) (ob_h nS (by decide) hO2_h) (ob_h nS (by decide) hO31_pg) hP (by rw [e8]; exact ⟨(act.2.2.2.1 (by grind [k_ii, k_ir, k_ri, k_rr, k_ai, k_ar, k_li, k_lr, k_qi, k_qr, ar_ci, ar_cl, ar_cq, la_ci, la_ca, la_cq, qa_ci, qa_ca, qa_cl, tk_link, kn10, kn460, kn8064])).1, (act.2.2.2.1 (by grind [k_ii, k_ir, k_ri, k_rr, k_ai, k_ar, k_li, k_lr, k_qi, k_qr, ar_ci, ar_cl, ar_cq, la_ci, la_ca, la_cq, qa_ci, qa_ca, qa_cl, tk_link, kn10, kn460, kn8064])).2.1⟩) (by rw [e8, ← (act.2.2.2.1 (by grind [k_ii, k_ir, k_ri, k_rr, k_ai, k_ar, k_li, k_lr, k_qi, k_qr, ar_ci, ar_cl, ar_cq, la_ci, la_ca, la_cq, qa_ci, qa_ca, qa_cl, tk_link, kn10, kn460, kn8064])).2.2]; exact hg) hf)
                        have nS66 : FX [] S S66 := FX_k hF26 (by decide) nS
                        have fS66 := HF_k hF26 (INJ_x nS (by decide) hI) (by decide) (by decide) (by decide)
                        clear hF26
                        exact ⟨pS66, by rw [fS66.1 21 (by decide)]; exact h21, fun _ => fS66.1 0 (by decide), fun q => absurd q (by grind [k_ii, k_ir, k_ri, k_rr, k_ai, k_ar, k_li, k_lr, k_qi, k_qr, ar_ci, ar_cl, ar_cq, la_ci, la_ca, la_cq, qa_ci, qa_ca, qa_cl, tk_link, kn10, kn460, kn8064])⟩
                      · refine kmT_X6_end _ _ _ _ _ _ _ (fun S67 hF27 pS67 => ?_) (sk_X6_end _ _ _ _ (INJ_x nS (by decide) hI) )
                        have nS67 : FX [] S S67 := FX_k hF27 (by decide) nS
                        have fS67 := HF_k hF27 (INJ_x nS (by decide) hI) (by decide) (by decide) (by decide)
                        clear hF27
                        exact ⟨LVQ_3 fS67 (by decide) (by decide) hf pS67, by rw [fS67.1 21 (by decide)]; exact h21, fun _ => fS67.1 0 (by decide), fun q => absurd q (by grind [k_ii, k_ir, k_ri, k_rr, k_ai, k_ar, k_li, k_lr, k_qi, k_qr, ar_ci, ar_cl, ar_cq, la_ci, la_ca, la_cq, qa_ci, qa_ca, qa_cl, tk_link, kn10, kn460, kn8064])⟩
