
set_option maxHeartbeats 400000 in
theorem sk_X6_join {h pg sc : Nat} {W : Int → Prop} (t0 : Nat) (a0 : Nat) (a1 : Int32) (a2 : Int32) {S : kS} (hI : INJ S) (hO41_t0 : S.2.1 41 t0 = some h) (hO2_h : S.2.1 2 h = some pg) (hO31_pg : S.2.1 31 pg = some sc) (hP : PGM (pv pg sc S)) (h2 : 0 ≤ a2.toInt ∧ a2.toInt < (pv pg sc S).1 17) (hg : GV (pv pg sc S) W ((pv pg sc S).2 30 a2.toInt.toNat)) (hf : FRS (pv pg sc S) W (ar S 59 a0) (ar S 60 a0)) (h21 : 0 ≤ (S.1 21 t0).toInt ∧ (S.1 21 t0).toInt ≤ 64) : wT_X6_join t0 a0 a1 a2 S (fun S1 => (HF [21] [] [42] [] S S1 ∨ FLX (pv pg sc S) W t0 a0 a2 S S1) ∧ 0 ≤ (S1.1 21 t0).toInt ∧ (S1.1 21 t0).toInt ≤ 64) := by
  have nS : FX [] S S := FX_rf
  unfold wT_X6_join
  refine kmT_X6_pop _ _ _ _ (fun S1 r1 hF1 pS1 => ?_) (sk_X6_pop _ (INJ_x nS (by decide) hI) h21)
  have nS1 : FX [] S S1 := FX_k hF1 (by decide) nS
  have fS1 := HF_k hF1 (INJ_x nS (by decide) hI) (by decide) (by decide) (by decide)
  clear hF1
  refine kmT_X6_pop _ _ _ _ (fun S2 r2 hF2 pS2 => ?_) (sk_X6_pop _ (INJ_x nS1 (by decide) hI) pS1)
  have nS2 : FX [] S S2 := FX_k hF2 (by decide) nS1
  have fS2 := HF_k hF2 (INJ_x nS1 (by decide) hI) (by decide) (by decide) (by decide)
  clear hF2
  have g2 : HF [21] [] [42] [] S S2 := HF_tr (HF_s fS1 (by decide) (by decide) (by decide) (by decide)) (HF_s fS2 (by decide) (by decide) (by decide) (by decide))
  have v2 : pv pg sc S2 = (pv pg sc S) := pv_f g2 (by decide) (by decide)
  refine ⟨fun c3 => ?_, fun c3 => ?_⟩
  · intro z4 ez4
    refine kmT_X6_push _ _ _ _ _ (fun S5 hF4 pS5 => ?_) (sk_X6_push _ _ (INJ_x nS2 (by decide) hI) pS2)
    have nS5 : FX [] S S5 := FX_k hF4 (by decide) nS2
    have fS5 := HF_k hF4 (INJ_x nS2 (by decide) hI) (by decide) (by decide) (by decide)
    clear hF4
    exact ⟨Or.inl (HF_tr (HF_s fS1 (by decide) (by decide) (by decide) (by decide)) (HF_tr (HF_s fS2 (by decide) (by decide) (by decide) (by decide)) (HF_s fS5 (by decide) (by decide) (by decide) (by decide)))), pS5⟩
  · refine ⟨fun c5 => ?_, fun c5 => ?_⟩
    · intro z7 ez7
      refine kmT_X6_push _ _ _ _ _ (fun S8 hF6 pS8 => ?_) (sk_X6_push _ _ (INJ_x nS2 (by decide) hI) pS2)
      have nS8 : FX [] S S8 := FX_k hF6 (by decide) nS2
      have fS8 := HF_k hF6 (INJ_x nS2 (by decide) hI) (by decide) (by decide) (by decide)
      clear hF6
      exact ⟨Or.inl (HF_tr (HF_s fS1 (by decide) (by decide) (by decide) (by decide)) (HF_tr (HF_s fS2 (by decide) (by decide) (by decide) (by decide)) (HF_s fS8 (by decide) (by decide) (by decide) (by decide)))), pS8⟩
    · refine ⟨fun c7 => ?_, fun c7 => ?_⟩
      · intro z10 ez10
        refine kmT_X6_push _ _ _ _ _ (fun S11 hF8 pS11 => ?_) (sk_X6_push _ _ (INJ_x nS2 (by decide) hI) pS2)
        have nS11 : FX [] S S11 := FX_k hF8 (by decide) nS2
        have fS11 := HF_k hF8 (INJ_x nS2 (by decide) hI) (by decide) (by decide) (by decide)
        clear hF8
        exact ⟨Or.inl (HF_tr (HF_s fS1 (by decide) (by decide) (by decide) (by decide)) (HF_tr (HF_s fS2 (by decide) (by decide) (by decide) (by decide)) (HF_s fS11 (by decide) (by decide) (by decide) (by decide)))), pS11⟩
      · refine ⟨fun c9 => ?_, fun c9 => ?_⟩
        · refine ⟨fun c10 => ?_, fun c10 => ?_⟩
          · refine ⟨fun c11 => ?_, fun c11 => ?_⟩
            · refine ⟨by grind [k_ii, k_ir, k_ri, k_rr, k_ai, k_ar, k_li, k_lr, k_qi, k_qr, ar_ci, ar_cl, ar_cq, la_ci, la_ca, la_cq, qa_ci, qa_ca, qa_cl, tk_link], ?_⟩
              intro z15 ez15
              unfold wT_X6_join_166
              refine kmT_X6_push _ _ _ _ _ (fun S35 hF12 pS35 => ?_) (sk_X6_push _ _ (INJ_x nS2 (by decide) hI) pS2)
              have nS35 : FX [] S S35 := FX_k hF12 (by decide) nS2
              have fS35 := HF_k hF12 (INJ_x nS2 (by decide) hI) (by decide) (by decide) (by decide)
              clear hF12
              exact ⟨Or.inl (HF_tr (HF_s fS1 (by decide) (by decide) (by decide) (by decide)) (HF_tr (HF_s fS2 (by decide) (by decide) (by decide) (by decide)) (HF_s fS35 (by decide) (by decide) (by decide) (by decide)))), pS35⟩
            · refine ⟨by grind [k_ii, k_ir, k_ri, k_rr, k_ai, k_ar, k_li, k_lr, k_qi, k_qr, ar_ci, ar_cl, ar_cq, la_ci, la_ca, la_cq, qa_ci, qa_ca, qa_cl, tk_link], ?_⟩
              intro z16 ez16
              unfold wT_X6_join_166
              refine kmT_X6_push _ _ _ _ _ (fun S35 hF13 pS35 => ?_) (sk_X6_push _ _ (INJ_x nS2 (by decide) hI) pS2)
              have nS35 : FX [] S S35 := FX_k hF13 (by decide) nS2
              have fS35 := HF_k hF13 (INJ_x nS2 (by decide) hI) (by decide) (by decide) (by decide)
              clear hF13
              exact ⟨Or.inl (HF_tr (HF_s fS1 (by decide) (by decide) (by decide) (by decide)) (HF_tr (HF_s fS2 (by decide) (by decide) (by decide) (by decide)) (HF_s fS35 (by decide) (by decide) (by decide) (by decide)))), pS35⟩
          · refine kmT_X6_fail _ _ _ _ _ _ _ (fun S17 hF14 pS17 => ?_) (sk_X6_fail (h := h) (pg := pg) (sc := sc) (W := W) _ _ _ _ (INJ_x nS2 (by decide) hI) (ob_h nS2 (by decide) hO41_t0) (ob_h nS2 (by decide) hO2_h) (ob_h nS2 (by decide) hO31_pg) (by rw [v2]; exact hP) (by rw [v2]; exact h2) (by rw [v2]; exact hg) (by rw [v2, g2.2.2.1 59 (by decide), g2.2.2.1 60 (by decide)]; exact hf))
            have nS17 : FX [] S S17 := FX_k hF14 (by decide) nS2
            have fS17 := HF_k hF14 (INJ_x nS2 (by decide) hI) (by decide) (by decide) (by decide)
            clear hF14
            exact ⟨Or.inr (FLX_p g2 (by decide) (by decide) (by decide) (by rw [v2] at pS17; exact pS17)), by rw [fS17.1 21 (by decide)]; exact pS2⟩
        · refine ⟨fun c15 => ?_, fun c15 => ?_⟩
          · refine ⟨fun c16 => ?_, fun c16 => ?_⟩
            · refine ⟨fun c17 => ?_, fun c17 => ?_⟩
              · refine ⟨by grind [k_ii, k_ir, k_ri, k_rr, k_ai, k_ar, k_li, k_lr, k_qi, k_qr, ar_ci, ar_cl, ar_cq, la_ci, la_ca, la_cq, qa_ci, qa_ca, qa_cl, tk_link], ?_⟩
                intro z21 ez21
                unfold wT_X6_join_166
                refine kmT_X6_push _ _ _ _ _ (fun S35 hF18 pS35 => ?_) (sk_X6_push _ _ (INJ_x nS2 (by decide) hI) pS2)
                have nS35 : FX [] S S35 := FX_k hF18 (by decide) nS2
                have fS35 := HF_k hF18 (INJ_x nS2 (by decide) hI) (by decide) (by decide) (by decide)
                clear hF18
                exact ⟨Or.inl (HF_tr (HF_s fS1 (by decide) (by decide) (by decide) (by decide)) (HF_tr (HF_s fS2 (by decide) (by decide) (by decide) (by decide)) (HF_s fS35 (by decide) (by decide) (by decide) (by decide)))), pS35⟩
              · refine ⟨by grind [k_ii, k_ir, k_ri, k_rr, k_ai, k_ar, k_li, k_lr, k_qi, k_qr, ar_ci, ar_cl, ar_cq, la_ci, la_ca, la_cq, qa_ci, qa_ca, qa_cl, tk_link], ?_⟩
                intro z22 ez22
                unfold wT_X6_join_166
                refine kmT_X6_push _ _ _ _ _ (fun S35 hF19 pS35 => ?_) (sk_X6_push _ _ (INJ_x nS2 (by decide) hI) pS2)
                have nS35 : FX [] S S35 := FX_k hF19 (by decide) nS2
                have fS35 := HF_k hF19 (INJ_x nS2 (by decide) hI) (by decide) (by decide) (by decide)
                clear hF19
                exact ⟨Or.inl (HF_tr (HF_s fS1 (by decide) (by decide) (by decide) (by decide)) (HF_tr (HF_s fS2 (by decide) (by decide) (by decide) (by decide)) (HF_s fS35 (by decide) (by decide) (by decide) (by decide)))), pS35⟩
            · refine kmT_X6_fail _ _ _ _ _ _ _ (fun S23 hF20 pS23 => ?_) (sk_X6_fail (h := h) (pg := pg) (sc := sc) (W := W) _ _ _ _ (INJ_x nS2 (by decide) hI) (ob_h nS2 (by decide) hO41_t0) (ob_h nS2 (by decide) hO2_h) (ob_h nS2 (by decide) hO31_pg) (by rw [v2]; exact hP) (by rw [v2]; exact h2) (by rw [v2]; exact hg) (by rw [v2, g2.2.2.1 59 (by decide), g2.2.2.1 60 (by decide)]; exact hf))
              have nS23 : FX [] S S23 := FX_k hF20 (by decide) nS2
              have fS23 := HF_k hF20 (INJ_x nS2 (by decide) hI) (by decide) (by decide) (by decide)
              clear hF20
              exact ⟨Or.inr (FLX_p g2 (by decide) (by decide) (by decide) (by rw [v2] at pS23; exact pS23)), by rw [fS23.1 21 (by decide)]; exact pS2⟩
          · refine ⟨fun c21 => ?_, fun c21 => ?_⟩
            · refine ⟨fun c22 => ?_, fun c22 => ?_⟩
              · unfold wT_X6_join_105
                refine kmT_X6_push _ _ _ _ _ (fun S34 hF23 pS34 => ?_) (sk_X6_push _ _ (INJ_x nS2 (by decide) hI) pS2)
                have nS34 : FX [] S S34 := FX_k hF23 (by decide) nS2
                have fS34 := HF_k hF23 (INJ_x nS2 (by decide) hI) (by decide) (by decide) (by decide)
                clear hF23
                exact ⟨Or.inl (HF_tr (HF_s fS1 (by decide) (by decide) (by decide) (by decide)) (HF_tr (HF_s fS2 (by decide) (by decide) (by decide) (by decide)) (HF_s fS34 (by decide) (by decide) (by decide) (by decide)))), pS34⟩
              · unfold wT_X6_join_105
                refine kmT_X6_push _ _ _ _ _ (fun S34 hF24 pS34 => ?_) (sk_X6_push _ _ (INJ_x nS2 (by decide) hI) pS2)
                have nS34 : FX [] S S34 := FX_k hF24 (by decide) nS2
                have fS34 := HF_k hF24 (INJ_x nS2 (by decide) hI) (by decide) (by decide) (by decide)
                clear hF24
                exact ⟨Or.inl (HF_tr (HF_s fS1 (by decide) (by decide) (by decide) (by decide)) (HF_tr (HF_s fS2 (by decide) (by decide) (by decide) (by decide)) (HF_s fS34 (by decide) (by decide) (by decide) (by decide)))), pS34⟩
            · refine ⟨fun c25 => ?_, fun c25 => ?_⟩
              · refine ⟨fun c26 => ?_, fun c26 => ?_⟩
                · unfold wT_X6_join_124
                  refine kmT_X6_push _ _ _ _ _ (fun S33 hF27 pS33 => ?_) (sk_X6_push _ _ (INJ_x nS2 (by decide) hI) pS2)
                  have nS33 : FX [] S S33 := FX_k hF27 (by decide) nS2
                  have fS33 := HF_k hF27 (INJ_x nS2 (by decide) hI) (by decide) (by decide) (by decide)
                  clear hF27
                  exact ⟨Or.inl (HF_tr (HF_s fS1 (by decide) (by decide) (by decide) (by decide)) (HF_tr (HF_s fS2 (by decide) (by decide) (by decide) (by decide)) (HF_s fS33 (by decide) (by decide) (by decide) (by decide)))), pS33⟩
                · unfold wT_X6_join_124
                  refine kmT_X6_push _ _ _ _ _ (fun S33 hF28 pS33 => ?_) (sk_X6_push _ _ (INJ_x nS2 (by decide) hI) pS2)
                  have nS33 : FX [] S S33 := FX_k hF28 (by decide) nS2
                  have fS33 := HF_k hF28 (INJ_x nS2 (by decide) hI) (by decide) (by decide) (by decide)
                  clear hF28
                  exact ⟨Or.inl (HF_tr (HF_s fS1 (by decide) (by decide) (by decide) (by decide)) (HF_tr (HF_s fS2 (by decide) (by decide) (by decide) (by decide)) (HF_s fS33 (by decide) (by decide) (by decide) (by decide)))), pS33⟩
              · refine ⟨fun c29 => ?_, fun c29 => ?_⟩
                · refine ⟨fun c30 => ?_, fun c30 => ?_⟩
                  · refine ⟨by grind [k_ii, k_ir, k_ri, k_rr, k_ai, k_ar, k_li, k_lr, k_qi, k_qr, ar_ci, ar_cl, ar_cq, la_ci, la_ca, la_cq, qa_ci, qa_ca, qa_cl, tk_link], ?_⟩
                    intro z30 ez30
                    unfold wT_X6_join_166
                    refine kmT_X6_push _ _ _ _ _ (fun S35 hF31 pS35 => ?_) (sk_X6_push _ _ (INJ_x nS2 (by decide) hI) pS2)
                    have nS35 : FX [] S S35 := FX_k hF31 (by decide) nS2
                    have fS35 := HF_k hF31 (INJ_x nS2 (by decide) hI) (by decide) (by decide) (by decide)
                    clear hF31
                    exact ⟨Or.inl (HF_tr (HF_s fS1 (by decide) (by decide) (by decide) (by decide)) (HF_tr (HF_s fS2 (by decide) (by decide) (by decide) (by decide)) (HF_s fS35 (by decide) (by decide) (by decide) (by decide)))), pS35⟩
                  · refine ⟨by grind [k_ii, k_ir, k_ri, k_rr, k_ai, k_ar, k_li, k_lr, k_qi, k_qr, ar_ci, ar_cl, ar_cq, la_ci, la_ca, la_cq, qa_ci, qa_ca, qa_cl, tk_link], ?_⟩
                    intro z31 ez31
                    unfold wT_X6_join_166
                    refine kmT_X6_push _ _ _ _ _ (fun S35 hF32 pS35 => ?_) (sk_X6_push _ _ (INJ_x nS2 (by decide) hI) pS2)
                    have nS35 : FX [] S S35 := FX_k hF32 (by decide) nS2
                    have fS35 := HF_k hF32 (INJ_x nS2 (by decide) hI) (by decide) (by decide) (by decide)
                    clear hF32
                    exact ⟨Or.inl (HF_tr (HF_s fS1 (by decide) (by decide) (by decide) (by decide)) (HF_tr (HF_s fS2 (by decide) (by decide) (by decide) (by decide)) (HF_s fS35 (by decide) (by decide) (by decide) (by decide)))), pS35⟩
                · refine kmT_X6_fail _ _ _ _ _ _ _ (fun S32 hF33 pS32 => ?_) (sk_X6_fail (h := h) (pg := pg) (sc := sc) (W := W) _ _ _ _ (INJ_x nS2 (by decide) hI) (ob_h nS2 (by decide) hO41_t0) (ob_h nS2 (by decide) hO2_h) (ob_h nS2 (by decide) hO31_pg) (by rw [v2]; exact hP) (by rw [v2]; exact h2) (by rw [v2]; exact hg) (by rw [v2, g2.2.2.1 59 (by decide), g2.2.2.1 60 (by decide)]; exact hf))
                  have nS32 : FX [] S S32 := FX_k hF33 (by decide) nS2
                  have fS32 := HF_k hF33 (INJ_x nS2 (by decide) hI) (by decide) (by decide) (by decide)
                  clear hF33
                  exact ⟨Or.inr (FLX_p g2 (by decide) (by decide) (by decide) (by rw [v2] at pS32; exact pS32)), by rw [fS32.1 21 (by decide)]; exact pS2⟩
