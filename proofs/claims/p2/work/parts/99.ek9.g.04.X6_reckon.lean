
set_option maxHeartbeats 400000 in
theorem sk_X6_reckon {h pg sc : Nat} {W : Int → Prop} (t0 : Nat) (a0 : Nat) (a1 : Int32) (a2 : Int32) {S : kS} (hI : INJ S) (hO41_t0 : S.2.1 41 t0 = some h) (hO2_h : S.2.1 2 h = some pg) (hO31_pg : S.2.1 31 pg = some sc) (hP : PGM (pv pg sc S)) (h2 : 0 ≤ a2.toInt ∧ a2.toInt < (pv pg sc S).1 17) (hg : GV (pv pg sc S) W ((pv pg sc S).2 30 a2.toInt.toNat)) (hf : FRS (pv pg sc S) W (ar S 59 a0) (ar S 60 a0)) (h21 : 0 ≤ (S.1 21 t0).toInt ∧ (S.1 21 t0).toInt ≤ 64) : wT_X6_reckon t0 a0 a1 a2 S (fun S1 => (HF [21] [] [42] [] S S1 ∨ FLX (pv pg sc S) W t0 a0 a2 S S1) ∧ 0 ≤ (S1.1 21 t0).toInt ∧ (S1.1 21 t0).toInt ≤ 64) := by
  have nS : FX [] S S := FX_rf
  have l17 : (pv pg sc S).1 17 ≤ 8064 := hP.1.2
  unfold wT_X6_reckon
  intro z1 ez1
  intro q2 eq2
  obtain rfl := ob_q nS (by decide) hO41_t0 ez1 eq2
  intro z3 ez3
  refine ⟨pg, ob_e nS (by decide) hO2_h ez3, ?_⟩
  intro z5 ez5
  intro q6 eq6
  have wq6 := rd_w nS (by decide) ez5 eq6
  refine ⟨by grind [k_ii, k_ir, k_ri, k_rr, k_ai, k_ar, k_li, k_lr, k_qi, k_qr, ar_ci, ar_cl, ar_cq, la_ci, la_ca, la_cq, qa_ci, qa_ca, qa_cl, tk_link, kn8064], ?_⟩
  intro z7 ez7
  replace ez7 := ez7.trans (ar_rd nS (by decide) (by decide) wq6)
  refine ⟨fun c1 => ?_, fun c1 => ?_⟩
  · intro S9 eS9
    have nS9 : FX [] S S9 := FX_i eS9 nS
    exact ⟨Or.inl (HF_s (HF_i eS9) (by decide) (by decide) (by decide) (by decide)), by grind [k_ii, k_ir, k_ri, k_rr, k_ai, k_ar, k_li, k_lr, k_qi, k_qr, ar_ci, ar_cl, ar_cq, la_ci, la_ca, la_cq, qa_ci, qa_ca, qa_cl, tk_link, kn8064]⟩
  · refine ⟨fun c2 => ?_, fun c2 => ?_⟩
    · exact ⟨Or.inl HF_rf, h21⟩
    · refine ⟨fun c3 => ?_, fun c3 => ?_⟩
      · refine kmT_X6_push _ _ _ _ _ (fun S12 hF4 pS12 => ?_) (sk_X6_push _ _ (INJ_x nS (by decide) hI) h21)
        have nS12 : FX [] S S12 := FX_k hF4 (by decide) nS
        have fS12 := HF_k hF4 (INJ_x nS (by decide) hI) (by decide) (by decide) (by decide)
        clear hF4
        exact ⟨Or.inl (HF_s fS12 (by decide) (by decide) (by decide) (by decide)), pS12⟩
      · refine ⟨fun c5 => ?_, fun c5 => ?_⟩
        · refine kmT_X9_look _ _ _ _ _ (fun S14 r14 hF6 pS14 => ?_) (sk_X9_look _ _ (INJ_x nS (by decide) hI) )
          obtain ⟨rfl, pS14⟩ := pS14
          clear hF6
          refine kmT_X6_push _ _ _ _ _ (fun S15 hF7 pS15 => ?_) (sk_X6_push _ _ (INJ_x nS (by decide) hI) h21)
          have nS15 : FX [] S S15 := FX_k hF7 (by decide) nS
          have fS15 := HF_k hF7 (INJ_x nS (by decide) hI) (by decide) (by decide) (by decide)
          clear hF7
          exact ⟨Or.inl (HF_s fS15 (by decide) (by decide) (by decide) (by decide)), pS15⟩
        · refine ⟨fun c8 => ?_, fun c8 => ?_⟩
          · intro z17 ez17
            intro q18 eq18
            obtain rfl := ob_q nS (by decide) hO41_t0 ez17 eq18
            intro z19 ez19
            refine kmT_X6_push _ _ _ _ _ (fun S20 hF9 pS20 => ?_) (sk_X6_push _ _ (INJ_x nS (by decide) hI) h21)
            have nS20 : FX [] S S20 := FX_k hF9 (by decide) nS
            have fS20 := HF_k hF9 (INJ_x nS (by decide) hI) (by decide) (by decide) (by decide)
            clear hF9
            exact ⟨Or.inl (HF_s fS20 (by decide) (by decide) (by decide) (by decide)), pS20⟩
          · refine ⟨fun c10 => ?_, fun c10 => ?_⟩
            · refine kmT_X6_pop _ _ _ _ (fun S22 r22 hF11 pS22 => ?_) (sk_X6_pop _ (INJ_x nS (by decide) hI) h21)
              have nS22 : FX [] S S22 := FX_k hF11 (by decide) nS
              have fS22 := HF_k hF11 (INJ_x nS (by decide) hI) (by decide) (by decide) (by decide)
              clear hF11
              intro z23 ez23
              refine kmT_X6_push _ _ _ _ _ (fun S24 hF12 pS24 => ?_) (sk_X6_push _ _ (INJ_x nS22 (by decide) hI) pS22)
              have nS24 : FX [] S S24 := FX_k hF12 (by decide) nS22
              have fS24 := HF_k hF12 (INJ_x nS22 (by decide) hI) (by decide) (by decide) (by decide)
              clear hF12
              exact ⟨Or.inl (HF_tr (HF_s fS22 (by decide) (by decide) (by decide) (by decide)) (HF_s fS24 (by decide) (by decide) (by decide) (by decide))), pS24⟩
            · refine kmT_X6_join _ _ _ _ _ _ _ (fun S25 hF13 pS25 => ?_) (sk_X6_join (h := h) (pg := pg) (sc := sc) (W := W) _ _ _ _ (INJ_x nS (by decide) hI) (ob_h nS (by decide) hO41_t0) (ob_h nS (by decide) hO2_h) (ob_h nS (by decide) hO31_pg) hP h2 hg hf h21)
              have nS25 : FX [] S S25 := FX_k hF13 (by decide) nS
              have fS25 := HF_k hF13 (INJ_x nS (by decide) hI) (by decide) (by decide) (by decide)
              clear hF13
              exact pS25
