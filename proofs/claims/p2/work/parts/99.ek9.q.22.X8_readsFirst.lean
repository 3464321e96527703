
set_option maxHeartbeats 400000 in
theorem sk_X8_readsFirst {sc : Nat} (t0 : Nat) (a0 : Nat) (a1 : Int32) (a2 : Int32) (a3 : Int32) {S : kS} (hI : INJ S) (hO31_a0 : S.2.1 31 a0 = some sc) (h1 : 0 ≤ a1.toInt ∧ a1.toInt < 12) (h2 : 0 ≤ a2.toInt ∧ a2.toInt ≤ 16) (h17 : 0 ≤ (S.1 17 a0).toInt ∧ (S.1 17 a0).toInt ≤ 8064) (hR : PRR a0 sc S) (h37 : ∀ i, 0 ≤ (ar S 37 a0 i).toInt ∧ (ar S 37 a0 i).toInt ≤ 8063) (hS : ∀ w : Nat, (w : Int) < a2.toInt → (ar S 28 a0 (ar S 37 a0 (16 * ix a1 + w)).toInt.toNat).toInt = 35) (hAll : ∀ i : Nat, (i : Int) < (S.1 17 a0).toInt → (ar S 28 a0 i = 17 ∨ ar S 28 a0 i = 18 ∨ ar S 28 a0 i = 21 ∨ ar S 28 a0 i = 23) → 0 ≤ (ar S 29 a0 i).toInt ∧ (ar S 29 a0 i).toInt < 460) : wT_X8_readsFirst t0 a0 a1 a2 a3 S (fun S1 r => True) := by
  have nS : FX [55] S S := FX_rf
  unfold wT_X8_readsFirst
  refine kmT_X8_set _ _ _ _ _ _ _ (fun S1 hF1 pS1 => ?_) (sk_X8_set (sc := sc) _ _ _ _ (INJ_x nS (by decide) hI) (ob_h nS (by decide) hO31_a0) h1 h2 h17 hR h37 hS)
  have nS1 : FX [55] S S1 := FX_k hF1 (by decide) nS
  have fS1 := HF_k hF1 (INJ_x nS (by decide) hI) (by decide) (by decide) (by decide)
  clear hF1
  refine it_rule (fun u : Nat × Int32 × Int32 × Int32 × kS => (FX [55] S u.2.2.2.2) ∧ (t0 = u.1 ∧ a1 = u.2.1 ∧ a3 = u.2.2.1 ∧ HF [26, 27] [55] [53, 54] [] S u.2.2.2.2 ∧ TBI a0 t0 u.2.2.2.2 ∧ u.2.2.2.2.2.1 55 t0 = some a0 ∧ 0 ≤ u.2.2.2.1.toInt ∧ u.2.2.2.1.toInt ≤ 8064)) (fun u => (8064 - u.2.2.2.1.toInt).toNat) ?_ (by exact ⟨nS1, rfl, rfl, rfl, HF_s fS1 (by decide) (by decide) (by decide) (by decide), pS1.1, pS1.2, (show (0 : Int) ≤ (0 : Int32).toInt by decide), (show (0 : Int32).toInt ≤ 8064 by decide)⟩)
  rintro ⟨x0, x2, x4, x5, Sl10⟩ k10 hI10 hk10
  replace hI10 : (FX [55] S Sl10) ∧ (t0 = x0 ∧ a1 = x2 ∧ a3 = x4 ∧ HF [26, 27] [55] [53, 54] [] S Sl10 ∧ TBI a0 t0 Sl10 ∧ Sl10.2.1 55 t0 = some a0 ∧ 0 ≤ x5.toInt ∧ x5.toInt ≤ 8064) := hI10
  obtain ⟨nSl10, hI10⟩ := hI10
  replace hk10 : ∀ v : Nat × Int32 × Int32 × Int32 × kS, (FX [55] S v.2.2.2.2) ∧ (t0 = v.1 ∧ a1 = v.2.1 ∧ a3 = v.2.2.1 ∧ HF [26, 27] [55] [53, 54] [] S v.2.2.2.2 ∧ TBI a0 t0 v.2.2.2.2 ∧ v.2.2.2.2.2.1 55 t0 = some a0 ∧ 0 ≤ v.2.2.2.1.toInt ∧ v.2.2.2.1.toInt ≤ 8064) → (8064 - v.2.2.2.1.toInt).toNat < (8064 - x5.toInt).toNat → k10 v := hk10
  show wT_X8_readsFirst_10 _ k10 x0 x2 x4 x5 Sl10
  unfold wT_X8_readsFirst_10
  obtain ⟨rfl, hI10⟩ := hI10
  obtain ⟨rfl, hI10⟩ := hI10
  obtain ⟨rfl, hI10⟩ := hI10
  obtain ⟨gl, tl9, el55, l0, l1⟩ := hI10
  refine ⟨fun c2 => ?_, fun c2 => ?_⟩
  · exact trivial
  · intro z3 ez3
    refine ⟨fun c3 => ?_, fun c3 => ?_⟩
    · exact trivial
    · intro z5 ez5
      intro z6 ez6
      have hrz6 : -2147483648 ≤ z5.toInt - 1 ∧ z5.toInt - 1 < 2147483648 := by (try clear hk10); (try clear hS); (try clear hR); (try clear h37); (try clear hAll); (try clear gl); (try clear g7); (try clear r7); (try clear t7); (try clear tl9); (try clear g29); (try clear pS29); (try clear pS1); grind [k_ii, k_ir, k_ri, k_rr, k_ai, k_ar, k_li, k_lr, k_qi, k_qr, ar_ci, ar_cl, ar_cq, la_ci, la_ca, la_cq, qa_ci, qa_ca, qa_cl, tk_link, kn8064]
      replace ez6 : z6.toInt = z5.toInt - 1 := w_sub ez6 hrz6
      clear hrz6
      intro S7 eS7
      have nS7 : FX [55] S S7 := FX_i eS7 nSl10
      have z5p : 0 < (Sl10.1 26 t0).toInt := by (try clear hk10); (try clear hS); (try clear hR); (try clear h37); (try clear hAll); (try clear gl); (try clear g7); (try clear r7); (try clear t7); (try clear tl9); (try clear g29); (try clear pS29); (try clear pS1); grind [k_ii, k_ir, k_ri, k_rr, k_ai, k_ar, k_li, k_lr, k_qi, k_qr, ar_ci, ar_cl, ar_cq, la_ci, la_ca, la_cq, qa_ci, qa_ca, qa_cl, tk_link, kn8064]
      have t7 : TBI a0 t0 S7 := TBI_d tl9 eS7 (by (try clear hk10); (try clear hS); (try clear hR); (try clear h37); (try clear hAll); (try clear gl); (try clear g7); (try clear r7); (try clear t7); (try clear tl9); (try clear g29); (try clear pS29); (try clear pS1); grind [k_ii, k_ir, k_ri, k_rr, k_ai, k_ar, k_li, k_lr, k_qi, k_qr, ar_ci, ar_cl, ar_cq, la_ci, la_ca, la_cq, qa_ci, qa_ca, qa_cl, tk_link, kn8064]) z5p
      have g7 : HF [26, 27] [55] [53, 54] [] S S7 := HF_tr gl (HF_s (HF_i eS7) (by decide) (by decide) (by decide) (by decide))
      have r7 : PRR a0 sc S7 := PRR_f hR g7 (by decide)
      have e557 : S7.2.1 55 t0 = some a0 := by rw [eS7]; exact el55
      intro z8 ez8
      intro z9 ez9
      have e9 : z9.toInt = (Sl10.1 26 t0).toInt - 1 := by (try clear hk10); (try clear hS); (try clear hR); (try clear h37); (try clear hAll); (try clear gl); (try clear g7); (try clear r7); (try clear t7); (try clear tl9); (try clear g29); (try clear pS29); (try clear pS1); grind [k_ii, k_ir, k_ri, k_rr, k_ai, k_ar, k_li, k_lr, k_qi, k_qr, ar_ci, ar_cl, ar_cq, la_ci, la_ca, la_cq, qa_ci, qa_ca, qa_cl, tk_link, kn8064]
      have d9 : 0 ≤ z9.toInt ∧ z9.toInt < 8064 := by have w9 := (cnq_b (f := ar Sl10 53 t0) (w := Sl10.1 27 t0) 8064).2; have w8 := tl9.1.2; omega
      intro q10 eq10
      have wq10 := rd_w nS7 (by decide) ez8 eq10
      refine ⟨by (try clear hk10); (try clear hS); (try clear hR); (try clear h37); (try clear hAll); (try clear gl); (try clear g7); (try clear r7); (try clear t7); (try clear tl9); (try clear g29); (try clear pS29); (try clear pS1); grind [k_ii, k_ir, k_ri, k_rr, k_ai, k_ar, k_li, k_lr, k_qi, k_qr, ar_ci, ar_cl, ar_cq, la_ci, la_ca, la_cq, qa_ci, qa_ca, qa_cl, tk_link, kn8064], ?_⟩
      intro z11 ez11
      replace ez11 := ez11.trans (ar_rd nS7 (by decide) (by decide) wq10)
      have d11 : 0 ≤ z11.toInt ∧ z11.toInt < (S.1 17 a0).toInt := by rw [ez11, (HF_i eS7).2.2.1 54 (by decide), ← gl.1 17 (by decide)]; exact tl9.2.2 (ix z9) (by rw [kx_int z9 d9.1]; omega)
      have d11b : z11.toInt < 8064 := by have w9 := h17.2; omega
      intro z12 ez12
      refine ⟨a0, by (try clear hk10); (try clear hS); (try clear hR); (try clear h37); (try clear hAll); (try clear gl); (try clear g7); (try clear r7); (try clear t7); (try clear tl9); (try clear g29); (try clear pS29); (try clear pS1); grind [k_ii, k_ir, k_ri, k_rr, k_ai, k_ar, k_li, k_lr, k_qi, k_qr, ar_ci, ar_cl, ar_cq, la_ci, la_ca, la_cq, qa_ci, qa_ca, qa_cl, tk_link, kn8064], ?_⟩
      intro z14 ez14
      intro q15 eq15
      have wq15 := rd_w nS7 (by decide) ez14 eq15
      refine ⟨by (try clear hk10); (try clear hS); (try clear hR); (try clear h37); (try clear hAll); (try clear gl); (try clear g7); (try clear r7); (try clear t7); (try clear tl9); (try clear g29); (try clear pS29); (try clear pS1); grind [k_ii, k_ir, k_ri, k_rr, k_ai, k_ar, k_li, k_lr, k_qi, k_qr, ar_ci, ar_cl, ar_cq, la_ci, la_ca, la_cq, qa_ci, qa_ca, qa_cl, tk_link, kn8064], ?_⟩
      intro z16 ez16
      replace ez16 := ez16.trans (ar_rd nS7 (by decide) (by decide) wq15)
      intro z17 ez17
      refine ⟨a0, by (try clear hk10); (try clear hS); (try clear hR); (try clear h37); (try clear hAll); (try clear gl); (try clear g7); (try clear r7); (try clear t7); (try clear tl9); (try clear g29); (try clear pS29); (try clear pS1); grind [k_ii, k_ir, k_ri, k_rr, k_ai, k_ar, k_li, k_lr, k_qi, k_qr, ar_ci, ar_cl, ar_cq, la_ci, la_ca, la_cq, qa_ci, qa_ca, qa_cl, tk_link, kn8064], ?_⟩
      intro z19 ez19
      intro q20 eq20
      have wq20 := rd_w nS7 (by decide) ez19 eq20
      refine ⟨by (try clear hk10); (try clear hS); (try clear hR); (try clear h37); (try clear hAll); (try clear gl); (try clear g7); (try clear r7); (try clear t7); (try clear tl9); (try clear g29); (try clear pS29); (try clear pS1); grind [k_ii, k_ir, k_ri, k_rr, k_ai, k_ar, k_li, k_lr, k_qi, k_qr, ar_ci, ar_cl, ar_cq, la_ci, la_ca, la_cq, qa_ci, qa_ca, qa_cl, tk_link, kn8064], ?_⟩
      intro z21 ez21
      replace ez21 := ez21.trans (ar_rd nS7 (by decide) (by decide) wq20)
      refine ⟨fun c4 => ?_, fun c4 => ?_⟩
      · unfold wT_X8_readsFirst_78
        refine ⟨fun c5 => ?_, fun c5 => ?_⟩
        · unfold wT_X8_readsFirst_93
          refine ⟨fun c6 => ?_, fun c6 => ?_⟩
          · unfold wT_X8_readsFirst_112
            refine kmT_X8_follow _ _ _ _ _ _ (fun S29 hF7 pS29 => ?_) (sk_X8_follow (pg := a0) (sc := sc) _ _ _ (INJ_x nS7 (by decide) hI) (by (try clear hk10); (try clear hS); (try clear hR); (try clear h37); (try clear hAll); (try clear gl); (try clear g7); (try clear r7); (try clear t7); (try clear tl9); (try clear g29); (try clear pS29); (try clear pS1); grind [k_ii, k_ir, k_ri, k_rr, k_ai, k_ar, k_li, k_lr, k_qi, k_qr, ar_ci, ar_cl, ar_cq, la_ci, la_ca, la_cq, qa_ci, qa_ca, qa_cl, tk_link, kn8064]) (ob_h nS7 (by decide) hO31_a0) t7 r7 h1 (⟨d11.1, by have w9 := h17.2; omega⟩) (by rw [g7.2.2.1 28 (by decide), g7.2.2.1 29 (by decide)]; exact hAll (ix z11) (by rw [kx_int z11 d11.1]; exact d11.2)))
            have nS29 : FX [55] S S29 := FX_k hF7 (by decide) nS7
            have fS29 := HF_k hF7 (INJ_x nS7 (by decide) hI) (by decide) (by decide) (by decide)
            clear hF7
            have g29 : HF [26, 27] [55] [53, 54] [] S S29 := HF_tr g7 (HF_s fS29 (by decide) (by decide) (by decide) (by decide))
            have e5529 : S29.2.1 55 t0 = some a0 := by rw [fS29.2.1 55 (by decide)]; exact e557
            unfold wT_X8_readsFirst_119
            intro z28 ez28
            have hrz28 : -2147483648 ≤ x5.toInt + 1 ∧ x5.toInt + 1 < 2147483648 := by (try clear hk10); (try clear hS); (try clear hR); (try clear h37); (try clear hAll); (try clear gl); (try clear g7); (try clear r7); (try clear t7); (try clear tl9); (try clear g29); (try clear pS29); (try clear pS1); grind [k_ii, k_ir, k_ri, k_rr, k_ai, k_ar, k_li, k_lr, k_qi, k_qr, ar_ci, ar_cl, ar_cq, la_ci, la_ca, la_cq, qa_ci, qa_ca, qa_cl, tk_link, kn8064]
            replace ez28 : z28.toInt = x5.toInt + 1 := w_add ez28 hrz28
            clear hrz28
            exact hk10 _ (by exact ⟨nS29, rfl, rfl, rfl, g29, pS29, e5529, (by (try clear hk10); (try clear hS); (try clear hR); (try clear h37); (try clear hAll); (try clear gl); (try clear g7); (try clear r7); (try clear t7); (try clear tl9); (try clear g29); (try clear pS29); (try clear pS1); grind [k_ii, k_ir, k_ri, k_rr, k_ai, k_ar, k_li, k_lr, k_qi, k_qr, ar_ci, ar_cl, ar_cq, la_ci, la_ca, la_cq, qa_ci, qa_ca, qa_cl, tk_link, kn8064]), (by (try clear hk10); (try clear hS); (try clear hR); (try clear h37); (try clear hAll); (try clear gl); (try clear g7); (try clear r7); (try clear t7); (try clear tl9); (try clear g29); (try clear pS29); (try clear pS1); grind [k_ii, k_ir, k_ri, k_rr, k_ai, k_ar, k_li, k_lr, k_qi, k_qr, ar_ci, ar_cl, ar_cq, la_ci, la_ca, la_cq, qa_ci, qa_ca, qa_cl, tk_link, kn8064])⟩) (by (try clear hk10); (try clear hS); (try clear hR); (try clear h37); (try clear hAll); (try clear gl); (try clear g7); (try clear r7); (try clear t7); (try clear tl9); (try clear g29); (try clear pS29); (try clear pS1); grind [k_ii, k_ir, k_ri, k_rr, k_ai, k_ar, k_li, k_lr, k_qi, k_qr, ar_ci, ar_cl, ar_cq, la_ci, la_ca, la_cq, qa_ci, qa_ca, qa_cl, tk_link, kn8064])
          · refine ⟨fun c8 => ?_, fun c8 => ?_⟩
            · unfold wT_X8_readsFirst_119
              intro z28 ez28
              have hrz28 : -2147483648 ≤ x5.toInt + 1 ∧ x5.toInt + 1 < 2147483648 := by (try clear hk10); (try clear hS); (try clear hR); (try clear h37); (try clear hAll); (try clear gl); (try clear g7); (try clear r7); (try clear t7); (try clear tl9); (try clear g29); (try clear pS29); (try clear pS1); grind [k_ii, k_ir, k_ri, k_rr, k_ai, k_ar, k_li, k_lr, k_qi, k_qr, ar_ci, ar_cl, ar_cq, la_ci, la_ca, la_cq, qa_ci, qa_ca, qa_cl, tk_link, kn8064]
              replace ez28 : z28.toInt = x5.toInt + 1 := w_add ez28 hrz28
              clear hrz28
              exact hk10 _ (by exact ⟨nS7, rfl, rfl, rfl, g7, t7, e557, (by (try clear hk10); (try clear hS); (try clear hR); (try clear h37); (try clear hAll); (try clear gl); (try clear g7); (try clear r7); (try clear t7); (try clear tl9); (try clear g29); (try clear pS29); (try clear pS1); grind [k_ii, k_ir, k_ri, k_rr, k_ai, k_ar, k_li, k_lr, k_qi, k_qr, ar_ci, ar_cl, ar_cq, la_ci, la_ca, la_cq, qa_ci, qa_ca, qa_cl, tk_link, kn8064]), (by (try clear hk10); (try clear hS); (try clear hR); (try clear h37); (try clear hAll); (try clear gl); (try clear g7); (try clear r7); (try clear t7); (try clear tl9); (try clear g29); (try clear pS29); (try clear pS1); grind [k_ii, k_ir, k_ri, k_rr, k_ai, k_ar, k_li, k_lr, k_qi, k_qr, ar_ci, ar_cl, ar_cq, la_ci, la_ca, la_cq, qa_ci, qa_ca, qa_cl, tk_link, kn8064])⟩) (by (try clear hk10); (try clear hS); (try clear hR); (try clear h37); (try clear hAll); (try clear gl); (try clear g7); (try clear r7); (try clear t7); (try clear tl9); (try clear g29); (try clear pS29); (try clear pS1); grind [k_ii, k_ir, k_ri, k_rr, k_ai, k_ar, k_li, k_lr, k_qi, k_qr, ar_ci, ar_cl, ar_cq, la_ci, la_ca, la_cq, qa_ci, qa_ca, qa_cl, tk_link, kn8064])
            · refine ⟨fun c9 => ?_, fun c9 => ?_⟩
              · unfold wT_X8_readsFirst_119
                intro z28 ez28
                have hrz28 : -2147483648 ≤ x5.toInt + 1 ∧ x5.toInt + 1 < 2147483648 := by (try clear hk10); (try clear hS); (try clear hR); (try clear h37); (try clear hAll); (try clear gl); (try clear g7); (try clear r7); (try clear t7); (try clear tl9); (try clear g29); (try clear pS29); (try clear pS1); grind [k_ii, k_ir, k_ri, k_rr, k_ai, k_ar, k_li, k_lr, k_qi, k_qr, ar_ci, ar_cl, ar_cq, la_ci, la_ca, la_cq, qa_ci, qa_ca, qa_cl, tk_link, kn8064]
                replace ez28 : z28.toInt = x5.toInt + 1 := w_add ez28 hrz28
                clear hrz28
                exact hk10 _ (by exact ⟨nS7, rfl, rfl, rfl, g7, t7, e557, (by (try clear hk10); (try clear hS); (try clear hR); (try clear h37); (try clear hAll); (try clear gl); (try clear g7); (try clear r7); (try clear t7); (try clear tl9); (try clear g29); (try clear pS29); (try clear pS1); grind [k_ii, k_ir, k_ri, k_rr, k_ai, k_ar, k_li, k_lr, k_qi, k_qr, ar_ci, ar_cl, ar_cq, la_ci, la_ca, la_cq, qa_ci, qa_ca, qa_cl, tk_link, kn8064]), (by (try clear hk10); (try clear hS); (try clear hR); (try clear h37); (try clear hAll); (try clear gl); (try clear g7); (try clear r7); (try clear t7); (try clear tl9); (try clear g29); (try clear pS29); (try clear pS1); grind [k_ii, k_ir, k_ri, k_rr, k_ai, k_ar, k_li, k_lr, k_qi, k_qr, ar_ci, ar_cl, ar_cq, la_ci, la_ca, la_cq, qa_ci, qa_ca, qa_cl, tk_link, kn8064])⟩) (by (try clear hk10); (try clear hS); (try clear hR); (try clear h37); (try clear hAll); (try clear gl); (try clear g7); (try clear r7); (try clear t7); (try clear tl9); (try clear g29); (try clear pS29); (try clear pS1); grind [k_ii, k_ir, k_ri, k_rr, k_ai, k_ar, k_li, k_lr, k_qi, k_qr, ar_ci, ar_cl, ar_cq, la_ci, la_ca, la_cq, qa_ci, qa_ca, qa_cl, tk_link, kn8064])
              · unfold wT_X8_readsFirst_112
                refine kmT_X8_follow _ _ _ _ _ _ (fun S29 hF10 pS29 => ?_) (sk_X8_follow (pg := a0) (sc := sc) _ _ _ (INJ_x nS7 (by decide) hI) (by (try clear hk10); (try clear hS); (try clear hR); (try clear h37); (try clear hAll); (try clear gl); (try clear g7); (try clear r7); (try clear t7); (try clear tl9); (try clear g29); (try clear pS29); (try clear pS1); grind [k_ii, k_ir, k_ri, k_rr, k_ai, k_ar, k_li, k_lr, k_qi, k_qr, ar_ci, ar_cl, ar_cq, la_ci, la_ca, la_cq, qa_ci, qa_ca, qa_cl, tk_link, kn8064]) (ob_h nS7 (by decide) hO31_a0) t7 r7 h1 (⟨d11.1, by have w9 := h17.2; omega⟩) (by rw [g7.2.2.1 28 (by decide), g7.2.2.1 29 (by decide)]; exact hAll (ix z11) (by rw [kx_int z11 d11.1]; exact d11.2)))
                have nS29 : FX [55] S S29 := FX_k hF10 (by decide) nS7
                have fS29 := HF_k hF10 (INJ_x nS7 (by decide) hI) (by decide) (by decide) (by decide)
                clear hF10
                have g29 : HF [26, 27] [55] [53, 54] [] S S29 := HF_tr g7 (HF_s fS29 (by decide) (by decide) (by decide) (by decide))
                have e5529 : S29.2.1 55 t0 = some a0 := by rw [fS29.2.1 55 (by decide)]; exact e557
                unfold wT_X8_readsFirst_119
                intro z28 ez28
                have hrz28 : -2147483648 ≤ x5.toInt + 1 ∧ x5.toInt + 1 < 2147483648 := by (try clear hk10); (try clear hS); (try clear hR); (try clear h37); (try clear hAll); (try clear gl); (try clear g7); (try clear r7); (try clear t7); (try clear tl9); (try clear g29); (try clear pS29); (try clear pS1); grind [k_ii, k_ir, k_ri, k_rr, k_ai, k_ar, k_li, k_lr, k_qi, k_qr, ar_ci, ar_cl, ar_cq, la_ci, la_ca, la_cq, qa_ci, qa_ca, qa_cl, tk_link, kn8064]
                replace ez28 : z28.toInt = x5.toInt + 1 := w_add ez28 hrz28
                clear hrz28
                exact hk10 _ (by exact ⟨nS29, rfl, rfl, rfl, g29, pS29, e5529, (by (try clear hk10); (try clear hS); (try clear hR); (try clear h37); (try clear hAll); (try clear gl); (try clear g7); (try clear r7); (try clear t7); (try clear tl9); (try clear g29); (try clear pS29); (try clear pS1); grind [k_ii, k_ir, k_ri, k_rr, k_ai, k_ar, k_li, k_lr, k_qi, k_qr, ar_ci, ar_cl, ar_cq, la_ci, la_ca, la_cq, qa_ci, qa_ca, qa_cl, tk_link, kn8064]), (by (try clear hk10); (try clear hS); (try clear hR); (try clear h37); (try clear hAll); (try clear gl); (try clear g7); (try clear r7); (try clear t7); (try clear tl9); (try clear g29); (try clear pS29); (try clear pS1); grind [k_ii, k_ir, k_ri, k_rr, k_ai, k_ar, k_li, k_lr, k_qi, k_qr, ar_ci, ar_cl, ar_cq, la_ci, la_ca, la_cq, qa_ci, qa_ca, qa_cl, tk_link, kn8064])⟩) (by (try clear hk10); (try clear hS); (try clear hR); (try clear h37); (try clear hAll); (try clear gl); (try clear g7); (try clear r7); (try clear t7); (try clear tl9); (try clear g29); (try clear pS29); (try clear pS1); grind [k_ii, k_ir, k_ri, k_rr, k_ai, k_ar, k_li, k_lr, k_qi, k_qr, ar_ci, ar_cl, ar_cq, la_ci, la_ca, la_cq, qa_ci, qa_ca, qa_cl, tk_link, kn8064])
        · refine ⟨fun c11 => ?_, fun c11 => ?_⟩
          · unfold wT_X8_readsFirst_93
            refine ⟨fun c12 => ?_, fun c12 => ?_⟩
            · unfold wT_X8_readsFirst_112
              refine kmT_X8_follow _ _ _ _ _ _ (fun S29 hF13 pS29 => ?_) (sk_X8_follow (pg := a0) (sc := sc) _ _ _ (INJ_x nS7 (by decide) hI) (by (try clear hk10); (try clear hS); (try clear hR); (try clear h37); (try clear hAll); (try clear gl); (try clear g7); (try clear r7); (try clear t7); (try clear tl9); (try clear g29); (try clear pS29); (try clear pS1); grind [k_ii, k_ir, k_ri, k_rr, k_ai, k_ar, k_li, k_lr, k_qi, k_qr, ar_ci, ar_cl, ar_cq, la_ci, la_ca, la_cq, qa_ci, qa_ca, qa_cl, tk_link, kn8064]) (ob_h nS7 (by decide) hO31_a0) t7 r7 h1 (⟨d11.1, by have w9 := h17.2; omega⟩) (by rw [g7.2.2.1 28 (by decide), g7.2.2.1 29 (by decide)]; exact hAll (ix z11) (by rw [kx_int z11 d11.1]; exact d11.2)))
              have nS29 : FX [55] S S29 := FX_k hF13 (by decide) nS7
              have fS29 := HF_k hF13 (INJ_x nS7 (by decide) hI) (by decide) (by decide) (by decide)
              clear hF13
              have g29 : HF [26, 27] [55] [53, 54] [] S S29 := HF_tr g7 (HF_s fS29 (by decide) (by decide) (by decide) (by decide))
              have e5529 : S29.2.1 55 t0 = some a0 := by rw [fS29.2.1 55 (by decide)]; exact e557
              unfold wT_X8_readsFirst_119
              intro z28 ez28
              have hrz28 : -2147483648 ≤ x5.toInt + 1 ∧ x5.toInt + 1 < 2147483648 := by (try clear hk10); (try clear hS); (try clear hR); (try clear h37); (try clear hAll); (try clear gl); (try clear g7); (try clear r7); (try clear t7); (try clear tl9); (try clear g29); (try clear pS29); (try clear pS1); grind [k_ii, k_ir, k_ri, k_rr, k_ai, k_ar, k_li, k_lr, k_qi, k_qr, ar_ci, ar_cl, ar_cq, la_ci, la_ca, la_cq, qa_ci, qa_ca, qa_cl, tk_link, kn8064]
              replace ez28 : z28.toInt = x5.toInt + 1 := w_add ez28 hrz28
              clear hrz28
              exact hk10 _ (by exact ⟨nS29, rfl, rfl, rfl, g29, pS29, e5529, (by (try clear hk10); (try clear hS); (try clear hR); (try clear h37); (try clear hAll); (try clear gl); (try clear g7); (try clear r7); (try clear t7); (try clear tl9); (try clear g29); (try clear pS29); (try clear pS1); grind [k_ii, k_ir, k_ri, k_rr, k_ai, k_ar, k_li, k_lr, k_qi, k_qr, ar_ci, ar_cl, ar_cq, la_ci, la_ca, la_cq, qa_ci, qa_ca, qa_cl, tk_link, kn8064]), (by (try clear hk10); (try clear hS); (try clear hR); (try clear h37); (try clear hAll); (try clear gl); (try clear g7); (try clear r7); (try clear t7); (try clear tl9); (try clear g29); (try clear pS29); (try clear pS1); grind [k_ii, k_ir, k_ri, k_rr, k_ai, k_ar, k_li, k_lr, k_qi, k_qr, ar_ci, ar_cl, ar_cq, la_ci, la_ca, la_cq, qa_ci, qa_ca, qa_cl, tk_link, kn8064])⟩) (by (try clear hk10); (try clear hS); (try clear hR); (try clear h37); (try clear hAll); (try clear gl); (try clear g7); (try clear r7); (try clear t7); (try clear tl9); (try clear g29); (try clear pS29); (try clear pS1); grind [k_ii, k_ir, k_ri, k_rr, k_ai, k_ar, k_li, k_lr, k_qi, k_qr, ar_ci, ar_cl, ar_cq, la_ci, la_ca, la_cq, qa_ci, qa_ca, qa_cl, tk_link, kn8064])
            · refine ⟨fun c14 => ?_, fun c14 => ?_⟩
              · unfold wT_X8_readsFirst_119
                intro z28 ez28
                have hrz28 : -2147483648 ≤ x5.toInt + 1 ∧ x5.toInt + 1 < 2147483648 := by (try clear hk10); (try clear hS); (try clear hR); (try clear h37); (try clear hAll); (try clear gl); (try clear g7); (try clear r7); (try clear t7); (try clear tl9); (try clear g29); (try clear pS29); (try clear pS1); grind [k_ii, k_ir, k_ri, k_rr, k_ai, k_ar, k_li, k_lr, k_qi, k_qr, ar_ci, ar_cl, ar_cq, la_ci, la_ca, la_cq, qa_ci, qa_ca, qa_cl, tk_link, kn8064]
                replace ez28 : z28.toInt = x5.toInt + 1 := w_add ez28 hrz28
                clear hrz28
                exact hk10 _ (by exact ⟨nS7, rfl, rfl, rfl, g7, t7, e557, (by (try clear hk10); (try clear hS); (try clear hR); (try clear h37); (try clear hAll); (try clear gl); (try clear g7); (try clear r7); (try clear t7); (try clear tl9); (try clear g29); (try clear pS29); (try clear pS1); grind [k_ii, k_ir, k_ri, k_rr, k_ai, k_ar, k_li, k_lr, k_qi, k_qr, ar_ci, ar_cl, ar_cq, la_ci, la_ca, la_cq, qa_ci, qa_ca, qa_cl, tk_link, kn8064]), (by (try clear hk10); (try clear hS); (try clear hR); (try clear h37); (try clear hAll); (try clear gl); (try clear g7); (try clear r7); (try clear t7); (try clear tl9); (try clear g29); (try clear pS29); (try clear pS1); grind [k_ii, k_ir, k_ri, k_rr, k_ai, k_ar, k_li, k_lr, k_qi, k_qr, ar_ci, ar_cl, ar_cq, la_ci, la_ca, la_cq, qa_ci, qa_ca, qa_cl, tk_link, kn8064])⟩) (by (try clear hk10); (try clear hS); (try clear hR); (try clear h37); (try clear hAll); (try clear gl); (try clear g7); (try clear r7); (try clear t7); (try clear tl9); (try clear g29); (try clear pS29); (try clear pS1); grind [k_ii, k_ir, k_ri, k_rr, k_ai, k_ar, k_li, k_lr, k_qi, k_qr, ar_ci, ar_cl, ar_cq, la_ci, la_ca, la_cq, qa_ci, qa_ca, qa_cl, tk_link, kn8064])
              · refine ⟨fun c15 => ?_, fun c15 => ?_⟩
                · unfold wT_X8_readsFirst_119
                  intro z28 ez28
                  have hrz28 : -2147483648 ≤ x5.toInt + 1 ∧ x5.toInt + 1 < 2147483648 := by (try clear hk10); (try clear hS); (try clear hR); (try clear h37); (try clear hAll); (try clear gl); (try clear g7); (try clear r7); (try clear t7); (try clear tl9); (try clear g29); (try clear pS29); (try clear pS1); grind [k_ii, k_ir, k_ri, k_rr, k_ai, k_ar, k_li, k_lr, k_qi, k_qr, ar_ci, ar_cl, ar_cq, la_ci, la_ca, la_cq, qa_ci, qa_ca, qa_cl, tk_link, kn8064]
                  replace ez28 : z28.toInt = x5.toInt + 1 := w_add ez28 hrz28
                  clear hrz28
                  exact hk10 _ (by exact ⟨nS7, rfl, rfl, rfl, g7, t7, e557, (by (try clear hk10); (try clear hS); (try clear hR); (try clear h37); (try clear hAll); (try clear gl); (try clear g7); (try clear r7); (try clear t7); (try clear tl9); (try clear g29); (try clear pS29); (try clear pS1); grind [k_ii, k_ir, k_ri, k_rr, k_ai, k_ar, k_li, k_lr, k_qi, k_qr, ar_ci, ar_cl, ar_cq, la_ci, la_ca, la_cq, qa_ci, qa_ca, qa_cl, tk_link, kn8064]), (by (try clear hk10); (try clear hS); (try clear hR); (try clear h37); (try clear hAll); (try clear gl); (try clear g7); (try clear r7); (try clear t7); (try clear tl9); (try clear g29); (try clear pS29); (try clear pS1); grind [k_ii, k_ir, k_ri, k_rr, k_ai, k_ar, k_li, k_lr, k_qi, k_qr, ar_ci, ar_cl, ar_cq, la_ci, la_ca, la_cq, qa_ci, qa_ca, qa_cl, tk_link, kn8064])⟩) (by (try clear hk10); (try clear hS); (try clear hR); (try clear h37); (try clear hAll); (try clear gl); (try clear g7); (try clear r7); (try clear t7); (try clear tl9); (try clear g29); (try clear pS29); (try clear pS1); grind [k_ii, k_ir, k_ri, k_rr, k_ai, k_ar, k_li, k_lr, k_qi, k_qr, ar_ci, ar_cl, ar_cq, la_ci, la_ca, la_cq, qa_ci, qa_ca, qa_cl, tk_link, kn8064])
                · unfold wT_X8_readsFirst_112
                  refine kmT_X8_follow _ _ _ _ _ _ (fun S29 hF16 pS29 => ?_) (sk_X8_follow (pg := a0) (sc := sc) _ _ _ (INJ_x nS7 (by decide) hI) (by (try clear hk10); (try clear hS); (try clear hR); (try clear h37); (try clear hAll); (try clear gl); (try clear g7); (try clear r7); (try clear t7); (try clear tl9); (try clear g29); (try clear pS29); (try clear pS1); grind [k_ii, k_ir, k_ri, k_rr, k_ai, k_ar, k_li, k_lr, k_qi, k_qr, ar_ci, ar_cl, ar_cq, la_ci, la_ca, la_cq, qa_ci, qa_ca, qa_cl, tk_link, kn8064]) (ob_h nS7 (by decide) hO31_a0) t7 r7 h1 (⟨d11.1, by have w9 := h17.2; omega⟩) (by rw [g7.2.2.1 28 (by decide), g7.2.2.1 29 (by decide)]; exact hAll (ix z11) (by rw [kx_int z11 d11.1]; exact d11.2)))
                  have nS29 : FX [55] S S29 := FX_k hF16 (by decide) nS7
                  have fS29 := HF_k hF16 (INJ_x nS7 (by decide) hI) (by decide) (by decide) (by decide)
                  clear hF16
                  have g29 : HF [26, 27] [55] [53, 54] [] S S29 := HF_tr g7 (HF_s fS29 (by decide) (by decide) (by decide) (by decide))
                  have e5529 : S29.2.1 55 t0 = some a0 := by rw [fS29.2.1 55 (by decide)]; exact e557
                  unfold wT_X8_readsFirst_119
                  intro z28 ez28
                  have hrz28 : -2147483648 ≤ x5.toInt + 1 ∧ x5.toInt + 1 < 2147483648 := by (try clear hk10); (try clear hS); (try clear hR); (try clear h37); (try clear hAll); (try clear gl); (try clear g7); (try clear r7); (try clear t7); (try clear tl9); (try clear g29); (try clear pS29); (try clear pS1); grind [k_ii, k_ir, k_ri, k_rr, k_ai, k_ar, k_li, k_lr, k_qi, k_qr, ar_ci, ar_cl, ar_cq, la_ci, la_ca, la_cq, qa_ci, qa_ca, qa_cl, tk_link, kn8064]
                  replace ez28 : z28.toInt = x5.toInt + 1 := w_add ez28 hrz28
                  clear hrz28
                  exact hk10 _ (by exact ⟨nS29, rfl, rfl, rfl, g29, pS29, e5529, (by (try clear hk10); (try clear hS); (try clear hR); (try clear h37); (try clear hAll); (try clear gl); (try clear g7); (try clear r7); (try clear t7); (try clear tl9); (try clear g29); (try clear pS29); (try clear pS1); grind [k_ii, k_ir, k_ri, k_rr, k_ai, k_ar, k_li, k_lr, k_qi, k_qr, ar_ci, ar_cl, ar_cq, la_ci, la_ca, la_cq, qa_ci, qa_ca, qa_cl, tk_link, kn8064]), (by (try clear hk10); (try clear hS); (try clear hR); (try clear h37); (try clear hAll); (try clear gl); (try clear g7); (try clear r7); (try clear t7); (try clear tl9); (try clear g29); (try clear pS29); (try clear pS1); grind [k_ii, k_ir, k_ri, k_rr, k_ai, k_ar, k_li, k_lr, k_qi, k_qr, ar_ci, ar_cl, ar_cq, la_ci, la_ca, la_cq, qa_ci, qa_ca, qa_cl, tk_link, kn8064])⟩) (by (try clear hk10); (try clear hS); (try clear hR); (try clear h37); (try clear hAll); (try clear gl); (try clear g7); (try clear r7); (try clear t7); (try clear tl9); (try clear g29); (try clear pS29); (try clear pS1); grind [k_ii, k_ir, k_ri, k_rr, k_ai, k_ar, k_li, k_lr, k_qi, k_qr, ar_ci, ar_cl, ar_cq, la_ci, la_ca, la_cq, qa_ci, qa_ca, qa_cl, tk_link, kn8064])
          · exact trivial
      · unfold wT_X8_readsFirst_78
        refine ⟨fun c17 => ?_, fun c17 => ?_⟩
        · unfold wT_X8_readsFirst_93
          refine ⟨fun c18 => ?_, fun c18 => ?_⟩
          · unfold wT_X8_readsFirst_112
            refine kmT_X8_follow _ _ _ _ _ _ (fun S29 hF19 pS29 => ?_) (sk_X8_follow (pg := a0) (sc := sc) _ _ _ (INJ_x nS7 (by decide) hI) (by (try clear hk10); (try clear hS); (try clear hR); (try clear h37); (try clear hAll); (try clear gl); (try clear g7); (try clear r7); (try clear t7); (try clear tl9); (try clear g29); (try clear pS29); (try clear pS1); grind [k_ii, k_ir, k_ri, k_rr, k_ai, k_ar, k_li, k_lr, k_qi, k_qr, ar_ci, ar_cl, ar_cq, la_ci, la_ca, la_cq, qa_ci, qa_ca, qa_cl, tk_link, kn8064]) (ob_h nS7 (by decide) hO31_a0) t7 r7 h1 (⟨d11.1, by have w9 := h17.2; omega⟩) (by rw [g7.2.2.1 28 (by decide), g7.2.2.1 29 (by decide)]; exact hAll (ix z11) (by rw [kx_int z11 d11.1]; exact d11.2)))
            have nS29 : FX [55] S S29 := FX_k hF19 (by decide) nS7
            have fS29 := HF_k hF19 (INJ_x nS7 (by decide) hI) (by decide) (by decide) (by decide)
            clear hF19
            have g29 : HF [26, 27] [55] [53, 54] [] S S29 := HF_tr g7 (HF_s fS29 (by decide) (by decide) (by decide) (by decide))
            have e5529 : S29.2.1 55 t0 = some a0 := by rw [fS29.2.1 55 (by decide)]; exact e557
            unfold wT_X8_readsFirst_119
            intro z28 ez28
            have hrz28 : -2147483648 ≤ x5.toInt + 1 ∧ x5.toInt + 1 < 2147483648 := by (try clear hk10); (try clear hS); (try clear hR); (try clear h37); (try clear hAll); (try clear gl); (try clear g7); (try clear r7); (try clear t7); (try clear tl9); (try clear g29); (try clear pS29); (try clear pS1); grind [k_ii, k_ir, k_ri, k_rr, k_ai, k_ar, k_li, k_lr, k_qi, k_qr, ar_ci, ar_cl, ar_cq, la_ci, la_ca, la_cq, qa_ci, qa_ca, qa_cl, tk_link, kn8064]
            replace ez28 : z28.toInt = x5.toInt + 1 := w_add ez28 hrz28
            clear hrz28
            exact hk10 _ (by exact ⟨nS29, rfl, rfl, rfl, g29, pS29, e5529, (by (try clear hk10); (try clear hS); (try clear hR); (try clear h37); (try clear hAll); (try clear gl); (try clear g7); (try clear r7); (try clear t7); (try clear tl9); (try clear g29); (try clear pS29); (try clear pS1); grind [k_ii, k_ir, k_ri, k_rr, k_ai, k_ar, k_li, k_lr, k_qi, k_qr, ar_ci, ar_cl, ar_cq, la_ci, la_ca, la_cq, qa_ci, qa_ca, qa_cl, tk_link, kn8064]), (by (try clear hk10); (try clear hS); (try clear hR); (try clear h37); (try clear hAll); (try clear gl); (try clear g7); (try clear r7); (try clear t7); (try clear tl9); (try clear g29); (try clear pS29); (try clear pS1); grind [k_ii, k_ir, k_ri, k_rr, k_ai, k_ar, k_li, k_lr, k_qi, k_qr, ar_ci, ar_cl, ar_cq, la_ci, la_ca, la_cq, qa_ci, qa_ca, qa_cl, tk_link, kn8064])⟩) (by (try clear hk10); (try clear hS); (try clear hR); (try clear h37); (try clear hAll); (try clear gl); (try clear g7); (try clear r7); (try clear t7); (try clear tl9); (try clear g29); (try clear pS29); (try clear pS1); grind [k_ii, k_ir, k_ri, k_rr, k_ai, k_ar, k_li, k_lr, k_qi, k_qr, ar_ci, ar_cl, ar_cq, la_ci, la_ca, la_cq, qa_ci, qa_ca, qa_cl, tk_link, kn8064])
          · refine ⟨fun c20 => ?_, fun c20 => ?_⟩
            · unfold wT_X8_readsFirst_119
              intro z28 ez28
              have hrz28 : -2147483648 ≤ x5.toInt + 1 ∧ x5.toInt + 1 < 2147483648 := by (try clear hk10); (try clear hS); (try clear hR); (try clear h37); (try clear hAll); (try clear gl); (try clear g7); (try clear r7); (try clear t7); (try clear tl9); (try clear g29); (try clear pS29); (try clear pS1); grind [k_ii, k_ir, k_ri, k_rr, k_ai, k_ar, k_li, k_lr, k_qi, k_qr, ar_ci, ar_cl, ar_cq, la_ci, la_ca, la_cq, qa_ci, qa_ca, qa_cl, tk_link, kn8064]
              replace ez28 : z28.toInt = x5.toInt + 1 := w_add ez28 hrz28
              clear hrz28
              exact hk10 _ (by exact ⟨nS7, rfl, rfl, rfl, g7, t7, e557, (by (try clear hk10); (try clear hS); (try clear hR); (try clear h37); (try clear hAll); (try clear gl); (try clear g7); (try clear r7); (try clear t7); (try clear tl9); (try clear g29); (try clear pS29); (try clear pS1); grind [k_ii, k_ir, k_ri, k_rr, k_ai, k_ar, k_li, k_lr, k_qi, k_qr, ar_ci, ar_cl, ar_cq, la_ci, la_ca, la_cq, qa_ci, qa_ca, qa_cl, tk_link, kn8064]), (by (try clear hk10); (try clear hS); (try clear hR); (try clear h37); (try clear hAll); (try clear gl); (try clear g7); (try clear r7); (try clear t7); (try clear tl9); (try clear g29); (try clear pS29); (try clear pS1); grind [k_ii, k_ir, k_ri, k_rr, k_ai, k_ar, k_li, k_lr, k_qi, k_qr, ar_ci, ar_cl, ar_cq, la_ci, la_ca, la_cq, qa_ci, qa_ca, qa_cl, tk_link, kn8064])⟩) (by (try clear hk10); (try clear hS); (try clear hR); (try clear h37); (try clear hAll); (try clear gl); (try clear g7); (try clear r7); (try clear t7); (try clear tl9); (try clear g29); (try clear pS29); (try clear pS1); grind [k_ii, k_ir, k_ri, k_rr, k_ai, k_ar, k_li, k_lr, k_qi, k_qr, ar_ci, ar_cl, ar_cq, la_ci, la_ca, la_cq, qa_ci, qa_ca, qa_cl, tk_link, kn8064])
            · refine ⟨fun c21 => ?_, fun c21 => ?_⟩
              · unfold wT_X8_readsFirst_119
                intro z28 ez28
                have hrz28 : -2147483648 ≤ x5.toInt + 1 ∧ x5.toInt + 1 < 2147483648 := by (try clear hk10); (try clear hS); (try clear hR); (try clear h37); (try clear hAll); (try clear gl); (try clear g7); (try clear r7); (try clear t7); (try clear tl9); (try clear g29); (try clear pS29); (try clear pS1); grind [k_ii, k_ir, k_ri, k_rr, k_ai, k_ar, k_li, k_lr, k_qi, k_qr, ar_ci, ar_cl, ar_cq, la_ci, la_ca, la_cq, qa_ci, qa_ca, qa_cl, tk_link, kn8064]
                replace ez28 : z28.toInt = x5.toInt + 1 := w_add ez28 hrz28
                clear hrz28
                exact hk10 _ (by exact ⟨nS7, rfl, rfl, rfl, g7, t7, e557, (by (try clear hk10); (try clear hS); (try clear hR); (try clear h37); (try clear hAll); (try clear gl); (try clear g7); (try clear r7); (try clear t7); (try clear tl9); (try clear g29); (try clear pS29); (try clear pS1); grind [k_ii, k_ir, k_ri, k_rr, k_ai, k_ar, k_li, k_lr, k_qi, k_qr, ar_ci, ar_cl, ar_cq, la_ci, la_ca, la_cq, qa_ci, qa_ca, qa_cl, tk_link, kn8064]), (by (try clear hk10); (try clear hS); (try clear hR); (try clear h37); (try clear hAll); (try clear gl); (try clear g7); (try clear r7); (try clear t7); (try clear tl9); (try clear g29); (try clear pS29); (try clear pS1); grind [k_ii, k_ir, k_ri, k_rr, k_ai, k_ar, k_li, k_lr, k_qi, k_qr, ar_ci, ar_cl, ar_cq, la_ci, la_ca, la_cq, qa_ci, qa_ca, qa_cl, tk_link, kn8064])⟩) (by (try clear hk10); (try clear hS); (try clear hR); (try clear h37); (try clear hAll); (try clear gl); (try clear g7); (try clear r7); (try clear t7); (try clear tl9); (try clear g29); (try clear pS29); (try clear pS1); grind [k_ii, k_ir, k_ri, k_rr, k_ai, k_ar, k_li, k_lr, k_qi, k_qr, ar_ci, ar_cl, ar_cq, la_ci, la_ca, la_cq, qa_ci, qa_ca, qa_cl, tk_link, kn8064])
              · unfold wT_X8_readsFirst_112
                refine kmT_X8_follow _ _ _ _ _ _ (fun S29 hF22 pS29 => ?_) (sk_X8_follow (pg := a0) (sc := sc) _ _ _ (INJ_x nS7 (by decide) hI) (by (try clear hk10); (try clear hS); (try clear hR); (try clear h37); (try clear hAll); (try clear gl); (try clear g7); (try clear r7); (try clear t7); (try clear tl9); (try clear g29); (try clear pS29); (try clear pS1); grind [k_ii, k_ir, k_ri, k_rr, k_ai, k_ar, k_li, k_lr, k_qi, k_qr, ar_ci, ar_cl, ar_cq, la_ci, la_ca, la_cq, qa_ci, qa_ca, qa_cl, tk_link, kn8064]) (ob_h nS7 (by decide) hO31_a0) t7 r7 h1 (⟨d11.1, by have w9 := h17.2; omega⟩) (by rw [g7.2.2.1 28 (by decide), g7.2.2.1 29 (by decide)]; exact hAll (ix z11) (by rw [kx_int z11 d11.1]; exact d11.2)))
                have nS29 : FX [55] S S29 := FX_k hF22 (by decide) nS7
                have fS29 := HF_k hF22 (INJ_x nS7 (by decide) hI) (by decide) (by decide) (by decide)
                clear hF22
                have g29 : HF [26, 27] [55] [53, 54] [] S S29 := HF_tr g7 (HF_s fS29 (by decide) (by decide) (by decide) (by decide))
                have e5529 : S29.2.1 55 t0 = some a0 := by rw [fS29.2.1 55 (by decide)]; exact e557
                unfold wT_X8_readsFirst_119
                intro z28 ez28
                have hrz28 : -2147483648 ≤ x5.toInt + 1 ∧ x5.toInt + 1 < 2147483648 := by (try clear hk10); (try clear hS); (try clear hR); (try clear h37); (try clear hAll); (try clear gl); (try clear g7); (try clear r7); (try clear t7); (try clear tl9); (try clear g29); (try clear pS29); (try clear pS1); grind [k_ii, k_ir, k_ri, k_rr, k_ai, k_ar, k_li, k_lr, k_qi, k_qr, ar_ci, ar_cl, ar_cq, la_ci, la_ca, la_cq, qa_ci, qa_ca, qa_cl, tk_link, kn8064]
                replace ez28 : z28.toInt = x5.toInt + 1 := w_add ez28 hrz28
                clear hrz28
                exact hk10 _ (by exact ⟨nS29, rfl, rfl, rfl, g29, pS29, e5529, (by (try clear hk10); (try clear hS); (try clear hR); (try clear h37); (try clear hAll); (try clear gl); (try clear g7); (try clear r7); (try clear t7); (try clear tl9); (try clear g29); (try clear pS29); (try clear pS1); grind [k_ii, k_ir, k_ri, k_rr, k_ai, k_ar, k_li, k_lr, k_qi, k_qr, ar_ci, ar_cl, ar_cq, la_ci, la_ca, la_cq, qa_ci, qa_ca, qa_cl, tk_link, kn8064]), (by (try clear hk10); (try clear hS); (try clear hR); (try clear h37); (try clear hAll); (try clear gl); (try clear g7); (try clear r7); (try clear t7); (try clear tl9); (try clear g29); (try clear pS29); (try clear pS1); grind [k_ii, k_ir, k_ri, k_rr, k_ai, k_ar, k_li, k_lr, k_qi, k_qr, ar_ci, ar_cl, ar_cq, la_ci, la_ca, la_cq, qa_ci, qa_ca, qa_cl, tk_link, kn8064])⟩) (by (try clear hk10); (try clear hS); (try clear hR); (try clear h37); (try clear hAll); (try clear gl); (try clear g7); (try clear r7); (try clear t7); (try clear tl9); (try clear g29); (try clear pS29); (try clear pS1); grind [k_ii, k_ir, k_ri, k_rr, k_ai, k_ar, k_li, k_lr, k_qi, k_qr, ar_ci, ar_cl, ar_cq, la_ci, la_ca, la_cq, qa_ci, qa_ca, qa_cl, tk_link, kn8064])
        · refine ⟨fun c23 => ?_, fun c23 => ?_⟩
          · unfold wT_X8_readsFirst_93
            refine ⟨fun c24 => ?_, fun c24 => ?_⟩
            · unfold wT_X8_readsFirst_112
              refine kmT_X8_follow _ _ _ _ _ _ (fun S29 hF25 pS29 => ?_) (sk_X8_follow (pg := a0) (sc := sc) _ _ _ (INJ_x nS7 (by decide) hI) (by (try clear hk10); (try clear hS); (try clear hR); (try clear h37); (try clear hAll); (try clear gl); (try clear g7); (try clear r7); (try clear t7); (try clear tl9); (try clear g29); (try clear pS29); (try clear pS1); grind [k_ii, k_ir, k_ri, k_rr, k_ai, k_ar, k_li, k_lr, k_qi, k_qr, ar_ci, ar_cl, ar_cq, la_ci, la_ca, la_cq, qa_ci, qa_ca, qa_cl, tk_link, kn8064]) (ob_h nS7 (by decide) hO31_a0) t7 r7 h1 (⟨d11.1, by have w9 := h17.2; omega⟩) (by rw [g7.2.2.1 28 (by decide), g7.2.2.1 29 (by decide)]; exact hAll (ix z11) (by rw [kx_int z11 d11.1]; exact d11.2)))
              have nS29 : FX [55] S S29 := FX_k hF25 (by decide) nS7
              have fS29 := HF_k hF25 (INJ_x nS7 (by decide) hI) (by decide) (by decide) (by decide)
              clear hF25
              have g29 : HF [26, 27] [55] [53, 54] [] S S29 := HF_tr g7 (HF_s fS29 (by decide) (by decide) (by decide) (by decide))
              have e5529 : S29.2.1 55 t0 = some a0 := by rw [fS29.2.1 55 (by decide)]; exact e557
              unfold wT_X8_readsFirst_119
              intro z28 ez28
              have hrz28 : -2147483648 ≤ x5.toInt + 1 ∧ x5.toInt + 1 < 2147483648 := by (try clear hk10); (try clear hS); (try clear hR); (try clear h37); (try clear hAll); (try clear gl); (try clear g7); (try clear r7); (try clear t7); (try clear tl9); (try clear g29); (try clear pS29); (try clear pS1); grind [k_ii, k_ir, k_ri, k_rr, k_ai, k_ar, k_li, k_lr, k_qi, k_qr, ar_ci, ar_cl, ar_cq, la_ci, la_ca, la_cq, qa_ci, qa_ca, qa_cl, tk_link, kn8064]
              replace ez28 : z28.toInt = x5.toInt + 1 := w_add ez28 hrz28
              clear hrz28
              exact hk10 _ (by exact ⟨nS29, rfl, rfl, rfl, g29, pS29, e5529, (by (try clear hk10); (try clear hS); (try clear hR); (try clear h37); (try clear hAll); (try clear gl); (try clear g7); (try clear r7); (try clear t7); (try clear tl9); (try clear g29); (try clear pS29); (try clear pS1); grind [k_ii, k_ir, k_ri, k_rr, k_ai, k_ar, k_li, k_lr, k_qi, k_qr, ar_ci, ar_cl, ar_cq, la_ci, la_ca, la_cq, qa_ci, qa_ca, qa_cl, tk_link, kn8064]), (by (try clear hk10); (try clear hS); (try clear hR); (try clear h37); (try clear hAll); (try clear gl); (try clear g7); (try clear r7); (try clear t7); (try clear tl9); (try clear g29); (try clear pS29); (try clear pS1); grind [k_ii, k_ir, k_ri, k_rr, k_ai, k_ar, k_li, k_lr, k_qi, k_qr, ar_ci, ar_cl, ar_cq, la_ci, la_ca, la_cq, qa_ci, qa_ca, qa_cl, tk_link, kn8064])⟩) (by (try clear hk10); (try clear hS); (try clear hR); (try clear h37); (try clear hAll); (try clear gl); (try clear g7); (try clear r7); (try clear t7); (try clear tl9); (try clear g29); (try clear pS29); (try clear pS1); grind [k_ii, k_ir, k_ri, k_rr, k_ai, k_ar, k_li, k_lr, k_qi, k_qr, ar_ci, ar_cl, ar_cq, la_ci, la_ca, la_cq, qa_ci, qa_ca, qa_cl, tk_link, kn8064])
            · refine ⟨fun c26 => ?_, fun c26 => ?_⟩
              · unfold wT_X8_readsFirst_119
                intro z28 ez28
                have hrz28 : -2147483648 ≤ x5.toInt + 1 ∧ x5.toInt + 1 < 2147483648 := by (try clear hk10); (try clear hS); (try clear hR); (try clear h37); (try clear hAll); (try clear gl); (try clear g7); (try clear r7); (try clear t7); (try clear tl9); (try clear g29); (try clear pS29); (try clear pS1); grind [k_ii, k_ir, k_ri, k_rr, k_ai, k_ar, k_li, k_lr, k_qi, k_qr, ar_ci, ar_cl, ar_cq, la_ci, la_ca, la_cq, qa_ci, qa_ca, qa_cl, tk_link, kn8064]
                replace ez28 : z28.toInt = x5.toInt + 1 := w_add ez28 hrz28
                clear hrz28
                exact hk10 _ (by exact ⟨nS7, rfl, rfl, rfl, g7, t7, e557, (by (try clear hk10); (try clear hS); (try clear hR); (try clear h37); (try clear hAll); (try clear gl); (try clear g7); (try clear r7); (try clear t7); (try clear tl9); (try clear g29); (try clear pS29); (try clear pS1); grind [k_ii, k_ir, k_ri, k_rr, k_ai, k_ar, k_li, k_lr, k_qi, k_qr, ar_ci, ar_cl, ar_cq, la_ci, la_ca, la_cq, qa_ci, qa_ca, qa_cl, tk_link, kn8064]), (by (try clear hk10); (try clear hS); (try clear hR); (try clear h37); (try clear hAll); (try clear gl); (try clear g7); (try clear r7); (try clear t7); (try clear tl9); (try clear g29); (try clear pS29); (try clear pS1); grind [k_ii, k_ir, k_ri, k_rr, k_ai, k_ar, k_li, k_lr, k_qi, k_qr, ar_ci, ar_cl, ar_cq, la_ci, la_ca, la_cq, qa_ci, qa_ca, qa_cl, tk_link, kn8064])⟩) (by (try clear hk10); (try clear hS); (try clear hR); (try clear h37); (try clear hAll); (try clear gl); (try clear g7); (try clear r7); (try clear t7); (try clear tl9); (try clear g29); (try clear pS29); (try clear pS1); grind [k_ii, k_ir, k_ri, k_rr, k_ai, k_ar, k_li, k_lr, k_qi, k_qr, ar_ci, ar_cl, ar_cq, la_ci, la_ca, la_cq, qa_ci, qa_ca, qa_cl, tk_link, kn8064])
              · refine ⟨fun c27 => ?_, fun c27 => ?_⟩
                · unfold wT_X8_readsFirst_119
                  intro z28 ez28
                  have hrz28 : -2147483648 ≤ x5.toInt + 1 ∧ x5.toInt + 1 < 2147483648 := by (try clear hk10); (try clear hS); (try clear hR); (try clear h37); (try clear hAll); (try clear gl); (try clear g7); (try clear r7); (try clear t7); (try clear tl9); (try clear g29); (try clear pS29); (try clear pS1); grind [k_ii, k_ir, k_ri, k_rr, k_ai, k_ar, k_li, k_lr, k_qi, k_qr, ar_ci, ar_cl, ar_cq, la_ci, la_ca, la_cq, qa_ci, qa_ca, qa_cl, tk_link, kn8064]
                  replace ez28 : z28.toInt = x5.toInt + 1 := w_add ez28 hrz28
                  clear hrz28
                  exact hk10 _ (by exact ⟨nS7, rfl, rfl, rfl, g7, t7, e557, (by (try clear hk10); (try clear hS); (try clear hR); (try clear h37); (try clear hAll); (try clear gl); (try clear g7); (try clear r7); (try clear t7); (try clear tl9); (try clear g29); (try clear pS29); (try clear pS1); grind [k_ii, k_ir, k_ri, k_rr, k_ai, k_ar, k_li, k_lr, k_qi, k_qr, ar_ci, ar_cl, ar_cq, la_ci, la_ca, la_cq, qa_ci, qa_ca, qa_cl, tk_link, kn8064]), (by (try clear hk10); (try clear hS); (try clear hR); (try clear h37); (try clear hAll); (try clear gl); (try clear g7); (try clear r7); (try clear t7); (try clear tl9); (try clear g29); (try clear pS29); (try clear pS1); grind [k_ii, k_ir, k_ri, k_rr, k_ai, k_ar, k_li, k_lr, k_qi, k_qr, ar_ci, ar_cl, ar_cq, la_ci, la_ca, la_cq, qa_ci, qa_ca, qa_cl, tk_link, kn8064])⟩) (by (try clear hk10); (try clear hS); (try clear hR); (try clear h37); (try clear hAll); (try clear gl); (try clear g7); (try clear r7); (try clear t7); (try clear tl9); (try clear g29); (try clear pS29); (try clear pS1); grind [k_ii, k_ir, k_ri, k_rr, k_ai, k_ar, k_li, k_lr, k_qi, k_qr, ar_ci, ar_cl, ar_cq, la_ci, la_ca, la_cq, qa_ci, qa_ca, qa_cl, tk_link, kn8064])
                · unfold wT_X8_readsFirst_112
                  refine kmT_X8_follow _ _ _ _ _ _ (fun S29 hF28 pS29 => ?_) (sk_X8_follow (pg := a0) (sc := sc) _ _ _ (INJ_x nS7 (by decide) hI) (by (try clear hk10); (try clear hS); (try clear hR); (try clear h37); (try clear hAll); (try clear gl); (try clear g7); (try clear r7); (try clear t7); (try clear tl9); (try clear g29); (try clear pS29); (try clear pS1); grind [k_ii, k_ir, k_ri, k_rr, k_ai, k_ar, k_li, k_lr, k_qi, k_qr, ar_ci, ar_cl, ar_cq, la_ci, la_ca, la_cq, qa_ci, qa_ca, qa_cl, tk_link, kn8064]) (ob_h nS7 (by decide) hO31_a0) t7 r7 h1 (⟨d11.1, by have w9 := h17.2; omega⟩) (by rw [g7.2.2.1 28 (by decide), g7.2.2.1 29 (by decide)]; exact hAll (ix z11) (by rw [kx_int z11 d11.1]; exact d11.2)))
                  have nS29 : FX [55] S S29 := FX_k hF28 (by decide) nS7
                  have fS29 := HF_k hF28 (INJ_x nS7 (by decide) hI) (by decide) (by decide) (by decide)
                  clear hF28
                  have g29 : HF [26, 27] [55] [53, 54] [] S S29 := HF_tr g7 (HF_s fS29 (by decide) (by decide) (by decide) (by decide))
                  have e5529 : S29.2.1 55 t0 = some a0 := by rw [fS29.2.1 55 (by decide)]; exact e557
                  unfold wT_X8_readsFirst_119
                  intro z28 ez28
                  have hrz28 : -2147483648 ≤ x5.toInt + 1 ∧ x5.toInt + 1 < 2147483648 := by (try clear hk10); (try clear hS); (try clear hR); (try clear h37); (try clear hAll); (try clear gl); (try clear g7); (try clear r7); (try clear t7); (try clear tl9); (try clear g29); (try clear pS29); (try clear pS1); grind [k_ii, k_ir, k_ri, k_rr, k_ai, k_ar, k_li, k_lr, k_qi, k_qr, ar_ci, ar_cl, ar_cq, la_ci, la_ca, la_cq, qa_ci, qa_ca, qa_cl, tk_link, kn8064]
                  replace ez28 : z28.toInt = x5.toInt + 1 := w_add ez28 hrz28
                  clear hrz28
                  exact hk10 _ (by exact ⟨nS29, rfl, rfl, rfl, g29, pS29, e5529, (by (try clear hk10); (try clear hS); (try clear hR); (try clear h37); (try clear hAll); (try clear gl); (try clear g7); (try clear r7); (try clear t7); (try clear tl9); (try clear g29); (try clear pS29); (try clear pS1); grind [k_ii, k_ir, k_ri, k_rr, k_ai, k_ar, k_li, k_lr, k_qi, k_qr, ar_ci, ar_cl, ar_cq, la_ci, la_ca, la_cq, qa_ci, qa_ca, qa_cl, tk_link, kn8064]), (by (try clear hk10); (try clear hS); (try clear hR); (try clear h37); (try clear hAll); (try clear gl); (try clear g7); (try clear r7); (try clear t7); (try clear tl9); (try clear g29); (try clear pS29); (try clear pS1); grind [k_ii, k_ir, k_ri, k_rr, k_ai, k_ar, k_li, k_lr, k_qi, k_qr, ar_ci, ar_cl, ar_cq, la_ci, la_ca, la_cq, qa_ci, qa_ca, qa_cl, tk_link, kn8064])⟩) (by (try clear hk10); (try clear hS); (try clear hR); (try clear h37); (try clear hAll); (try clear gl); (try clear g7); (try clear r7); (try clear t7); (try clear tl9); (try clear g29); (try clear pS29); (try clear pS1); grind [k_ii, k_ir, k_ri, k_rr, k_ai, k_ar, k_li, k_lr, k_qi, k_qr, ar_ci, ar_cl, ar_cq, la_ci, la_ca, la_cq, qa_ci, qa_ca, qa_cl, tk_link, kn8064])
          · exact trivial
