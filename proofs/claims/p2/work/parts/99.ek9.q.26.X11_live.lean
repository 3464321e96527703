
set_option maxHeartbeats 400000 in
theorem sk_X11_live {pg tb sc : Nat} (t0 : Nat) (a0 : Int32) (a1 : Int32) (a2 : Int32) {S : kS} (hI : INJ S) (hO74_t0 : S.2.1 74 t0 = some pg) (hO71_t0 : S.2.1 71 t0 = some tb) (hO31_pg : S.2.1 31 pg = some sc) (h18 : (S.1 18 pg).toInt ≤ 12) (h17 : 0 ≤ (S.1 17 pg).toInt ∧ (S.1 17 pg).toInt ≤ 8064) (hR : PRR pg sc S) (h37 : ∀ i, 0 ≤ (ar S 37 pg i).toInt ∧ (ar S 37 pg i).toInt ≤ 8063) (h36 : ∀ i, 0 ≤ (ar S 36 pg i).toInt ∧ (ar S 36 pg i).toInt ≤ 16) (hV : ∀ r w : Nat, (r : Int) < (S.1 18 pg).toInt → (w : Int) < (ar S 36 pg r).toInt → (ar S 28 pg (ar S 37 pg (16 * r + w)).toInt.toNat).toInt = 35) (hAll : ∀ i : Nat, (i : Int) < (S.1 17 pg).toInt → (ar S 28 pg i = 17 ∨ ar S 28 pg i = 18 ∨ ar S 28 pg i = 21 ∨ ar S 28 pg i = 23) → 0 ≤ (ar S 29 pg i).toInt ∧ (ar S 29 pg i).toInt < 460) : wT_X11_live t0 a0 a1 a2 S (fun S1 r => True) := by
  have nS : FX [55] S S := FX_rf
  unfold wT_X11_live
  intro z1 ez1
  refine ⟨pg, ob_e nS (by decide) hO74_t0 ez1, ?_⟩
  refine kmT_X5_hasState _ _ _ _ _ _ (fun S3 r3 hF1 pS3 => ?_) (sk_X5_hasState _ _ _ (INJ_x nS (by decide) hI) h18)
  obtain ⟨rfl, pS3⟩ := pS3
  clear hF1
  refine ⟨fun c2 => ?_, fun c2 => ?_⟩
  · exact trivial
  · refine ⟨fun c3 => ?_, fun c3 => ?_⟩
    · exact trivial
    · intro z6 ez6
      have hs3 := pS3 (by (try clear hV); (try clear hR); (try clear h37); (try clear h36); (try clear hAll); grind [k_ii, k_ir, k_ri, k_rr, k_ai, k_ar, k_li, k_lr, k_qi, k_qr, ar_ci, ar_cl, ar_cq, la_ci, la_ca, la_cq, qa_ci, qa_ca, qa_cl, tk_link, kn12])
      refine ⟨pg, ob_e nS (by decide) hO74_t0 ez6, ?_⟩
      intro z8 ez8
      intro q9 eq9
      have wq9 := rd_w nS (by decide) ez8 eq9
      refine ⟨by (try clear hV); (try clear hR); (try clear h37); (try clear h36); (try clear hAll); grind [k_ii, k_ir, k_ri, k_rr, k_ai, k_ar, k_li, k_lr, k_qi, k_qr, ar_ci, ar_cl, ar_cq, la_ci, la_ca, la_cq, qa_ci, qa_ca, qa_cl, tk_link, kn12], ?_⟩
      intro z10 ez10
      replace ez10 := ez10.trans (ar_rd nS (by decide) (by decide) wq9)
      refine ⟨fun c4 => ?_, fun c4 => ?_⟩
      · intro z12 ez12
        intro z13 ez13
        intro q14 eq14
        obtain rfl := ob_q nS (by decide) hO71_t0 ez12 eq14
        refine ⟨pg, ob_e nS (by decide) hO74_t0 ez13, ?_⟩
        refine kmT_X8_readsFirst _ _ _ _ _ _ _ _ (fun S16 r16 hF5 pS16 => ?_) (sk_X8_readsFirst (sc := sc) _ _ _ _ _ (INJ_x nS (by decide) hI) (ob_h nS (by decide) hO31_pg) (⟨hs3.1, by have w9 := hs3.2.1; omega⟩) (⟨hs3.2.2.1, by have w9 := (h36 (ix a0)).2; have w8 := hs3.2.2.2; omega⟩) h17 hR h37 (fun w hw => hV (ix a0) w (by rw [kx_int a0 hs3.1]; exact hs3.2.1) (by have w8 := hs3.2.2.2; omega)) hAll)
        have nS16 : FX [55] S S16 := FX_k hF5 (by decide) nS
        have fS16 := HF_k hF5 (INJ_x nS (by decide) hI) (by decide) (by decide) (by decide)
        clear hF5
        refine ⟨fun c6 => ?_, fun c6 => ?_⟩
        · exact trivial
        · exact trivial
      · exact trivial
