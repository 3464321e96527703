
set_option maxHeartbeats 400000 in
theorem sk_X11_next {pg tb sc : Nat} (t0 : Nat) (a0 : Int32) (a1 : Int32) (a2 : Int32) {S : kS} (hI : INJ S) (hO74_t0 : S.2.1 74 t0 = some pg) (hO71_t0 : S.2.1 71 t0 = some tb) (hO31_pg : S.2.1 31 pg = some sc) (h18 : (S.1 18 pg).toInt ≤ 12) (h17 : 0 ≤ (S.1 17 pg).toInt ∧ (S.1 17 pg).toInt ≤ 8064) (hR : PRR pg sc S) (h37 : ∀ i, 0 ≤ (ar S 37 pg i).toInt ∧ (ar S 37 pg i).toInt ≤ 8063) (h36 : ∀ i, 0 ≤ (ar S 36 pg i).toInt ∧ (ar S 36 pg i).toInt ≤ 16) (hV : ∀ r w : Nat, (r : Int) < (S.1 18 pg).toInt → (w : Int) < (ar S 36 pg r).toInt → (ar S 28 pg (ar S 37 pg (16 * r + w)).toInt.toNat).toInt = 35) (hAll : ∀ i : Nat, (i : Int) < (S.1 17 pg).toInt → (ar S 28 pg i = 17 ∨ ar S 28 pg i = 18 ∨ ar S 28 pg i = 21 ∨ ar S 28 pg i = 23) → 0 ≤ (ar S 29 pg i).toInt ∧ (ar S 29 pg i).toInt < 460) : wT_X11_next t0 a0 a1 a2 S (fun S1 r => True) := by
  have nS : FX [55] S S := FX_rf
  unfold wT_X11_next
  intro z1 ez1
  refine ⟨pg, ob_e nS (by decide) hO74_t0 ez1, ?_⟩
  refine kmT_X5_hasState _ _ _ _ _ _ (fun S3 r3 hF1 pS3 => ?_) (sk_X5_hasState _ _ _ (INJ_x nS (by decide) hI) h18)
  obtain ⟨rfl, pS3⟩ := pS3
  clear hF1
  refine ⟨fun c2 => ?_, fun c2 => ?_⟩
  · exact trivial
  · intro z5 ez5
    have hs3 := pS3 (by (try clear hV); (try clear hR); (try clear h37); (try clear h36); (try clear hAll); grind [k_ii, k_ir, k_ri, k_rr, k_ai, k_ar, k_li, k_lr, k_qi, k_qr, ar_ci, ar_cl, ar_cq, la_ci, la_ca, la_cq, qa_ci, qa_ca, qa_cl, tk_link])
    refine ⟨pg, ob_e nS (by decide) hO74_t0 ez5, ?_⟩
    refine kmT_X5_hasState _ _ _ _ _ _ (fun S7 r7 hF3 pS7 => ?_) (sk_X5_hasState _ _ _ (INJ_x nS (by decide) hI) h18)
    obtain ⟨rfl, pS7⟩ := pS7
    clear hF3
    refine ⟨fun c4 => ?_, fun c4 => ?_⟩
    · intro z9 ez9
      intro z10 ez10
      intro q11 eq11
      obtain rfl := ob_q nS (by decide) hO71_t0 ez9 eq11
      refine ⟨pg, ob_e nS (by decide) hO74_t0 ez10, ?_⟩
      refine kmT_X8_leadsTo _ _ _ _ _ _ _ _ (fun S13 r13 hF5 pS13 => ?_) (sk_X8_leadsTo (sc := sc) _ _ _ _ _ (INJ_x nS (by decide) hI) (ob_h nS (by decide) hO31_pg) (⟨hs3.1, by have w9 := hs3.2.1; omega⟩) (⟨hs3.2.2.1, by have w9 := (h36 (ix a0)).2; have w8 := hs3.2.2.2; omega⟩) h17 hR h37 (fun w hw => hV (ix a0) w (by rw [kx_int a0 hs3.1]; exact hs3.2.1) (by have w8 := hs3.2.2.2; omega)) hAll)
      have nS13 : FX [55] S S13 := FX_k hF5 (by decide) nS
      have fS13 := HF_k hF5 (INJ_x nS (by decide) hI) (by decide) (by decide) (by decide)
      clear hF5
      refine ⟨fun c6 => ?_, fun c6 => ?_⟩
      · exact trivial
      · exact trivial
    · exact trivial
