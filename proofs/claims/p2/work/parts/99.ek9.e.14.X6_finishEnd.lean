
set_option maxHeartbeats 400000 in
theorem sk_X6_finishEnd {h pg sc : Nat} {W : Int → Prop} (t0 : Nat) (a0 : Nat) (a1 : Int32) {S : kS} (hI : INJ S) (hO41_t0 : S.2.1 41 t0 = some h) (hO2_h : S.2.1 2 h = some pg) (hO31_pg : S.2.1 31 pg = some sc) (hP : PGM (pv pg sc S)) (h1 : 0 ≤ a1.toInt ∧ a1.toInt < (pv pg sc S).1 24) (hg : GV (pv pg sc S) W (3 * a1.toInt + 2)) (hf : FRS (pv pg sc S) W (ar S 59 a0) (ar S 60 a0)) : wT_X6_finishEnd t0 a0 a1 S (fun S1 => LVQ (pv pg sc S) W t0 a0 S S1) := by
  have nS : FX [] S S := FX_rf
  have l24 : (pv pg sc S).1 24 ≤ 460 := hP.2.2.1.2
  have kx := kx_int a1 h1.1
  have k9 := GV_i hg (by omega)
  rw [show ((3 * a1.toInt + 2) / 3).toNat = ix a1 by unfold ix; omega] at k9
  unfold wT_X6_finishEnd
  intro z1 ez1
  intro q2 eq2
  obtain rfl := ob_q nS (by decide) hO41_t0 ez1 eq2
  intro z3 ez3
  refine ⟨pg, ob_e nS (by decide) hO2_h ez3, ?_⟩
  intro z5 ez5
  intro q6 eq6
  obtain rfl := ob_q nS (by decide) hO31_pg ez5 eq6
  intro z7 ez7
  intro q8 eq8
  have wq8 := rd_w nS (by decide) ez7 eq8
  refine ⟨by grind [k_ii, k_ir, k_ri, k_rr, k_ai, k_ar, k_li, k_lr, k_qi, k_qr, ar_ci, ar_cl, ar_cq, la_ci, la_ca, la_cq, qa_ci, qa_ca, qa_cl, tk_link, kn10, kn460], ?_⟩
  intro z9 ez9
  replace ez9 := ez9.trans (ar_rd nS (by decide) (by decide) wq8)
  have d9 : 0 ≤ z9.toInt ∧ z9.toInt ≤ 9 := by rw [ez9]; exact hP.2.2.2.2.2.2.2.1 (ix a1)
  intro z10 ez10
  intro q11 eq11
  have wq11 := rd_w nS (by decide) ez10 eq11
  refine ⟨by grind [k_ii, k_ir, k_ri, k_rr, k_ai, k_ar, k_li, k_lr, k_qi, k_qr, ar_ci, ar_cl, ar_cq, la_ci, la_ca, la_cq, qa_ci, qa_ca, qa_cl, tk_link, kn10, kn460], ?_⟩
  intro z12 ez12
  replace ez12 := ez12.trans (ar_rd nS (by decide) (by decide) wq11)
  refine ⟨fun c1 => ?_, fun c1 => ?_⟩
  · intro z14 ez14
    intro q15 eq15
    have wq15 := rd_w nS (by decide) ez14 eq15
    refine ⟨by grind [k_ii, k_ir, k_ri, k_rr, k_ai, k_ar, k_li, k_lr, k_qi, k_qr, ar_ci, ar_cl, ar_cq, la_ci, la_ca, la_cq, qa_ci, qa_ca, qa_cl, tk_link, kn10, kn460], ?_⟩
    intro z16 ez16
    replace ez16 := ez16.trans (ar_rd nS (by decide) (by decide) wq15)
    intro z17 ez17
    intro q18 eq18
    have wq18 := rd_w nS (by decide) ez17 eq18
    refine ⟨by grind [k_ii, k_ir, k_ri, k_rr, k_ai, k_ar, k_li, k_lr, k_qi, k_qr, ar_ci, ar_cl, ar_cq, la_ci, la_ca, la_cq, qa_ci, qa_ca, qa_cl, tk_link, kn10, kn460], ?_⟩
    intro z19 ez19
    replace ez19 := ez19.trans (ar_rd nS (by decide) (by decide) wq18)
    intro z20 ez20
    intro q21 eq21
    have wq21 := rd_w nS (by decide) ez20 eq21
    refine ⟨by grind [k_ii, k_ir, k_ri, k_rr, k_ai, k_ar, k_li, k_lr, k_qi, k_qr, ar_ci, ar_cl, ar_cq, la_ci, la_ca, la_cq, qa_ci, qa_ca, qa_cl, tk_link, kn10, kn460], ?_⟩
    intro z22 ez22
    replace ez22 := ez22.trans (ar_rd nS (by decide) (by decide) wq21)
    have dsc : -1 ≤ z22.toInt ∧ z22.toInt ≤ 1379 := by rw [ez22]; exact hP.2.2.2.2.2.1 (ix a1)
    have fr := hf (ix z9) (jix_lt (n := 10) d9.1 (by omega)) (by rw [kx_int z9 d9.1, ez9]; exact k9.2.1 (by omega))
    refine kmT_X6_leave _ _ _ _ _ _ _ _ (fun S23 hF2 pS23 => ?_) (sk_X6_leave (h := h) (pg := pg) (sc := sc) (W := W) _ _ _ _ _ (INJ_x nS (by decide) hI) (ob_h nS (by decide) hO41_t0) (ob_h nS (by decide) hO2_h) (ob_h nS (by decide) hO31_pg) hP (by rw [ez22]; exact k9.2.2) dsc (by exact hP.2.2.2.1.2) (fun q => by rw [ez19]; exact fr (by rw [← ez16]; exact q)) hf)
    have nS23 : FX [] S S23 := FX_k hF2 (by decide) nS
    have fS23 := HF_k hF2 (INJ_x nS (by decide) hI) (by decide) (by decide) (by decide)
    clear hF2
    exact pS23
  · intro z24 ez24
    intro q25 eq25
    have wq25 := rd_w nS (by decide) ez24 eq25
    refine ⟨by grind [k_ii, k_ir, k_ri, k_rr, k_ai, k_ar, k_li, k_lr, k_qi, k_qr, ar_ci, ar_cl, ar_cq, la_ci, la_ca, la_cq, qa_ci, qa_ca, qa_cl, tk_link, kn10, kn460], ?_⟩
    intro z26 ez26
    replace ez26 := ez26.trans (ar_rd nS (by decide) (by decide) wq25)
    intro S27 eS27
    have nS27 : FX [] S S27 := FX_i eS27 nS
    have tr := hP.2.2.2.2.2.2.2.2.2.2.2.2.1 (ix a1) (by rw [kx]; exact h1.2)
    exact LVQ_w eS27 hf (by rw [ez26]; exact PCG_t tr.2.2 k9.2.2)
