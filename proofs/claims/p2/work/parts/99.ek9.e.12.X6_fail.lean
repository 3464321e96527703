
set_option maxHeartbeats 400000 in
theorem sk_X6_fail {h pg sc : Nat} {W : Int → Prop} (t0 : Nat) (a0 : Nat) (a1 : Int32) (a2 : Int32) {S : kS} (hI : INJ S) (hO41_t0 : S.2.1 41 t0 = some h) (hO2_h : S.2.1 2 h = some pg) (hO31_pg : S.2.1 31 pg = some sc) (hP : PGM (pv pg sc S)) (h2 : 0 ≤ a2.toInt ∧ a2.toInt < (pv pg sc S).1 17) (hg : GV (pv pg sc S) W ((pv pg sc S).2 30 a2.toInt.toNat)) (hf : FRS (pv pg sc S) W (ar S 59 a0) (ar S 60 a0)) : wT_X6_fail t0 a0 a1 a2 S (fun S1 => (S.1 30 a0 = 5 ∧ S1.1 22 t0 = 2 ∧ S1.1 36 a0 = a2 ∧ OTH a0 S S1 ∧ FRS (pv pg sc S) W (ar S1 59 a0) (ar S1 60 a0)) ∨ (S.1 30 a0 ≠ 5 ∧ LVQ (pv pg sc S) W t0 a0 S S1)) := by
  have nS : FX [] S S := FX_rf
  have l17 : (pv pg sc S).1 17 ≤ 8064 := hP.1.2
  unfold wT_X6_fail
  intro z1 ez1
  refine ⟨fun c1 => ?_, fun c1 => ?_⟩
  · intro z3 ez3
    intro q4 eq4
    obtain rfl := ob_q nS (by decide) hO41_t0 ez3 eq4
    intro z5 ez5
    refine ⟨pg, ob_e nS (by decide) hO2_h ez5, ?_⟩
    intro z7 ez7
    intro q8 eq8
    have wq8 := rd_w nS (by decide) ez7 eq8
    refine ⟨by grind [k_ii, k_ir, k_ri, k_rr, k_ai, k_ar, k_li, k_lr, k_qi, k_qr, ar_ci, ar_cl, ar_cq, la_ci, la_ca, la_cq, qa_ci, qa_ca, qa_cl, tk_link, kn8064], ?_⟩
    intro z9 ez9
    replace ez9 := ez9.trans (ar_rd nS (by decide) (by decide) wq8)
    have dsc : -1 ≤ z9.toInt ∧ z9.toInt ≤ 1379 := by rw [ez9]; exact hP.2.2.2.2.2.2.1 (ix a2)
    refine kmT_X6_leave _ _ _ _ _ _ _ _ (fun S10 hF2 pS10 => ?_) (sk_X6_leave (h := h) (pg := pg) (sc := sc) (W := W) _ _ _ _ _ (INJ_x nS (by decide) hI) (ob_h nS (by decide) hO41_t0) (ob_h nS (by decide) hO2_h) (ob_h nS (by decide) hO31_pg) hP (by rw [ez9]; exact hg) dsc (by exact hP.2.2.2.1.2) (fun q => absurd q (by decide)) hf)
    have nS10 : FX [] S S10 := FX_k hF2 (by decide) nS
    have fS10 := HF_k hF2 (INJ_x nS (by decide) hI) (by decide) (by decide) (by decide)
    clear hF2
    exact Or.inr ⟨by grind [k_ii, k_ir, k_ri, k_rr, k_ai, k_ar, k_li, k_lr, k_qi, k_qr, ar_ci, ar_cl, ar_cq, la_ci, la_ca, la_cq, qa_ci, qa_ca, qa_cl, tk_link, kn8064], pS10⟩
  · intro S11 eS11
    have nS11 : FX [] S S11 := FX_i eS11 nS
    intro S12 eS12
    have nS12 : FX [] S S12 := FX_i eS12 nS11
    intro S13 eS13
    have nS13 : FX [] S S13 := FX_i eS13 nS12
    have ot : OTH a0 S S13 := fun o ho => ⟨by rw [eS13, eS12, eS11]; grind [k_ii, k_ir, k_ri, k_rr, k_ai, k_ar, k_li, k_lr, k_qi, k_qr, ar_ci, ar_cl, ar_cq, la_ci, la_ca, la_cq, qa_ci, qa_ca, qa_cl, tk_link, kn8064], fun j => by rw [eS13, eS12, eS11]; rfl, fun j => by rw [eS13, eS12, eS11]; rfl⟩
    exact Or.inl ⟨by grind [k_ii, k_ir, k_ri, k_rr, k_ai, k_ar, k_li, k_lr, k_qi, k_qr, ar_ci, ar_cl, ar_cq, la_ci, la_ca, la_cq, qa_ci, qa_ca, qa_cl, tk_link, kn8064], by grind [k_ii, k_ir, k_ri, k_rr, k_ai, k_ar, k_li, k_lr, k_qi, k_qr, ar_ci, ar_cl, ar_cq, la_ci, la_ca, la_cq, qa_ci, qa_ca, qa_cl, tk_link, kn8064], by grind [k_ii, k_ir, k_ri, k_rr, k_ai, k_ar, k_li, k_lr, k_qi, k_qr, ar_ci, ar_cl, ar_cq, la_ci, la_ca, la_cq, qa_ci, qa_ca, qa_cl, tk_link, kn8064], ot, by rw [eS13, eS12, eS11]; exact hf⟩
