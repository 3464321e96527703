
set_option maxHeartbeats 400000 in
theorem sk_X1_callOff {N T G : Nat → Prop} {U : List Nat} {L : Nat → List Nat} {D : Nat → Nat} {P : Nat → Int32} (t0 : Nat) (a0 : Int32) {S : kS} (hI : INJ S) (hH : HI t0 N T G U L D P S) (hg : ∀ u, G u) (h5 : (S.1 5 t0).toInt = 0) : wT_X1_callOff t0 a0 S (fun S1 r => HI t0 N T G U L D P S1 ∧ (S1.1 5 t0).toInt = 0 ∧ K3 S S1 ∧ (r = 0 ∨ r = 1)) := by
  have nS : FX [12, 13, 25, 26, 27] S S := FX_rf
  have tb := hH.1.2.1
  unfold wT_X1_callOff
  refine kmT_X1_has _ _ _ _ _ (fun S1 r1 hF1 pS1 => ?_) (sk_X1_has _ _ (INJ_x nS (by decide) hI) )
  obtain ⟨rfl, pS1⟩ := pS1
  clear hF1
  refine ⟨fun c2 => ?_, fun c2 => ?_⟩
  · exact ⟨hH, h5, K3_rf, (by decide)⟩
  · intro z3 ez3
    intro q4 eq4
    have wq4 := rd_w nS (by decide) ez3 eq4
    refine ⟨by grind [k_ii, k_ir, k_ri, k_rr, k_ai, k_ar, k_li, k_lr, k_qi, k_qr, ar_ci, ar_cl, ar_cq, la_ci, la_ca, la_cq, qa_ci, qa_ca, qa_cl, tk_link, kn200], ?_⟩
    intro z5 ez5
    replace ez5 := ez5.trans (qa_rd nS (by decide) (by decide) wq4)
    obtain ⟨t5, e5, l5, n5⟩ := tl_i hH.1 (z := a0) (by grind [k_ii, k_ir, k_ri, k_rr, k_ai, k_ar, k_li, k_lr, k_qi, k_qr, ar_ci, ar_cl, ar_cq, la_ci, la_ca, la_cq, qa_ci, qa_ca, qa_cl, tk_link, kn200]) (by grind [k_ii, k_ir, k_ri, k_rr, k_ai, k_ar, k_li, k_lr, k_qi, k_qr, ar_ci, ar_cl, ar_cq, la_ci, la_ca, la_cq, qa_ci, qa_ca, qa_cl, tk_link, kn200])
    refine ⟨t5, by grind [k_ii, k_ir, k_ri, k_rr, k_ai, k_ar, k_li, k_lr, k_qi, k_qr, ar_ci, ar_cl, ar_cq, la_ci, la_ca, la_cq, qa_ci, qa_ca, qa_cl, tk_link, kn200], ?_⟩
    intro z7 ez7
    refine ⟨fun c3 => ?_, fun c3 => ?_⟩
    · exact ⟨hH, h5, K3_rf, (by decide)⟩
    · intro z9 ez9
      intro q10 eq10
      have wq10 := rd_w nS (by decide) ez9 eq10
      refine ⟨by grind [k_ii, k_ir, k_ri, k_rr, k_ai, k_ar, k_li, k_lr, k_qi, k_qr, ar_ci, ar_cl, ar_cq, la_ci, la_ca, la_cq, qa_ci, qa_ca, qa_cl, tk_link, kn200], ?_⟩
      intro z11 ez11
      replace ez11 := ez11.trans (qa_rd nS (by decide) (by decide) wq10)
      refine ⟨t5, by grind [k_ii, k_ir, k_ri, k_rr, k_ai, k_ar, k_li, k_lr, k_qi, k_qr, ar_ci, ar_cl, ar_cq, la_ci, la_ca, la_cq, qa_ci, qa_ca, qa_cl, tk_link, kn200], ?_⟩
      intro z13 ez13
      refine ⟨fun c4 => ?_, fun c4 => ?_⟩
      · intro z15 ez15
        intro q16 eq16
        have wq16 := rd_w nS (by decide) ez15 eq16
        refine ⟨by grind [k_ii, k_ir, k_ri, k_rr, k_ai, k_ar, k_li, k_lr, k_qi, k_qr, ar_ci, ar_cl, ar_cq, la_ci, la_ca, la_cq, qa_ci, qa_ca, qa_cl, tk_link, kn200], ?_⟩
        intro z17 ez17
        replace ez17 := ez17.trans (qa_rd nS (by decide) (by decide) wq16)
        refine kmT_X1_plan _ _ _ _ _ (fun S18 hF5 pS18 => ?_) (sk_X1_plan (n := (S.1 1 t0).toInt) _ _ (INJ_x nS (by decide) hI) hH.2.2.2.2.2.2.1 (Or.inl ⟨by grind [k_ii, k_ir, k_ri, k_rr, k_ai, k_ar, k_li, k_lr, k_qi, k_qr, ar_ci, ar_cl, ar_cq, la_ci, la_ca, la_cq, qa_ci, qa_ca, qa_cl, tk_link, kn200], by grind [k_ii, k_ir, k_ri, k_rr, k_ai, k_ar, k_li, k_lr, k_qi, k_qr, ar_ci, ar_cl, ar_cq, la_ci, la_ca, la_cq, qa_ci, qa_ca, qa_cl, tk_link, kn200]⟩))
        have nS18 : FX [12, 13, 25, 26, 27] S S18 := FX_k hF5 (by decide) nS
        have fS18 := HF_k hF5 (INJ_x nS (by decide) hI) (by decide) (by decide) (by decide)
        clear hF5
        have h18 := HI_pl hH (HF_s fS18 (by decide) (by decide) (by decide) (by decide)) pS18.1
        have t18 : tl S18 t0 t5 := (by rw [tl_e (fS18.1 1 (by decide)) (fS18.2.2.2.1 3 (by decide))]; exact l5)
        refine kmT_X1_work _ _ _ _ (fun S19 hF6 pS19 => ?_) (sk_X1_work (N := N) (T := T) (G := G) (U := U) (L := L) (D := D) (P := P) _ (INJ_x nS18 (by decide) hI) h18 hg)
        have nS19 : FX [12, 13, 25, 26, 27] S S19 := FX_k hF6 (by decide) nS18
        have fS19 := HF_k hF6 (INJ_x nS18 (by decide) hI) (by decide) (by decide) (by decide)
        clear hF6
        have t19 : tl S19 t0 t5 := (by rw [tl_e (fS19.1 1 (by decide)) (fS19.2.2.2.1 3 (by decide))]; exact t18)
        refine ⟨t5, by grind [k_ii, k_ir, k_ri, k_rr, k_ai, k_ar, k_li, k_lr, k_qi, k_qr, ar_ci, ar_cl, ar_cq, la_ci, la_ca, la_cq, qa_ci, qa_ca, qa_cl, tk_link, kn200], ?_⟩
        intro z21 ez21
        refine ⟨fun c7 => ?_, fun c7 => ?_⟩
        · exact ⟨pS19.1, pS19.2.1, K3_tr (K3_f fS18 (by decide)) pS19.2.2, (by decide)⟩
        · refine kmT_X1_tellParent _ _ _ _ _ (fun S23 hF8 pS23 => ?_) (sk_X1_tellParent (N := N) (T := T) (G := G) (U := U) (L := L) (D := D) (P := P) _ _ (INJ_x nS19 (by decide) hI) pS19.1 t19 hg)
          have nS23 : FX [12, 13, 25, 26, 27] S S23 := FX_k hF8 (by decide) nS19
          have fS23 := HF_k hF8 (INJ_x nS19 (by decide) hI) (by decide) (by decide) (by decide)
          clear hF8
          refine kmT_X1_work _ _ _ _ (fun S24 hF9 pS24 => ?_) (sk_X1_work (N := N) (T := T) (G := G) (U := U) (L := L) (D := D) (P := P) _ (INJ_x nS23 (by decide) hI) pS23 hg)
          have nS24 : FX [12, 13, 25, 26, 27] S S24 := FX_k hF9 (by decide) nS23
          have fS24 := HF_k hF9 (INJ_x nS23 (by decide) hI) (by decide) (by decide) (by decide)
          clear hF9
          exact ⟨pS24.1, pS24.2.1, K3_tr (K3_tr (K3_f fS18 (by decide)) pS19.2.2) (K3_tr (K3_f fS23 (by decide)) pS24.2.2), (by decide)⟩
      · exact ⟨hH, h5, K3_rf, (by decide)⟩
