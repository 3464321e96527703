
set_option maxHeartbeats 400000 in
theorem sk_X1_deliver {N T G : Nat → Prop} {U : List Nat} {L : Nat → List Nat} {D : Nat → Nat} {P : Nat → Int32} (t0 : Nat) (a0 : Int32) (a1 : Int32) {S : kS} (hI : INJ S) (h5 : (S.1 5 t0).toInt = 0) (hH : HI t0 N T G U L D P S) (hg : ∀ u, G u) (hN7 : ∀ i l, i < 8 → qa S 7 t0 i = some l → N l) : wT_X1_deliver t0 a0 a1 S (fun S1 r => HI t0 N T G U L D P S1 ∧ (S1.1 5 t0).toInt = 0 ∧ K3 S S1) := by
  have nS : FX [12, 13, 25, 26, 27] S S := FX_rf
  unfold wT_X1_deliver
  refine ⟨fun c1 => ?_, fun c1 => ?_⟩
  · exact ⟨hH, h5, K3_rf⟩
  · refine ⟨fun c2 => ?_, fun c2 => ?_⟩
    · exact ⟨hH, h5, K3_rf⟩
    · intro z3 ez3
      intro q4 eq4
      have wq4 := rd_w nS (by decide) ez3 eq4
      refine ⟨by grind [k_ii, k_ir, k_ri, k_rr, k_ai, k_ar, k_li, k_lr, k_qi, k_qr, ar_ci, ar_cl, ar_cq, la_ci, la_ca, la_cq, qa_ci, qa_ca, qa_cl, tk_link, kn400, kn8], ?_⟩
      intro z5 ez5
      replace ez5 := ez5.trans (ar_rd nS (by decide) (by decide) wq4)
      have a08 : 0 ≤ a0.toInt ∧ a0.toInt < 8 := by grind [k_ii, k_ir, k_ri, k_rr, k_ai, k_ar, k_li, k_lr, k_qi, k_qr, ar_ci, ar_cl, ar_cq, la_ci, la_ca, la_cq, qa_ci, qa_ca, qa_cl, tk_link, kn400, kn8]
      have lt5 := hH.2.2.2.2.2.2.2.2 (ix a0) (jix_lt (n := 8) a08.1 a08.2)
      refine ⟨fun c3 => ?_, fun c3 => ?_⟩
      · intro z7 ez7
        intro q8 eq8
        have wq8 := rd_w nS (by decide) ez7 eq8
        refine ⟨by grind [k_ii, k_ir, k_ri, k_rr, k_ai, k_ar, k_li, k_lr, k_qi, k_qr, ar_ci, ar_cl, ar_cq, la_ci, la_ca, la_cq, qa_ci, qa_ca, qa_cl, tk_link, kn400, kn8], ?_⟩
        intro z9 ez9
        replace ez9 := ez9.trans (qa_rd nS (by decide) (by decide) wq8)
        intro q10 eq10
        intro z11 ez11
        have n10 := hN7 (ix a0) q10 (jix_lt (n := 8) a08.1 a08.2) (ez9.symm.trans eq10)
        refine ⟨fun c4 => ?_, fun q12 c4 => ?_⟩
        · intro z13 ez13
          intro z14 ez14
          have hrz14 : -100000 ≤ a0.toInt ∧ a0.toInt ≤ 100000 := by grind [k_ii, k_ir, k_ri, k_rr, k_ai, k_ar, k_li, k_lr, k_qi, k_qr, ar_ci, ar_cl, ar_cq, la_ci, la_ca, la_cq, qa_ci, qa_ca, qa_cl, tk_link, kn400, kn8]
          replace ez14 : z14.toInt = 50 * a0.toInt := w_mc ez14 rfl (by decide) hrz14
          intro z15 ez15
          intro q16 eq16
          have wq16 := rd_w nS (by decide) ez15 eq16
          refine ⟨by grind [k_ii, k_ir, k_ri, k_rr, k_ai, k_ar, k_li, k_lr, k_qi, k_qr, ar_ci, ar_cl, ar_cq, la_ci, la_ca, la_cq, qa_ci, qa_ca, qa_cl, tk_link, kn400, kn8], ?_⟩
          intro z17 ez17
          replace ez17 := ez17.trans (ar_rd nS (by decide) (by decide) wq16)
          intro z18 ez18
          have hrz18 : -2147483648 ≤ z14.toInt + z17.toInt ∧ z14.toInt + z17.toInt < 2147483648 := by grind [k_ii, k_ir, k_ri, k_rr, k_ai, k_ar, k_li, k_lr, k_qi, k_qr, ar_ci, ar_cl, ar_cq, la_ci, la_ca, la_cq, qa_ci, qa_ca, qa_cl, tk_link, kn400, kn8]
          replace ez18 : z18.toInt = z14.toInt + z17.toInt := w_add ez18 hrz18
          clear hrz18
          intro q19 eq19
          have wq19 := rd_w nS (by decide) ez13 eq19
          refine ⟨by grind [k_ii, k_ir, k_ri, k_rr, k_ai, k_ar, k_li, k_lr, k_qi, k_qr, ar_ci, ar_cl, ar_cq, la_ci, la_ca, la_cq, qa_ci, qa_ca, qa_cl, tk_link, kn400, kn8], ?_⟩
          intro S20 eS20
          have nS20 : FX [12, 13, 25, 26, 27] S S20 := FX_a eS20 nS
          have arS20 := ar_wr hI nS (by decide) (by decide) wq19 eS20
          have h20 := HI_f hH (HF_a eS20 arS20) (by decide) (by decide) (by decide) (by decide)
          have l20 := h20.2.2.2.2.2.2.2.2 (ix a0) (jix_lt (n := 8) a08.1 a08.2)
          have e620 : ar S20 6 t0 (ix a0) = ar S 6 t0 (ix a0) := by grind [k_ii, k_ir, k_ri, k_rr, k_ai, k_ar, k_li, k_lr, k_qi, k_qr, ar_ci, ar_cl, ar_cq, la_ci, la_ca, la_cq, qa_ci, qa_ca, qa_cl, tk_link, kn400, kn8]
          intro z21 ez21
          intro q22 eq22
          have wq22 := rd_w nS20 (by decide) ez21 eq22
          refine ⟨by grind [k_ii, k_ir, k_ri, k_rr, k_ai, k_ar, k_li, k_lr, k_qi, k_qr, ar_ci, ar_cl, ar_cq, la_ci, la_ca, la_cq, qa_ci, qa_ca, qa_cl, tk_link, kn400, kn8], ?_⟩
          intro z23 ez23
          replace ez23 := ez23.trans (ar_rd nS20 (by decide) (by decide) wq22)
          intro z24 ez24
          have hrz24 : -2147483648 ≤ z23.toInt + 1 ∧ z23.toInt + 1 < 2147483648 := by grind [k_ii, k_ir, k_ri, k_rr, k_ai, k_ar, k_li, k_lr, k_qi, k_qr, ar_ci, ar_cl, ar_cq, la_ci, la_ca, la_cq, qa_ci, qa_ca, qa_cl, tk_link, kn400, kn8]
          replace ez24 : z24.toInt = z23.toInt + 1 := w_add ez24 hrz24
          clear hrz24
          refine ⟨by grind [k_ii, k_ir, k_ri, k_rr, k_ai, k_ar, k_li, k_lr, k_qi, k_qr, ar_ci, ar_cl, ar_cq, la_ci, la_ca, la_cq, qa_ci, qa_ca, qa_cl, tk_link, kn400, kn8], ?_⟩
          intro S25 eS25
          have nS25 : FX [12, 13, 25, 26, 27] S S25 := FX_a eS25 nS20
          have arS25 := ar_wr hI nS20 (by decide) (by decide) wq22 eS25
          have h25 := HI_l6 h20 (HF_a eS25 arS25) (LTS_u (k := ix a0) (v := z24) h20.2.2.2.2.2.2.2.2 (by grind [k_ii, k_ir, k_ri, k_rr, k_ai, k_ar, k_li, k_lr, k_qi, k_qr, ar_ci, ar_cl, ar_cq, la_ci, la_ca, la_cq, qa_ci, qa_ca, qa_cl, tk_link, kn400, kn8]) (fun j => by rw [arS25 6 t0 j]; rcases Decidable.em (j = ix a0) with c9 | c9; (rw [if_pos ⟨rfl, rfl, c9⟩, if_pos c9]); (rw [if_neg (fun q => c9 q.2.2), if_neg c9])))
          exact ⟨h25, by rw [(HF_a eS25 arS25).1 5 (by decide), (HF_a eS20 arS20).1 5 (by decide)]; exact h5, K3_tr (K3_f (HF_a eS20 arS20) (by decide)) (K3_f (HF_a eS25 arS25) (by decide))⟩
        · obtain ⟨⟨u9, m9⟩, s9⟩ := LNS_first hH.2.2.1 n10 (ez11.symm.trans c4)
          have ow9 := HI_own hH m9
          obtain ⟨d1, d2, d3, ro, d4, _⟩ := HI_dr hH ow9.1
          refine kmT_X1_report _ _ _ _ _ _ _ (fun S26 hF5 pS26 => ?_) (sk_X1_report (n := (S.1 1 t0).toInt) (N := N) (LL := L) (D := D) (ro := ro) (t9 := u9) _ _ _ _ (INJ_x nS (by decide) hI) ow9.2.1 m9 (by decide) ow9.2.2.2 hH.1.2.1 hH.2.2.1 hH.2.2.2.2.2.2.1 d1 d2 d4 ow9.2.2.1 d3)
          have nS26 : FX [12, 13, 25, 26, 27] S S26 := FX_k hF5 (by decide) nS
          have fS26 := HF_k hF5 (INJ_x nS (by decide) hI) (by decide) (by decide) (by decide)
          clear hF5
          have h26 := HI_rp hH (hg u9) m9 s9 (HF_s fS26 (by decide) (by decide) (by decide) (by decide)) pS26
          refine kmT_X1_work _ _ _ _ (fun S27 hF6 pS27 => ?_) (sk_X1_work (N := N) (T := T) (G := G) (U := U) (L := L) (D := D) (P := P) _ (INJ_x nS26 (by decide) hI) h26 hg)
          have nS27 : FX [12, 13, 25, 26, 27] S S27 := FX_k hF6 (by decide) nS26
          have fS27 := HF_k hF6 (INJ_x nS26 (by decide) hI) (by decide) (by decide) (by decide)
          clear hF6
          intro z28 ez28
          have ow27 : S27.2.1 21 q12 = some u9 := by rw [fS27.2.1 21 (by decide), fS26.2.1 21 (by decide)]; exact ow9.2.1
          refine ⟨u9, by grind [k_ii, k_ir, k_ri, k_rr, k_ai, k_ar, k_li, k_lr, k_qi, k_qr, ar_ci, ar_cl, ar_cq, la_ci, la_ca, la_cq, qa_ci, qa_ca, qa_cl, tk_link, kn400, kn8], ?_⟩
          intro z30 ez30
          exact ⟨pS27.1, pS27.2.1, K3_tr (K3_f fS26 (by decide)) pS27.2.2⟩
      · exact ⟨hH, h5, K3_rf⟩
