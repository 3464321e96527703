
set_option maxHeartbeats 400000 in
theorem sk_X8_reach {pg : Nat} (t0 : Nat) (a0 : Int32) {S : kS} (hI : INJ S) (hO55_t0 : S.2.1 55 t0 = some pg) (hT : TBI pg t0 S) : wT_X8_reach t0 a0 S (fun S1 => TBI pg t0 S1) := by
  have nS : FX [] S S := FX_rf
  have h17 := hT.2.1
  have h26 := hT.1
  unfold wT_X8_reach
  refine ⟨fun c1 => ?_, fun c1 => ?_⟩
  · exact hT
  · intro z2 ez2
    refine ⟨pg, ob_e nS (by decide) hO55_t0 ez2, ?_⟩
    intro z4 ez4
    refine ⟨fun c2 => ?_, fun c2 => ?_⟩
    · exact hT
    · intro z6 ez6
      intro q7 eq7
      have wq7 := rd_w nS (by decide) ez6 eq7
      refine ⟨by grind [k_ii, k_ir, k_ri, k_rr, k_ai, k_ar, k_li, k_lr, k_qi, k_qr, ar_ci, ar_cl, ar_cq, la_ci, la_ca, la_cq, qa_ci, qa_ca, qa_cl, tk_link, kn8064], ?_⟩
      intro z8 ez8
      replace ez8 := ez8.trans (ar_rd nS (by decide) (by decide) wq7)
      intro z9 ez9
      have a8 : a0.toInt < 8064 := by grind [k_ii, k_ir, k_ri, k_rr, k_ai, k_ar, k_li, k_lr, k_qi, k_qr, ar_ci, ar_cl, ar_cq, la_ci, la_ca, la_cq, qa_ci, qa_ca, qa_cl, tk_link, kn8064]
      have a0p : 0 ≤ a0.toInt := by grind [k_ii, k_ir, k_ri, k_rr, k_ai, k_ar, k_li, k_lr, k_qi, k_qr, ar_ci, ar_cl, ar_cq, la_ci, la_ca, la_cq, qa_ci, qa_ca, qa_cl, tk_link, kn8064]
      have a17 : a0.toInt < (S.1 17 pg).toInt := by grind [k_ii, k_ir, k_ri, k_rr, k_ai, k_ar, k_li, k_lr, k_qi, k_qr, ar_ci, ar_cl, ar_cq, la_ci, la_ca, la_cq, qa_ci, qa_ca, qa_cl, tk_link, kn8064]
      refine ⟨fun c3 => ?_, fun c3 => ?_⟩
      · exact hT
      · intro z11 ez11
        intro z12 ez12
        have e12 : z12 = S.1 27 t0 := by grind [k_ii, k_ir, k_ri, k_rr, k_ai, k_ar, k_li, k_lr, k_qi, k_qr, ar_ci, ar_cl, ar_cq, la_ci, la_ca, la_cq, qa_ci, qa_ca, qa_cl, tk_link, kn8064]
        have hn : ar S 53 t0 (ix a0) ≠ S.1 27 t0 := by grind [k_ii, k_ir, k_ri, k_rr, k_ai, k_ar, k_li, k_lr, k_qi, k_qr, ar_ci, ar_cl, ar_cq, la_ci, la_ca, la_cq, qa_ci, qa_ca, qa_cl, tk_link, kn8064]
        have cq := cnq_l (f := ar S 53 t0) (jix_lt (n := 8064) a0p a8) hn
        intro q13 eq13
        have wq13 := rd_w nS (by decide) ez11 eq13
        refine ⟨by grind [k_ii, k_ir, k_ri, k_rr, k_ai, k_ar, k_li, k_lr, k_qi, k_qr, ar_ci, ar_cl, ar_cq, la_ci, la_ca, la_cq, qa_ci, qa_ca, qa_cl, tk_link, kn8064], ?_⟩
        intro S14 eS14
        have nS14 : FX [] S S14 := FX_a eS14 nS
        have arS14 := ar_wr hI nS (by decide) (by decide) wq13 eS14
        intro z15 ez15
        intro z16 ez16
        have e16 : z16 = S.1 26 t0 := by grind [k_ii, k_ir, k_ri, k_rr, k_ai, k_ar, k_li, k_lr, k_qi, k_qr, ar_ci, ar_cl, ar_cq, la_ci, la_ca, la_cq, qa_ci, qa_ca, qa_cl, tk_link, kn8064]
        have d16 : 0 ≤ z16.toInt ∧ z16.toInt ≤ 8063 := by rw [e16]; omega
        intro q17 eq17
        have wq17 := rd_w nS14 (by decide) ez15 eq17
        refine ⟨by grind [k_ii, k_ir, k_ri, k_rr, k_ai, k_ar, k_li, k_lr, k_qi, k_qr, ar_ci, ar_cl, ar_cq, la_ci, la_ca, la_cq, qa_ci, qa_ca, qa_cl, tk_link, kn8064], ?_⟩
        intro S18 eS18
        have nS18 : FX [] S S18 := FX_a eS18 nS14
        have arS18 := ar_wr hI nS14 (by decide) (by decide) wq17 eS18
        intro z19 ez19
        intro z20 ez20
        have hrz20 : -2147483648 ≤ z19.toInt + 1 ∧ z19.toInt + 1 < 2147483648 := by grind [k_ii, k_ir, k_ri, k_rr, k_ai, k_ar, k_li, k_lr, k_qi, k_qr, ar_ci, ar_cl, ar_cq, la_ci, la_ca, la_cq, qa_ci, qa_ca, qa_cl, tk_link, kn8064]
        replace ez20 : z20.toInt = z19.toInt + 1 := w_add ez20 hrz20
        clear hrz20
        intro S21 eS21
        have nS21 : FX [] S S21 := FX_i eS21 nS18
        have f21 : HF [26] [] [53, 54] [] S S21 := HF_tr (HF_s (HF_a eS14 arS14) (by decide) (by decide) (by decide) (by decide)) (HF_tr (HF_s (HF_a eS18 arS18) (by decide) (by decide) (by decide) (by decide)) (HF_s (HF_i eS21) (by decide) (by decide) (by decide) (by decide)))
        have e26 : (S21.1 26 t0).toInt = (S.1 26 t0).toInt + 1 := by rw [eS21, k_ii, if_pos ⟨rfl, rfl⟩, ez20, ez19, (HF_a eS18 arS18).1 26 (by decide), (HF_a eS14 arS14).1 26 (by decide)]
        exact TBI_r hT a0p a17 hn f21 (fun j => by rw [(HF_i eS21).2.2.1 53 (by decide), arS18 53 t0 j, if_neg (fun c9 => absurd c9.1 (by decide)), arS14 53 t0 j]; rcases Decidable.em (j = ix a0) with c9 | c9; (rw [if_pos ⟨rfl, rfl, c9⟩, if_pos c9, e12]); (rw [if_neg (fun q => c9 q.2.2), if_neg c9])) (fun j => by rw [(HF_i eS21).2.2.1 54 (by decide), arS18 54 t0 j, arS14 54 t0 j]; rcases Decidable.em (j = ix z16) with c9 | c9; (rw [if_pos ⟨rfl, rfl, c9⟩, if_pos (by rw [c9, e16])]); (rw [if_neg (fun q => c9 q.2.2), if_neg (fun q => absurd q.1 (by decide)), if_neg (by rw [← e16]; exact c9)])) e26
