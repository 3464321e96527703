
set_option maxHeartbeats 400000 in
theorem sk_X3_finished {n : Int} {r_X3_block : Nat → Int32 → kS → (kS → Prop) → Prop} (hf_X3_block : ∀ t0 : Nat, ∀ a0 : Int32, KmV [6, 7, 8, 9, 10, 11, 17, 24, 25] [] [17, 18, 19, 28, 29, 30, 35, 36, 37, 43, 44, 45, 46, 47, 48, 49, 50, 51, 52] [20, 39] [] (r_X3_block t0 a0)) (hr_X3_block : ∀ (tk pg sc : Nat) (t0 : Nat) (a0 : Int32) (S : kS), INJ S → S.2.1 14 t0 = some tk → S.2.1 15 t0 = some pg → S.2.1 16 t0 = some sc → RG (vw t0 tk pg sc S) → BG 12 (vw t0 tk pg sc S) → TY ((-2)) (vw t0 tk pg sc S) → (LK (vw t0 tk pg sc S)) → (DK (a0.toInt + 1) (vw t0 tk pg sc S)) → (0 ≤ a0.toInt ∧ a0.toInt ≤ 10) → (11 - a0.toInt ≤ n) → r_X3_block t0 a0 S (fun S1 => Rx (-4) (vw t0 tk pg sc S) (vw t0 tk pg sc S1) ∧ TY ((-2)) (vw t0 tk pg sc S1) ∧ N1e (vw t0 tk pg sc S) (vw t0 tk pg sc S1))) {tk pg sc : Nat} (t0 : Nat) (a0 : Int32) (a1 : Int32) {S : kS} (hI : INJ S) (hO14_t0 : S.2.1 14 t0 = some tk) (hO15_t0 : S.2.1 15 t0 = some pg) (hO16_t0 : S.2.1 16 t0 = some sc) (hG_S : RG (vw t0 tk pg sc S)) (hB_S : BG 12 (vw t0 tk pg sc S)) (hT_S : TY (-2) (vw t0 tk pg sc S)) (hD_S : DK (a0.toInt + 1) (vw t0 tk pg sc S)) (ha : 1 ≤ a0.toInt ∧ a0.toInt ≤ 10) (hn : 11 - a0.toInt ≤ n) (hk : 0 ≤ a1.toInt ∧ a1.toInt < 460) : wT_X3_finished r_X3_block t0 a0 a1 S (fun S1 => FNP a1.toInt (vw t0 tk pg sc S) (vw t0 tk pg sc S1)) := by
  have nS : FX [] S S := FX_rf
  have PS : Rx 0 (vw t0 tk pg sc S) (vw t0 tk pg sc S) := Rx_rf
  have yS := hT_S
  unfold wT_X3_finished
  intro z1 ez1
  intro S2 eS2
  have nS2 : FX [] S S2 := FX_i eS2 nS
  have vS2 := vw_ci (tk := tk) (pg := pg) (sc := sc) eS2 (by decide)
  intro z3 ez3
  intro z4 ez4
  intro S5 eS5
  have nS5 : FX [] S S5 := FX_i eS5 nS2
  have vS5 := vw_ci (tk := tk) (pg := pg) (sc := sc) eS5 (by decide)
  intro z6 ez6
  refine ⟨sc, ob_e nS5 (by decide) hO16_t0 ez6, ?_⟩
  intro z8 ez8
  intro z9 ez9
  refine ⟨pg, ob_e nS5 (by decide) hO15_t0 ez9, ?_⟩
  intro z11 ez11
  intro q12 eq12
  have wq12 := rd_w nS5 (by decide) ez8 eq12
  refine ⟨by grind [NZ, k_ii, k_ir, k_ri, k_rr, k_ai, k_ar, k_li, k_lr, k_qi, k_qr, ar_ci, ar_cl, ar_cq, la_ci, la_ca, la_cq, qa_ci, qa_ca, qa_cl, tk_link, kn460], ?_⟩
  intro S13 eS13
  have nS13 : FX [] S S13 := FX_a eS13 nS5
  have arS13 := ar_wr hI nS5 (by decide) (by decide) wq12 eS13
  have vS13 := vw_ca (t0 := t0) (tk := tk) (pg := pg) (sc := sc) eS13 arS13 (by decide)
  have v13 : VF [9, 10] [47] (vw t0 tk pg sc S) (vw t0 tk pg sc S13) := VF_tt (hv_sub vS2.1 (by decide) (by decide)) (VF_tt (hv_sub vS5.1 (by decide) (by decide)) (hv_sub vS13 (by decide) (by decide)))
  have e139 : (vw t0 tk pg sc S13).1 9 = -1 := (vS13.1 9 (by decide)).trans ((vS5.1.1 9 (by decide)).trans vS2.2)
  have z11e : z11.toInt = (vw t0 tk pg sc S).1 17 := by rw [ez11]; exact (vS5.1.1 17 (by decide)).trans (vS2.1.1 17 (by decide))
  have up47 := up_v (A := ar S5 47 sc) (A1 := ar S13 47 sc) (z := a1) (v := z11) hk.1 (fun j => by rw [arS13 47 sc j]; rcases Decidable.em (j = ix a1) with h9 | h9; (rw [if_pos ⟨rfl, rfl, h9⟩, if_pos h9]); (rw [if_neg (fun q => h9 q.2.2), if_neg h9]))
  have hG_S13 : RG (vw t0 tk pg sc S13) := RG_93 (by rw [e139, v13.1 25 (by decide)]; have := hG_S.2.2.2.2.1.1; omega) v13 hG_S
  have hB_S13 : BG 12 (vw t0 tk pg sc S13) := BG_v v13 (by decide) hB_S
  have yS13 : TY (-2) (vw t0 tk pg sc S13) := TY_v v13 (by decide) (by decide) hT_S
  have PS13 : Rx 0 (vw t0 tk pg sc S13) (vw t0 tk pg sc S13) := Rx_rf
  have hL_S13 : LK (vw t0 tk pg sc S13) := LK_m e139
  have hD_S13 : DK (a0.toInt + 1) (vw t0 tk pg sc S13) := DK_v v13 (by decide) (by decide) hD_S
  refine hf_X3_block _ _ _ _ _ (fun S14 hF1 pS14 => ?_) (hr_X3_block tk pg sc _ _ _ (INJ_x nS13 (by decide) hI) (ob_h nS13 (by decide) hO14_t0) (ob_h nS13 (by decide) hO15_t0) (ob_h nS13 (by decide) hO16_t0) (Rx_g PS13 hG_S13) (BG_r PS13 hB_S13 (by decide)) yS13 (LK_r hG_S13 PS13 hL_S13) (DK_m (DK_r hG_S13 PS13 hD_S13) (by grind [NZ, k_ii, k_ir, k_ri, k_rr, k_ai, k_ar, k_li, k_lr, k_qi, k_qr, ar_ci, ar_cl, ar_cq, la_ci, la_ca, la_cq, qa_ci, qa_ca, qa_cl, tk_link, kn460])) (by grind [NZ, k_ii, k_ir, k_ri, k_rr, k_ai, k_ar, k_li, k_lr, k_qi, k_qr, ar_ci, ar_cl, ar_cq, la_ci, la_ca, la_cq, qa_ci, qa_ca, qa_cl, tk_link, kn460]) (by grind [NZ, k_ii, k_ir, k_ri, k_rr, k_ai, k_ar, k_li, k_lr, k_qi, k_qr, ar_ci, ar_cl, ar_cq, la_ci, la_ca, la_cq, qa_ci, qa_ca, qa_cl, tk_link, kn460]))
  have nS14 : FX [] S S14 := FX_k hF1 (by decide) nS13
  have PS14 := Rx_tr hG_S13 PS13 pS14.1
  have yS14 := pS14.2.1
  clear hF1
  refine kmT_X3_emit _ _ _ _ _ _ (fun S15 r15 hF2 pS15 => ?_) (sr_X3_emit (tk := tk) (pg := pg) (sc := sc) _ _ _ (INJ_x nS14 (by decide) hI) (ob_h nS14 (by decide) hO14_t0) (ob_h nS14 (by decide) hO15_t0) (ob_h nS14 (by decide) hO16_t0) (Rx_g PS14 hG_S13))
  have nS15 : FX [] S S15 := FX_k hF2 (by decide) nS14
  have iS15 : 0 ≤ r15.toInt ∧ r15.toInt ≤ 8063 := ⟨pS15.1, pS15.2.1⟩
  clear hF2
  intro z16 ez16
  intro z17 ez17
  intro S18 eS18
  have nS18 : FX [] S S18 := FX_i eS18 nS15
  have vS18 := vw_ci (tk := tk) (pg := pg) (sc := sc) eS18 (by decide)
  intro S19 eS19
  have nS19 : FX [] S S19 := FX_i eS19 nS18
  have vS19 := vw_ci (tk := tk) (pg := pg) (sc := sc) eS19 (by decide)
  exact ⟨(vw t0 tk pg sc S13), (vw t0 tk pg sc S14), (vw t0 tk pg sc S15), r15.toInt, v13, e139, fun i => by have h9 := up47 i; rw [z11e] at h9; exact h9.trans (by rw [show (ar S5 47 sc i).toInt = (vw t0 tk pg sc S).2 47 i by rw [eS5, eS2]; rfl]), Rx_m PS14 (by decide), yS14, BG_r PS14 hB_S13 (by decide), pS15, VF_tt (hv_sub vS18.1 (by decide) (by decide)) (hv_sub vS19.1 (by decide) (by decide)), vS19.2.trans (by rw [ez1]; rfl)⟩
