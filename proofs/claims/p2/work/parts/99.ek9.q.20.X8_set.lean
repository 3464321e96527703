
set_option maxHeartbeats 400000 in
theorem sk_X8_set {sc : Nat} (t0 : Nat) (a0 : Nat) (a1 : Int32) (a2 : Int32) {S : kS} (hI : INJ S) (hO31_a0 : S.2.1 31 a0 = some sc) (h1 : 0 ≤ a1.toInt ∧ a1.toInt < 12) (h2 : 0 ≤ a2.toInt ∧ a2.toInt ≤ 16) (h17 : 0 ≤ (S.1 17 a0).toInt ∧ (S.1 17 a0).toInt ≤ 8064) (hR : PRR a0 sc S) (h37 : ∀ i, 0 ≤ (ar S 37 a0 i).toInt ∧ (ar S 37 a0 i).toInt ≤ 8063) (hS : ∀ w : Nat, (w : Int) < a2.toInt → (ar S 28 a0 (ar S 37 a0 (16 * ix a1 + w)).toInt.toNat).toInt = 35) : wT_X8_set t0 a0 a1 a2 S (fun S1 => TBI a0 t0 S1 ∧ S1.2.1 55 t0 = some a0) := by
  have nS : FX [55] S S := FX_rf
  unfold wT_X8_set
  intro S1 eS1
  have nS1 : FX [55] S S1 := FX_r eS1 (by decide) nS
  have arS1 := ar_cr eS1 (by decide)
  have laS1 := la_cr eS1 (by decide)
  have qaS1 := qa_cr eS1 (by decide)
  intro z2 ez2
  intro z3 ez3
  intro S4 eS4
  have nS4 : FX [55] S S4 := FX_i eS4 nS1
  intro S5 eS5
  have nS5 : FX [55] S S5 := FX_i eS5 nS4
  have f5 : HF [26, 27] [55] [] [] S S5 := HF_tr (HF_s (HF_r eS1 (by decide)) (by decide) (by decide) (by decide) (by decide)) (HF_tr (HF_s (HF_i eS4) (by decide) (by decide) (by decide) (by decide)) (HF_s (HF_i eS5) (by decide) (by decide) (by decide) (by decide)))
  have t5 : TBI a0 t0 S5 := TBI_0 (by rw [eS5, k_ii, if_pos ⟨rfl, rfl⟩]) (by rw [f5.1 17 (by decide)]; exact h17)
  have r5 : PRR a0 sc S5 := PRR_f hR f5 (by decide)
  have e55 : S5.2.1 55 t0 = some a0 := by rw [eS5, eS4, k_ir, k_ir, eS1, k_rr, if_pos ⟨rfl, rfl⟩]
  refine ⟨fun c1 => ?_, fun c1 => ?_⟩
  · intro z7 ez7
    refine ⟨a0, by (try clear hS); (try clear hR); (try clear h37); (try clear t5); (try clear r5); (try clear f5); (try clear h17); grind [k_ii, k_ir, k_ri, k_rr, k_ai, k_ar, k_li, k_lr, k_qi, k_qr, ar_ci, ar_cl, ar_cq, la_ci, la_ca, la_cq, qa_ci, qa_ca, qa_cl, tk_link, kn12, kn192], ?_⟩
    intro z9 ez9
    intro z10 ez10
    have hrz10 : -100000 ≤ a1.toInt ∧ a1.toInt ≤ 100000 := by (try clear hS); (try clear hR); (try clear h37); (try clear t5); (try clear r5); (try clear f5); (try clear h17); grind [k_ii, k_ir, k_ri, k_rr, k_ai, k_ar, k_li, k_lr, k_qi, k_qr, ar_ci, ar_cl, ar_cq, la_ci, la_ca, la_cq, qa_ci, qa_ca, qa_cl, tk_link, kn12, kn192]
    replace ez10 : z10.toInt = 16 * a1.toInt := w_mc ez10 rfl (by decide) hrz10
    intro z11 ez11
    have hrz11 : -2147483648 ≤ z10.toInt + a2.toInt ∧ z10.toInt + a2.toInt < 2147483648 := by (try clear hS); (try clear hR); (try clear h37); (try clear t5); (try clear r5); (try clear f5); (try clear h17); grind [k_ii, k_ir, k_ri, k_rr, k_ai, k_ar, k_li, k_lr, k_qi, k_qr, ar_ci, ar_cl, ar_cq, la_ci, la_ca, la_cq, qa_ci, qa_ca, qa_cl, tk_link, kn12, kn192]
    replace ez11 : z11.toInt = z10.toInt + a2.toInt := w_add ez11 hrz11
    clear hrz11
    intro z12 ez12
    have hrz12 : -2147483648 ≤ z11.toInt - 1 ∧ z11.toInt - 1 < 2147483648 := by (try clear hS); (try clear hR); (try clear h37); (try clear t5); (try clear r5); (try clear f5); (try clear h17); grind [k_ii, k_ir, k_ri, k_rr, k_ai, k_ar, k_li, k_lr, k_qi, k_qr, ar_ci, ar_cl, ar_cq, la_ci, la_ca, la_cq, qa_ci, qa_ca, qa_cl, tk_link, kn12, kn192]
    replace ez12 : z12.toInt = z11.toInt - 1 := w_sub ez12 hrz12
    clear hrz12
    have a2p : 1 ≤ a2.toInt := by (try clear hS); (try clear hR); (try clear h37); (try clear t5); (try clear r5); (try clear f5); (try clear h17); grind [k_ii, k_ir, k_ri, k_rr, k_ai, k_ar, k_li, k_lr, k_qi, k_qr, ar_ci, ar_cl, ar_cq, la_ci, la_ca, la_cq, qa_ci, qa_ca, qa_cl, tk_link, kn12, kn192]
    have z12p : 0 ≤ z12.toInt := by (try clear hS); (try clear hR); (try clear h37); (try clear t5); (try clear r5); (try clear f5); (try clear h17); grind [k_ii, k_ir, k_ri, k_rr, k_ai, k_ar, k_li, k_lr, k_qi, k_qr, ar_ci, ar_cl, ar_cq, la_ci, la_ca, la_cq, qa_ci, qa_ca, qa_cl, tk_link, kn12, kn192]
    have i12 : ix z12 = 16 * ix a1 + (a2.toInt - 1).toNat := by have k1 := kx_int z12 z12p; have k2 := kx_int a1 h1.1; have k3 : z12.toInt = 16 * a1.toInt + a2.toInt - 1 := (by (try clear hS); (try clear hR); (try clear h37); (try clear t5); (try clear r5); (try clear f5); (try clear h17); grind [k_ii, k_ir, k_ri, k_rr, k_ai, k_ar, k_li, k_lr, k_qi, k_qr, ar_ci, ar_cl, ar_cq, la_ci, la_ca, la_cq, qa_ci, qa_ca, qa_cl, tk_link, kn12, kn192]); omega
    intro q13 eq13
    have wq13 := rd_w nS5 (by decide) ez9 eq13
    refine ⟨by (try clear hS); (try clear hR); (try clear h37); (try clear t5); (try clear r5); (try clear f5); (try clear h17); grind [k_ii, k_ir, k_ri, k_rr, k_ai, k_ar, k_li, k_lr, k_qi, k_qr, ar_ci, ar_cl, ar_cq, la_ci, la_ca, la_cq, qa_ci, qa_ca, qa_cl, tk_link, kn12, kn192], ?_⟩
    intro z14 ez14
    replace ez14 := ez14.trans (ar_rd nS5 (by decide) (by decide) wq13)
    have e14 : z14 = ar S 37 a0 (16 * ix a1 + (a2.toInt - 1).toNat) := by rw [ez14, i12, f5.2.2.1 37 (by decide)]
    have d14 : 0 ≤ z14.toInt ∧ z14.toInt < 8064 := by rw [e14]; have w9 := h37 (16 * ix a1 + (a2.toInt - 1).toNat); omega
    have o14 : (ar S5 28 a0 (ix z14)).toInt = 35 := by rw [f5.2.2.1 28 (by decide)]; have w9 := hS (a2.toInt - 1).toNat (by omega); rw [← e14] at w9; exact w9
    refine kmT_X8_follow _ _ _ _ _ _ (fun S15 hF2 pS15 => ?_) (sk_X8_follow (pg := a0) (sc := sc) _ _ _ (INJ_x nS5 (by decide) hI) (by (try clear hS); (try clear hR); (try clear h37); (try clear t5); (try clear r5); (try clear f5); (try clear h17); grind [k_ii, k_ir, k_ri, k_rr, k_ai, k_ar, k_li, k_lr, k_qi, k_qr, ar_ci, ar_cl, ar_cq, la_ci, la_ca, la_cq, qa_ci, qa_ca, qa_cl, tk_link, kn12, kn192]) (ob_h nS5 (by decide) hO31_a0) t5 r5 h1 d14 (fun q => by rcases q with q | q | q | q <;> (rw [q] at o14; exact absurd o14 (by decide))))
    have nS15 : FX [55] S S15 := FX_k hF2 (by decide) nS5
    have fS15 := HF_k hF2 (INJ_x nS5 (by decide) hI) (by decide) (by decide) (by decide)
    clear hF2
    exact ⟨pS15, by rw [fS15.2.1 55 (by decide)]; exact e55⟩
  · intro z16 ez16
    refine ⟨a0, by (try clear hS); (try clear hR); (try clear h37); (try clear t5); (try clear r5); (try clear f5); (try clear h17); grind [k_ii, k_ir, k_ri, k_rr, k_ai, k_ar, k_li, k_lr, k_qi, k_qr, ar_ci, ar_cl, ar_cq, la_ci, la_ca, la_cq, qa_ci, qa_ca, qa_cl, tk_link, kn12, kn192], ?_⟩
    intro z18 ez18
    intro q19 eq19
    have wq19 := rd_w nS5 (by decide) ez18 eq19
    refine ⟨by (try clear hS); (try clear hR); (try clear h37); (try clear t5); (try clear r5); (try clear f5); (try clear h17); grind [k_ii, k_ir, k_ri, k_rr, k_ai, k_ar, k_li, k_lr, k_qi, k_qr, ar_ci, ar_cl, ar_cq, la_ci, la_ca, la_cq, qa_ci, qa_ca, qa_cl, tk_link, kn12, kn192], ?_⟩
    intro z20 ez20
    replace ez20 := ez20.trans (ar_rd nS5 (by decide) (by decide) wq19)
    refine kmT_X8_reach _ _ _ _ _ (fun S21 hF3 pS21 => ?_) (sk_X8_reach (pg := a0) _ _ (INJ_x nS5 (by decide) hI) (by (try clear hS); (try clear hR); (try clear h37); (try clear t5); (try clear r5); (try clear f5); (try clear h17); grind [k_ii, k_ir, k_ri, k_rr, k_ai, k_ar, k_li, k_lr, k_qi, k_qr, ar_ci, ar_cl, ar_cq, la_ci, la_ca, la_cq, qa_ci, qa_ca, qa_cl, tk_link, kn12, kn192]) t5)
    have nS21 : FX [55] S S21 := FX_k hF3 (by decide) nS5
    have fS21 := HF_k hF3 (INJ_x nS5 (by decide) hI) (by decide) (by decide) (by decide)
    clear hF3
    exact ⟨pS21, by rw [fS21.2.1 55 (by decide)]; exact e55⟩
