
set_option maxHeartbeats 400000 in
theorem sk_X1_stop {N T G : Nat → Prop} {U : List Nat} {L : Nat → List Nat} {D : Nat → Nat} {P : Nat → Int32} (t0 : Nat) (a0 : Nat) {S : kS} (hI : INJ S) (hH : HI t0 N T G U L D P S) (ht : tl S t0 a0) (hg : ∀ u, G u) : wT_X1_stop t0 a0 S (fun S1 => HI t0 N T G U L D P S1 ∧ (S1 = S ∨ lcn (cnc S1 t0) (S.1 1 t0).toInt.toNat = lcn (cnc S t0) (S.1 1 t0).toInt.toNat + 1) ∧ K3 S S1) := by
  have nS : FX [12, 13, 25, 26, 27] S S := FX_rf
  unfold wT_X1_stop
  have j63 : ∀ (x0 : Nat) (x1 : Nat) (Sx : kS), ((FX [12, 13, 25, 26, 27] S Sx) ∧ (t0 = x0 ∧ a0 = x1 ∧ HI t0 N T G U L D P Sx ∧ tl Sx t0 a0 ∧ lcn (cnc Sx t0) (S.1 1 t0).toInt.toNat = lcn (cnc S t0) (S.1 1 t0).toInt.toNat + 1 ∧ K3 S Sx)) → wT_X1_stop_63 (fun S1 => HI t0 N T G U L D P S1 ∧ (S1 = S ∨ lcn (cnc S1 t0) (S.1 1 t0).toInt.toNat = lcn (cnc S t0) (S.1 1 t0).toInt.toNat + 1) ∧ K3 S S1) x0 x1 Sx := by
    intro x0 x1 Sx hJ63
    obtain ⟨nSx, hJ63⟩ := hJ63
    unfold wT_X1_stop_63
    obtain ⟨rfl, hJ63⟩ := hJ63
    obtain ⟨rfl, hJ63⟩ := hJ63
    obtain ⟨hx, tx9, kx9, kx8⟩ := hJ63
    intro S17 eS17
    have nS17 : FX [12, 13, 25, 26, 27] S S17 := FX_i eS17 nSx
    have h17 : HI t0 N T (fun u => u ≠ a0) U L D P S17 := HI_oc (HI_wk hx (fun u _ => hg u)) eS17 (fun q => absurd rfl q) (fun q => absurd rfl q)
    have t17 : tl S17 t0 a0 := (by rw [tl_e ((HF_i eS17).1 1 (by decide)) ((HF_i eS17).2.2.2.1 3 (by decide))]; exact tx9)
    have k17 : lcn (cnc S17 t0) (S.1 1 t0).toInt.toNat = lcn (cnc S t0) (S.1 1 t0).toInt.toNat + 1 := (cnc_e ((HF_i eS17).1 35 (by decide)) ((HF_i eS17).2.2.2.1 3 (by decide))).trans kx9
    intro z18 ez18
    refine ⟨fun c1 => ?_, fun c1 => ?_⟩
    · refine ⟨?_, Or.inr k17, K3_tr kx8 (K3_f (HF_i eS17) (by decide))⟩; exact HI_oc hx eS17 (fun _ _ q => absurd q (by (try clear j63); grind [k_ii, k_ir, k_ri, k_rr, k_ai, k_ar, k_li, k_lr, k_qi, k_qr, ar_ci, ar_cl, ar_cq, la_ci, la_ca, la_cq, qa_ci, qa_ca, qa_cl, tk_link])) (fun _ q => absurd q (by decide))
    · intro z20 ez20
      intro z21 ez21
      refine kmT_X1_plan _ _ _ _ _ (fun S22 hF2 pS22 => ?_) (sk_X1_plan (n := (S17.1 1 t0).toInt) _ _ (INJ_x nS17 (by decide) hI) h17.2.2.2.2.2.2.1 (pl_c h17.1 t17 ez20 ez21))
      have nS22 : FX [12, 13, 25, 26, 27] S S22 := FX_k hF2 (by decide) nS17
      have fS22 := HF_k hF2 (INJ_x nS17 (by decide) hI) (by decide) (by decide) (by decide)
      clear hF2
      have h22 := HI_pl h17 (HF_s fS22 (by decide) (by decide) (by decide) (by decide)) pS22.1
      have t22 : tl S22 t0 a0 := (by rw [tl_e (fS22.1 1 (by decide)) (fS22.2.2.2.1 3 (by decide))]; exact t17)
      obtain ⟨d1, d2, d3, ro, d4, _⟩ := HI_dr h22 t22
      refine kmT_X1_letGo _ _ _ _ _ _ (fun S23 hF3 pS23 => ?_) (sk_X1_letGo (n := (S22.1 1 t0).toInt) (N := N) (LL := L) (D := D) (ro := ro) _ _ _ (INJ_x nS22 (by decide) hI) h22.2.2.1 h22.2.2.2.2.2.2.1 d1 d2 d4 d3)
      have nS23 : FX [12, 13, 25, 26, 27] S S23 := FX_k hF3 (by decide) nS22
      have fS23 := HF_k hF3 (INJ_x nS22 (by decide) hI) (by decide) (by decide) (by decide)
      clear hF3
      have h23 := HI_ds h22 (HF_s fS23 (by decide) (by decide) (by decide) (by decide)) pS23
      have k23 : lcn (cnc S23 t0) (S.1 1 t0).toInt.toNat = lcn (cnc S t0) (S.1 1 t0).toInt.toNat + 1 := (cnc_e (fS23.1 35 (by decide)) (fS23.2.2.2.1 3 (by decide))).trans ((cnc_e (fS22.1 35 (by decide)) (fS22.2.2.2.1 3 (by decide))).trans k17)
      have o23 : S23.1 38 a0 = 4 := by rw [fS23.1 38 (by decide), fS22.1 38 (by decide), eS17, k_ii, if_pos ⟨rfl, rfl⟩]
      refine ⟨?_, Or.inr k23, K3_tr (K3_tr kx8 (K3_f (HF_i eS17) (by decide))) (K3_tr (K3_f fS22 (by decide)) (K3_f fS23 (by decide)))⟩; exact HI_sg (t := a0) h23 (fun u _ => by rcases Decidable.em (u = a0) with c9 | c9; (exact Or.inr c9); (exact Or.inl c9)) (fun _ => pS23.2.2.2.2.1 (Or.inl (by decide))) (fun _ q => by rw [o23] at q; exact absurd q (by decide))
  intro z1 ez1
  refine ⟨fun c4 => ?_, fun c4 => ?_⟩
  · exact ⟨hH, Or.inl rfl, K3_rf⟩
  · intro z3 ez3
    refine ⟨fun c5 => ?_, fun c5 => ?_⟩
    · intro S5 eS5
      have nS5 : FX [12, 13, 25, 26, 27] S S5 := FX_i eS5 nS
      have c5 := HI_ca hH ht (by (try clear j63); grind [k_ii, k_ir, k_ri, k_rr, k_ai, k_ar, k_li, k_lr, k_qi, k_qr, ar_ci, ar_cl, ar_cq, la_ci, la_ca, la_cq, qa_ci, qa_ca, qa_cl, tk_link]) eS5
      have t5 : tl S5 t0 a0 := (by rw [tl_e ((HF_i eS5).1 1 (by decide)) ((HF_i eS5).2.2.2.1 3 (by decide))]; exact ht)
      have k5 := LSI_k hH.1 ht (by (try clear j63); grind [k_ii, k_ir, k_ri, k_rr, k_ai, k_ar, k_li, k_lr, k_qi, k_qr, ar_ci, ar_cl, ar_cq, la_ci, la_ca, la_cq, qa_ci, qa_ca, qa_cl, tk_link]) eS5
      intro z6 ez6
      refine ⟨fun c6 => ?_, fun c6 => ?_⟩
      · intro z8 ez8
        refine ⟨fun c7 => ?_, fun c7 => ?_⟩
        · exact j63 _ _ _ (by exact ⟨nS5, rfl, rfl, c5.1, t5, k5, K3_f (HF_i eS5) (by decide)⟩)
        · intro z10 ez10
          intro z11 ez11
          intro z12 ez12
          intro q13 eq13
          have wq13 := rd_w nS5 (by decide) ez10 eq13
          have l13 := c5.2 q13 (ez10.symm.trans eq13)
          have l14 := (lcn_b (g := cnc S5 t0) (S5.1 1 t0).toInt.toNat).2
          have l15 := c5.1.1.2.1
          have l16 := c5.1.1.1
          refine kmT_X0_note _ _ _ _ _ _ (fun S14 hF8 pS14 => ?_) (sk_X0_note _ _ _ (INJ_x nS5 (by decide) hI) (⟨l13.1, by omega⟩))
          have nS14 : FX [12, 13, 25, 26, 27] S S14 := FX_k hF8 (by decide) nS5
          have fS14 := HF_k hF8 (INJ_x nS5 (by decide) hI) (by decide) (by decide) (by decide)
          clear hF8
          have h14 := HI_nt c5.1 (ez10.symm.trans eq13) l13 (HF_s fS14 (by decide) (by decide) (by decide) (by decide)) pS14
          have k14 : lcn (cnc S14 t0) (S.1 1 t0).toInt.toNat = lcn (cnc S t0) (S.1 1 t0).toInt.toNat + 1 := (cnc_e (fS14.1 35 (by decide)) (fS14.2.2.2.1 3 (by decide))).trans k5
          exact j63 _ _ _ (by exact ⟨nS14, rfl, rfl, h14, (by rw [tl_e (fS14.1 1 (by decide)) (fS14.2.2.2.1 3 (by decide))]; exact t5), k14, K3_tr (K3_f (HF_i eS5) (by decide)) (K3_f fS14 (by decide))⟩)
      · intro S15 eS15
        have nS15 : FX [12, 13, 25, 26, 27] S S15 := FX_i eS15 nS5
        have h15 := HI_i c5.1 eS15 (by decide)
        have t15 : tl S15 t0 a0 := (by rw [tl_e ((HF_i eS15).1 1 (by decide)) ((HF_i eS15).2.2.2.1 3 (by decide))]; exact t5)
        have k15 : lcn (cnc S15 t0) (S.1 1 t0).toInt.toNat = lcn (cnc S t0) (S.1 1 t0).toInt.toNat + 1 := (cnc_e ((HF_i eS15).1 35 (by decide)) ((HF_i eS15).2.2.2.1 3 (by decide))).trans k5
        refine kmT_X1_close _ _ _ _ _ (fun S16 hF9 pS16 => ?_) (sk_X1_close (N := N) (T := T) (G := G) (U := U) (L := L) (D := D) (P := P) _ _ (INJ_x nS15 (by decide) hI) h15 t15 hg)
        have nS16 : FX [12, 13, 25, 26, 27] S S16 := FX_k hF9 (by decide) nS15
        have fS16 := HF_k hF9 (INJ_x nS15 (by decide) hI) (by decide) (by decide) (by decide)
        clear hF9
        exact ⟨pS16.1, Or.inr ((cnc_e (fS16.1 35 (by decide)) (fS16.2.2.2.1 3 (by decide))).trans k15), K3_tr (K3_tr (K3_f (HF_i eS5) (by decide)) (K3_f (HF_i eS15) (by decide))) pS16.2.1⟩
    · exact ⟨hH, Or.inl rfl, K3_rf⟩
