
set_option maxHeartbeats 400000 in
theorem sk_X1_stand {N T G : Nat → Prop} {U : List Nat} {L : Nat → List Nat} {D : Nat → Nat} {P : Nat → Int32} (t0 : Nat) (a0 : Nat) {S : kS} (hI : INJ S) (hH : HI t0 N T G U L D P S) (ht : tl S t0 a0) (hg : ∀ u, G u) (h3 : S.1 30 a0 ≠ 3) (hr : S.1 30 a0 ≠ 0) (h38 : S.1 38 a0 = 0) (hT : T a0) : wT_X1_stand t0 a0 S (fun S1 => HI t0 N T G U L D P S1 ∧ (S1.1 5 t0).toInt = 0 ∧ K3 S S1) := by
  have nS : FX [12, 13, 25, 26, 27] S S := FX_rf
  unfold wT_X1_stand
  have j60 : ∀ (x0 : Nat) (Sx : kS), ((FX [12, 13, 25, 26, 27] S Sx) ∧ (t0 = x0 ∧ HI t0 N T G U L D P Sx ∧ K3 S Sx)) → wT_X1_stand_60 (fun S1 => HI t0 N T G U L D P S1 ∧ (S1.1 5 t0).toInt = 0 ∧ K3 S S1) x0 Sx := by
    intro x0 Sx hJ60
    obtain ⟨nSx, hJ60⟩ := hJ60
    unfold wT_X1_stand_60
    obtain ⟨rfl, hJ60⟩ := hJ60
    obtain ⟨hx, kx⟩ := hJ60
    refine kmT_X1_work _ _ _ _ (fun S20 hF1 pS20 => ?_) (sk_X1_work (N := N) (T := T) (G := G) (U := U) (L := L) (D := D) (P := P) _ (INJ_x nSx (by decide) hI) hx hg)
    have nS20 : FX [12, 13, 25, 26, 27] S S20 := FX_k hF1 (by decide) nSx
    have fS20 := HF_k hF1 (INJ_x nSx (by decide) hI) (by decide) (by decide) (by decide)
    clear hF1
    exact ⟨pS20.1, pS20.2.1, K3_tr kx pS20.2.2⟩
  intro S1 eS1
  have nS1 : FX [12, 13, 25, 26, 27] S S1 := FX_i eS1 nS
  have h1 := HI_st hH eS1 (fun _ => nr_q hH.2.2.2.2.2.1 hr) (fun _ q => by rcases q with q | q | q; exact absurd q (by decide); exact absurd q (by decide); exact absurd h38 q.2) (fun _ _ _ => hT)
  have t1 : tl S1 t0 a0 := (by rw [tl_e ((HF_i eS1).1 1 (by decide)) ((HF_i eS1).2.2.2.1 3 (by decide))]; exact ht)
  intro z2 ez2
  intro z3 ez3
  refine kmT_X1_plan _ _ _ _ _ (fun S4 hF2 pS4 => ?_) (sk_X1_plan (n := (S1.1 1 t0).toInt) _ _ (INJ_x nS1 (by decide) hI) h1.2.2.2.2.2.2.1 (pl_c h1.1 t1 ez2 ez3))
  have nS4 : FX [12, 13, 25, 26, 27] S S4 := FX_k hF2 (by decide) nS1
  have fS4 := HF_k hF2 (INJ_x nS1 (by decide) hI) (by decide) (by decide) (by decide)
  clear hF2
  have h4 := HI_pl h1 (HF_s fS4 (by decide) (by decide) (by decide) (by decide)) pS4.1
  have t4 : tl S4 t0 a0 := (by rw [tl_e (fS4.1 1 (by decide)) (fS4.2.2.2.1 3 (by decide))]; exact t1)
  obtain ⟨d1, d2, d3, ro, d4, d5⟩ := HI_dr h4 t4
  refine kmT_X1_letGo _ _ _ _ _ _ (fun S5 hF3 pS5 => ?_) (sk_X1_letGo (n := (S4.1 1 t0).toInt) (N := N) (LL := L) (D := D) (ro := ro) _ _ _ (INJ_x nS4 (by decide) hI) h4.2.2.1 h4.2.2.2.2.2.2.1 d1 d2 d4 d3)
  have nS5 : FX [12, 13, 25, 26, 27] S S5 := FX_k hF3 (by decide) nS4
  have fS5 := HF_k hF3 (INJ_x nS4 (by decide) hI) (by decide) (by decide) (by decide)
  clear hF3
  have h5 := HI_ds h4 (HF_s fS5 (by decide) (by decide) (by decide) (by decide)) pS5
  have k5 : K3 S S5 := K3_tr (K3_i eS1 (Or.inr h3)) (K3_tr (K3_f fS4 (by decide)) (K3_f fS5 (by decide)))
  intro z6 ez6
  refine ⟨fun c4 => ?_, fun q7 c4 => ?_⟩
  · exact j60 _ _ (by exact ⟨nS5, rfl, h5, k5⟩)
  · intro z8 ez8
    refine ⟨q7, by (try clear j60); grind [k_ii, k_ir, k_ri, k_rr, k_ai, k_ar, k_li, k_lr, k_qi, k_qr, ar_ci, ar_cl, ar_cq, la_ci, la_ca, la_cq, qa_ci, qa_ca, qa_cl, tk_link], ?_⟩
    intro z10 ez10
    refine ⟨fun c5 => ?_, fun c5 => ?_⟩
    · exact j60 _ _ (by exact ⟨nS5, rfl, h5, k5⟩)
    · intro z12 ez12
      refine ⟨q7, by (try clear j60); grind [k_ii, k_ir, k_ri, k_rr, k_ai, k_ar, k_li, k_lr, k_qi, k_qr, ar_ci, ar_cl, ar_cq, la_ci, la_ca, la_cq, qa_ci, qa_ca, qa_cl, tk_link], ?_⟩
      intro z14 ez14
      have r7 : S4.2.1 62 a0 = some q7 := by rw [← fS5.2.1 62 (by decide)]; (try clear j60); grind [k_ii, k_ir, k_ri, k_rr, k_ai, k_ar, k_li, k_lr, k_qi, k_qr, ar_ci, ar_cl, ar_cq, la_ci, la_ca, la_cq, qa_ci, qa_ca, qa_cl, tk_link]
      have ro7 := d5 q7 r7
      have s7 : S5.1 13 q7 ≠ 0 := by (try clear j60); grind [k_ii, k_ir, k_ri, k_rr, k_ai, k_ar, k_li, k_lr, k_qi, k_qr, ar_ci, ar_cl, ar_cq, la_ci, la_ca, la_cq, qa_ci, qa_ca, qa_cl, tk_link]
      have l7 : S4.1 13 ro ≠ 0 := fun q9 => by
            have e9 : S5.1 13 ro = S4.1 13 ro := pS5.2.2.2.2.2.2 rfl ro (by rcases Decidable.em (S4.2.1 23 ro = none) with c9 | c9; (exact c9); (exact absurd (ro_n h4 t4 r7) (by rw [← ro7]; exact c9)))
            rw [ro7] at e9 q9
            exact s7 (e9.trans q9)
      have al7 := pS5.2.2.2.2.1 (Or.inr l7)
      intro S15 eS15
      have nS15 : FX [12, 13, 25, 26, 27] S S15 := FX_i eS15 nS5
      have h15 := HI_oc h5 eS15 (fun _ _ _ => al7) (fun _ _ _ => hT)
      intro z16 ez16
      refine ⟨q7, by (try clear j60); grind [k_ii, k_ir, k_ri, k_rr, k_ai, k_ar, k_li, k_lr, k_qi, k_qr, ar_ci, ar_cl, ar_cq, la_ci, la_ca, la_cq, qa_ci, qa_ca, qa_cl, tk_link], ?_⟩
      intro z18 ez18
      intro S19 eS19
      have nS19 : FX [12, 13, 25, 26, 27] S S19 := FX_i eS19 nS15
      have h19 := HI_i h15 eS19 (by decide)
      exact j60 _ _ (by exact ⟨nS19, rfl, h19, K3_tr k5 (K3_tr (K3_f (HF_i eS15) (by decide)) (K3_f (HF_i eS19) (by decide)))⟩)
