
set_option maxHeartbeats 400000 in
theorem sk_X1_close {N T G : Nat → Prop} {U : List Nat} {L : Nat → List Nat} {D : Nat → Nat} {P : Nat → Int32} (t0 : Nat) (a0 : Nat) {S : kS} (hI : INJ S) (hH : HI t0 N T G U L D P S) (ht : tl S t0 a0) (hg : ∀ u, G u) : wT_X1_close t0 a0 S (fun S1 => HI t0 N T G U L D P S1 ∧ K3 S S1 ∧ S1.1 30 a0 = 3) := by
  have nS : FX [] S S := FX_rf
  have rw0 : 0 ≤ (S.1 3 t0).toInt ∧ (S.1 3 t0).toInt ≤ 200 := ⟨hH.2.2.2.2.2.1.1.1, hH.2.2.2.2.2.1.1.2.1⟩
  unfold wT_X1_close
  have j42 : ∀ (x0 : Nat) (x1 : Nat) (Sx : kS), ((FX [] S Sx) ∧ (t0 = x0 ∧ a0 = x1 ∧ HI t0 N T G U L D P Sx ∧ tl Sx t0 a0 ∧ (∀ i : Nat, (i : Int) < (Sx.1 3 t0).toInt → qa Sx 3 t0 (ix (ar Sx 4 t0 i)) ≠ some a0) ∧ K3 S Sx)) → wT_X1_close_42 (fun S1 => HI t0 N T G U L D P S1 ∧ K3 S S1 ∧ S1.1 30 a0 = 3) x0 x1 Sx := by
    intro x0 x1 Sx hJ42
    obtain ⟨nSx, hJ42⟩ := hJ42
    unfold wT_X1_close_42
    obtain ⟨rfl, hJ42⟩ := hJ42
    obtain ⟨rfl, hJ42⟩ := hJ42
    obtain ⟨hx, tx9, nx9, kx⟩ := hJ42
    intro S12 eS12
    have nS12 : FX [] S S12 := FX_i eS12 nSx
    have h12 := HI_st hx eS12 (fun _ => nx9) (fun _ q => by rcases q with q | q | q; exact absurd q (by decide); exact absurd q (by decide); exact absurd q.1 (by decide)) (fun _ q => absurd q (by decide))
    have k12 : K3 S S12 := K3_tr kx (K3_i eS12 (Or.inl rfl))
    have e12 : S12.1 30 a0 = 3 := by rw [eS12, k_ii, if_pos ⟨rfl, rfl⟩]
    intro z13 ez13
    intro z14 ez14
    intro S15 eS15
    have nS15 : FX [] S S15 := FX_i eS15 nS12
    have h15 := HI_i h12 eS15 (by decide)
    have k15 : K3 S12 S15 := K3_f (HF_i eS15) (by decide)
    intro z16 ez16
    refine ⟨fun c1 => ?_, fun q17 c1 => ?_⟩
    · exact ⟨h15, K3_tr k12 k15, k15 a0 e12⟩
    · intro z18 ez18
      intro z19 ez19
      intro S20 eS20
      have nS20 : FX [] S S20 := FX_i eS20 nS15
      have h20 := HI_i h15 eS20 (by decide)
      have k20 : K3 S12 S20 := K3_tr k15 (K3_f (HF_i eS20) (by decide))
      have t17 : tl S20 t0 q17 := by have t9 := h15.2.2.2.2.1.2.1 a0 q17 (by rw [tl_e ((HF_i eS15).1 1 (by decide)) ((HF_i eS15).2.2.2.1 3 (by decide)), tl_e ((HF_i eS12).1 1 (by decide)) ((HF_i eS12).2.2.2.1 3 (by decide))]; exact tx9) (by (try clear j36); (try clear j42); (try clear hk9); grind [k_ii, k_ir, k_ri, k_rr, k_ai, k_ar, k_li, k_lr, k_qi, k_qr, ar_ci, ar_cl, ar_cq, la_ci, la_ca, la_cq, qa_ci, qa_ca, qa_cl, tk_link, kn200]); rw [tl_e ((HF_i eS20).1 1 (by decide)) ((HF_i eS20).2.2.2.1 3 (by decide))]; exact t9
      intro z21 ez21
      refine ⟨fun c2 => ?_, fun c2 => ?_⟩
      · exact ⟨h20, K3_tr k12 k20, k20 a0 e12⟩
      · intro z23 ez23
        have s17 : S20.1 30 q17 = 2 := by (try clear j36); (try clear j42); (try clear hk9); grind [k_ii, k_ir, k_ri, k_rr, k_ai, k_ar, k_li, k_lr, k_qi, k_qr, ar_ci, ar_cl, ar_cq, la_ci, la_ca, la_cq, qa_ci, qa_ca, qa_cl, tk_link, kn200]
        refine ⟨fun c3 => ?_, fun c3 => ?_⟩
        · exact ⟨h20, K3_tr k12 k20, k20 a0 e12⟩
        · refine kmT_X1_enterRow _ _ _ _ _ (fun S25 hF4 pS25 => ?_) (sk_X1_enterRow _ _ (INJ_x nS20 (by decide) hI) (⟨h20.2.2.2.2.2.1.1.1, h20.2.2.2.2.2.1.1.2.1⟩))
          have nS25 : FX [] S S25 := FX_k hF4 (by decide) nS20
          have fS25 := HF_k hF4 (INJ_x nS20 (by decide) hI) (by decide) (by decide) (by decide)
          clear hF4
          have k25 : K3 S12 S25 := K3_tr k20 (K3_en pS25 (by rw [s17]; decide)); refine ⟨?_, K3_tr k12 k25, k25 a0 e12⟩; exact HI_en h20 t17 (nr_s h20.2.2.2.2.2.1 h20.1 t17 (by rw [s17]; decide)) ((h20.2.2.2.1 q17 (hg q17) t17).1 (Or.inr (Or.inl s17))) ((h20.2.2.2.1 q17 (hg q17) t17).2 (Or.inr (Or.inr s17))) (HF_s fS25 (by decide) (by decide) (by decide) (by decide)) pS25
  have j36 : ∀ (x0 : Nat) (x1 : Nat) (x2 : Int32) (Sx : kS), ((FX [] S Sx) ∧ (S = Sx ∧ t0 = x0 ∧ a0 = x1 ∧ 0 ≤ x2.toInt ∧ x2.toInt ≤ (S.1 3 t0).toInt ∧ (x2.toInt < (S.1 3 t0).toInt → ar S 4 t0 (ix x2) = S.1 28 a0) ∧ (¬ x2.toInt < (S.1 3 t0).toInt → ∀ j : Nat, (j : Int) < (S.1 3 t0).toInt → ar S 4 t0 j ≠ S.1 28 a0))) → wT_X1_close_36 (fun S1 => HI t0 N T G U L D P S1 ∧ K3 S S1 ∧ S1.1 30 a0 = 3) x0 x1 x2 Sx := by
    intro x0 x1 x2 Sx hJ36
    obtain ⟨nSx, hJ36⟩ := hJ36
    unfold wT_X1_close_36
    obtain ⟨rfl, hJ36⟩ := hJ36
    obtain ⟨rfl, hJ36⟩ := hJ36
    obtain ⟨rfl, hJ36⟩ := hJ36
    obtain ⟨k0, k1, k2, k3⟩ := hJ36
    have ex2 : ((ix x2 : Nat) : Int) = x2.toInt := kx_int x2 k0
    refine kmT_X1_leaveRow _ _ _ _ _ (fun S11 o11 hF5 pS11 => ?_) (sk_X1_leaveRow (n := (S.1 1 t0).toInt) _ _ (INJ_x nS (by decide) hI) hH.2.2.2.2.2.1.1 hH.1.2.1)
    have nS11 : FX [] S S11 := FX_k hF5 (by decide) nS
    have fS11 := HF_k hF5 (INJ_x nS (by decide) hI) (by decide) (by decide) (by decide)
    clear hF5
    have h11 := HI_lv hH (HF_s fS11 (by decide) (by decide) (by decide) (by decide)) pS11
    have ro11 := (RWI_out hH.2.2.2.2.2.1 pS11 (fS11.1 1 (by decide)) (fS11.1 30 (by decide)) (fS11.2.2.2.1 3 (by decide))).2
    have nn11 : ∀ i : Nat, (i : Int) < (S11.1 3 t0).toInt → ar S11 4 t0 i ≠ S11.1 28 a0 := fun i hi e9 => by
          rw [fS11.1 28 (by decide)] at e9
          rcases Decidable.em (x2.toInt < (S.1 3 t0).toInt) with c9 | c9
          · exact (ro11 i hi).1 ⟨k0, c9⟩ (by rw [k2 c9]; exact e9)
          · (obtain ⟨j, j0, j1⟩ := (ro11 i hi).2; exact k3 c9 j j0 (by rw [← j1]; exact e9))
    exact j42 _ _ _ (by exact ⟨nS11, rfl, rfl, h11, (by rw [tl_e (fS11.1 1 (by decide)) (fS11.2.2.2.1 3 (by decide))]; exact ht), nr_u h11.2.2.2.2.2.1 h11.1 nn11, K3_f fS11 (by decide)⟩)
  intro z1 ez1
  refine ⟨fun c6 => ?_, fun c6 => ?_⟩
  · exact j42 _ _ _ (by exact ⟨nS, rfl, rfl, hH, ht, nr_q hH.2.2.2.2.2.1 (by (try clear j36); (try clear j42); (try clear hk9); grind [k_ii, k_ir, k_ri, k_rr, k_ai, k_ar, k_li, k_lr, k_qi, k_qr, ar_ci, ar_cl, ar_cq, la_ci, la_ca, la_cq, qa_ci, qa_ca, qa_cl, tk_link, kn200]), K3_rf⟩)
  · refine it_rule (fun u : Nat × Nat × Int32 × kS => (FX [] S u.2.2.2) ∧ (S = u.2.2.2 ∧ t0 = u.1 ∧ a0 = u.2.1 ∧ 0 ≤ u.2.2.1.toInt ∧ u.2.2.1.toInt ≤ (S.1 3 t0).toInt ∧ ∀ j : Nat, (j : Int) < u.2.2.1.toInt → ar S 4 t0 j ≠ S.1 28 a0)) (fun u => (200 - u.2.2.1.toInt).toNat) ?_ (by exact ⟨nS, rfl, rfl, rfl, (show (0 : Int) ≤ (0 : Int32).toInt by decide), rw0.1, fun j hj => absurd hj (by show ¬ (j : Int) < (0 : Int32).toInt; rw [show (0 : Int32).toInt = 0 from rfl]; omega)⟩)
    rintro ⟨x0, x1, x2, Sl9⟩ k9 hI9 hk9
    replace hI9 : (FX [] S Sl9) ∧ (S = Sl9 ∧ t0 = x0 ∧ a0 = x1 ∧ 0 ≤ x2.toInt ∧ x2.toInt ≤ (S.1 3 t0).toInt ∧ ∀ j : Nat, (j : Int) < x2.toInt → ar S 4 t0 j ≠ S.1 28 a0) := hI9
    obtain ⟨nSl9, hI9⟩ := hI9
    replace hk9 : ∀ v : Nat × Nat × Int32 × kS, (FX [] S v.2.2.2) ∧ (S = v.2.2.2 ∧ t0 = v.1 ∧ a0 = v.2.1 ∧ 0 ≤ v.2.2.1.toInt ∧ v.2.2.1.toInt ≤ (S.1 3 t0).toInt ∧ ∀ j : Nat, (j : Int) < v.2.2.1.toInt → ar S 4 t0 j ≠ S.1 28 a0) → (200 - v.2.2.1.toInt).toNat < (200 - x2.toInt).toNat → k9 v := hk9
    show wT_X1_close_9 _ k9 x0 x1 x2 Sl9
    unfold wT_X1_close_9
    obtain ⟨rfl, hI9⟩ := hI9
    obtain ⟨rfl, hI9⟩ := hI9
    obtain ⟨rfl, hI9⟩ := hI9
    obtain ⟨k0, k1, k2⟩ := hI9
    have ex2 : ((ix x2 : Nat) : Int) = x2.toInt := kx_int x2 k0
    intro z3 ez3
    refine ⟨fun c7 => ?_, fun c7 => ?_⟩
    · exact j36 _ _ _ _ (by (try clear j36); (try clear j42); (try clear hk9); grind [k_ii, k_ir, k_ri, k_rr, k_ai, k_ar, k_li, k_lr, k_qi, k_qr, ar_ci, ar_cl, ar_cq, la_ci, la_ca, la_cq, qa_ci, qa_ca, qa_cl, tk_link, kn200])
    · intro z5 ez5
      intro q6 eq6
      have wq6 := rd_w nS (by decide) ez5 eq6
      refine ⟨by (try clear j36); (try clear j42); (try clear hk9); grind [k_ii, k_ir, k_ri, k_rr, k_ai, k_ar, k_li, k_lr, k_qi, k_qr, ar_ci, ar_cl, ar_cq, la_ci, la_ca, la_cq, qa_ci, qa_ca, qa_cl, tk_link, kn200], ?_⟩
      intro z7 ez7
      replace ez7 := ez7.trans (ar_rd nS (by decide) (by decide) wq6)
      intro z8 ez8
      refine ⟨fun c8 => ?_, fun c8 => ?_⟩
      · exact j36 _ _ _ _ (by (try clear j36); (try clear j42); (try clear hk9); grind [k_ii, k_ir, k_ri, k_rr, k_ai, k_ar, k_li, k_lr, k_qi, k_qr, ar_ci, ar_cl, ar_cq, la_ci, la_ca, la_cq, qa_ci, qa_ca, qa_cl, tk_link, kn200])
      · intro z10 ez10
        have hrz10 : -2147483648 ≤ x2.toInt + 1 ∧ x2.toInt + 1 < 2147483648 := by (try clear j36); (try clear j42); (try clear hk9); grind [k_ii, k_ir, k_ri, k_rr, k_ai, k_ar, k_li, k_lr, k_qi, k_qr, ar_ci, ar_cl, ar_cq, la_ci, la_ca, la_cq, qa_ci, qa_ca, qa_cl, tk_link, kn200]
        replace ez10 : z10.toInt = x2.toInt + 1 := w_add ez10 hrz10
        clear hrz10
        have nx : ∀ j : Nat, (j : Int) < x2.toInt + 1 → ar S 4 t0 j ≠ S.1 28 a0 := fun j hj => by rcases Decidable.em (j = ix x2) with c9 | c9; (rw [c9]; (try clear j36); (try clear j42); (try clear hk9); grind [k_ii, k_ir, k_ri, k_rr, k_ai, k_ar, k_li, k_lr, k_qi, k_qr, ar_ci, ar_cl, ar_cq, la_ci, la_ca, la_cq, qa_ci, qa_ca, qa_cl, tk_link, kn200]); (exact k2 j (by omega))
        exact hk9 _ (by (try clear j36); (try clear j42); (try clear hk9); grind [k_ii, k_ir, k_ri, k_rr, k_ai, k_ar, k_li, k_lr, k_qi, k_qr, ar_ci, ar_cl, ar_cq, la_ci, la_ca, la_cq, qa_ci, qa_ca, qa_cl, tk_link, kn200]) (by (try clear j36); (try clear j42); (try clear hk9); grind [k_ii, k_ir, k_ri, k_rr, k_ai, k_ar, k_li, k_lr, k_qi, k_qr, ar_ci, ar_cl, ar_cq, la_ci, la_ca, la_cq, qa_ci, qa_ca, qa_cl, tk_link, kn200])
