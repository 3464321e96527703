
set_option maxHeartbeats 400000 in
theorem sk_X1_work {N T G : Nat → Prop} {U : List Nat} {L : Nat → List Nat} {D : Nat → Nat} {P : Nat → Int32} (t0 : Nat) {S : kS} (hI : INJ S) (hH : HI t0 N T G U L D P S) (hg : ∀ u, G u) : wT_X1_work t0 S (fun S1 => HI t0 N T G U L D P S1 ∧ (S1.1 5 t0).toInt = 0 ∧ K3 S S1) := by
  have nS : FX [12, 13, 25, 26, 27] S S := FX_rf
  unfold wT_X1_work
  refine it_rule (fun u : Nat × Int32 × kS => (FX [12, 13, 25, 26, 27] S u.2.2) ∧ (t0 = u.1 ∧ HI t0 N T G U L D P u.2.2 ∧ 0 ≤ u.2.1.toInt ∧ u.2.2.1 1 t0 = S.1 1 t0 ∧ u.2.1.toInt + (u.2.2.1 5 t0).toInt + 417 * (200 - lcn (cnc u.2.2 t0) (S.1 1 t0).toInt.toNat) ≤ 83816 ∧ K3 S u.2.2)) (fun u => (1000000 - u.2.1.toInt).toNat) ?_ (by exact ⟨nS, rfl, hH, (show (0 : Int) ≤ (0 : Int32).toInt by decide), rfl, (by show (0 : Int32).toInt + (S.1 5 t0).toInt + 417 * (200 - lcn (cnc S t0) (S.1 1 t0).toInt.toNat) ≤ 83816; rw [show (0 : Int32).toInt = 0 from rfl]; have b1 := hH.2.2.2.2.2.2.1.2.1; have b2 := (lcn_b (g := cnc S t0) (S.1 1 t0).toInt.toNat).1; omega), K3_rf⟩)
  rintro ⟨x0, x1, Sl2⟩ k2 hI2 hk2
  replace hI2 : (FX [12, 13, 25, 26, 27] S Sl2) ∧ (t0 = x0 ∧ HI t0 N T G U L D P Sl2 ∧ 0 ≤ x1.toInt ∧ Sl2.1 1 t0 = S.1 1 t0 ∧ x1.toInt + (Sl2.1 5 t0).toInt + 417 * (200 - lcn (cnc Sl2 t0) (S.1 1 t0).toInt.toNat) ≤ 83816 ∧ K3 S Sl2) := hI2
  obtain ⟨nSl2, hI2⟩ := hI2
  replace hk2 : ∀ v : Nat × Int32 × kS, (FX [12, 13, 25, 26, 27] S v.2.2) ∧ (t0 = v.1 ∧ HI t0 N T G U L D P v.2.2 ∧ 0 ≤ v.2.1.toInt ∧ v.2.2.1 1 t0 = S.1 1 t0 ∧ v.2.1.toInt + (v.2.2.1 5 t0).toInt + 417 * (200 - lcn (cnc v.2.2 t0) (S.1 1 t0).toInt.toNat) ≤ 83816 ∧ K3 S v.2.2) → (1000000 - v.2.1.toInt).toNat < (1000000 - x1.toInt).toNat → k2 v := hk2
  show wT_X1_work_2 _ k2 x0 x1 Sl2
  unfold wT_X1_work_2
  obtain ⟨rfl, hI2⟩ := hI2
  obtain ⟨hx, k0, k2, k1, k3⟩ := hI2
  have ag0 := hx.2.2.2.2.2.2.1
  have ag1 := ag0.1
  have ag2 := ag0.2.1
  have lb2 := (lcn_b (g := cnc Sl2 t0) (S.1 1 t0).toInt.toNat).2
  have tb2 := hH.1.2.1
  have tb1 := hH.1.1
  have x9 : x1.toInt ≤ 83816 := by omega
  refine ⟨fun c1 => ?_, fun c1 => ?_⟩
  · exact ⟨hx, by (try clear hk2); grind [k_ii, k_ir, k_ri, k_rr, k_ai, k_ar, k_li, k_lr, k_qi, k_qr, ar_ci, ar_cl, ar_cq, la_ci, la_ca, la_cq, qa_ci, qa_ca, qa_cl, tk_link, kn200, kn416], k3⟩
  · intro z2 ez2
    refine ⟨fun c2 => ?_, fun c2 => ?_⟩
    · exact ⟨hx, by (try clear hk2); grind [k_ii, k_ir, k_ri, k_rr, k_ai, k_ar, k_li, k_lr, k_qi, k_qr, ar_ci, ar_cl, ar_cq, la_ci, la_ca, la_cq, qa_ci, qa_ca, qa_cl, tk_link, kn200, kn416], k3⟩
    · intro z4 ez4
      intro z5 ez5
      have hrz5 : -2147483648 ≤ z4.toInt - 1 ∧ z4.toInt - 1 < 2147483648 := by (try clear hk2); grind [k_ii, k_ir, k_ri, k_rr, k_ai, k_ar, k_li, k_lr, k_qi, k_qr, ar_ci, ar_cl, ar_cq, la_ci, la_ca, la_cq, qa_ci, qa_ca, qa_cl, tk_link, kn200, kn416]
      replace ez5 : z5.toInt = z4.toInt - 1 := w_sub ez5 hrz5
      clear hrz5
      intro S6 eS6
      have nS6 : FX [12, 13, 25, 26, 27] S S6 := FX_i eS6 nSl2
      have h6 := HI_a5 hx eS6 (by (try clear hk2); grind [k_ii, k_ir, k_ri, k_rr, k_ai, k_ar, k_li, k_lr, k_qi, k_qr, ar_ci, ar_cl, ar_cq, la_ci, la_ca, la_cq, qa_ci, qa_ca, qa_cl, tk_link, kn200, kn416]) (by (try clear hk2); grind [k_ii, k_ir, k_ri, k_rr, k_ai, k_ar, k_li, k_lr, k_qi, k_qr, ar_ci, ar_cl, ar_cq, la_ci, la_ca, la_cq, qa_ci, qa_ca, qa_cl, tk_link, kn200, kn416])
      have tc6 : S6.1 1 t0 = Sl2.1 1 t0 := congrFun ((HF_i eS6).1 1 (by decide)) t0
      have tb6 := h6.1.2.1
      have a6 : (S6.1 5 t0).toInt = (Sl2.1 5 t0).toInt - 1 := by (try clear hk2); grind [k_ii, k_ir, k_ri, k_rr, k_ai, k_ar, k_li, k_lr, k_qi, k_qr, ar_ci, ar_cl, ar_cq, la_ci, la_ca, la_cq, qa_ci, qa_ca, qa_cl, tk_link, kn200, kn416]
      have c6 : lcn (cnc S6 t0) (S.1 1 t0).toInt.toNat = lcn (cnc Sl2 t0) (S.1 1 t0).toInt.toNat := cnc_e ((HF_i eS6).1 35 (by decide)) ((HF_i eS6).2.2.2.1 3 (by decide))
      intro z7 ez7
      intro z8 ez8
      intro q9 eq9
      have wq9 := rd_w nS6 (by decide) ez7 eq9
      refine ⟨by (try clear hk2); grind [k_ii, k_ir, k_ri, k_rr, k_ai, k_ar, k_li, k_lr, k_qi, k_qr, ar_ci, ar_cl, ar_cq, la_ci, la_ca, la_cq, qa_ci, qa_ca, qa_cl, tk_link, kn200, kn416], ?_⟩
      intro z10 ez10
      replace ez10 := ez10.trans (ar_rd nS6 (by decide) (by decide) wq9)
      have d10 : AEV (Sl2.1 1 t0).toInt z10.toInt := by rw [ez10, show ar S6 10 t0 (ix z8) = ar Sl2 10 t0 (ix z8) by rw [eS6]; rfl]; exact AGE_g ag0 (by (try clear hk2); grind [k_ii, k_ir, k_ri, k_rr, k_ai, k_ar, k_li, k_lr, k_qi, k_qr, ar_ci, ar_cl, ar_cq, la_ci, la_ca, la_cq, qa_ci, qa_ca, qa_cl, tk_link, kn200, kn416]) (by (try clear hk2); grind [k_ii, k_ir, k_ri, k_rr, k_ai, k_ar, k_li, k_lr, k_qi, k_qr, ar_ci, ar_cl, ar_cq, la_ci, la_ca, la_cq, qa_ci, qa_ca, qa_cl, tk_link, kn200, kn416])
      unfold AEV at d10
      refine ⟨fun c3 => ?_, fun c3 => ?_⟩
      · intro z12 ez12
        intro q13 eq13
        have wq13 := rd_w nS6 (by decide) ez12 eq13
        refine ⟨by (try clear hk2); grind [k_ii, k_ir, k_ri, k_rr, k_ai, k_ar, k_li, k_lr, k_qi, k_qr, ar_ci, ar_cl, ar_cq, la_ci, la_ca, la_cq, qa_ci, qa_ca, qa_cl, tk_link, kn200, kn416], ?_⟩
        intro z14 ez14
        replace ez14 := ez14.trans (qa_rd nS6 (by decide) (by decide) wq13)
        obtain ⟨t14, e14, l14, _⟩ := tl_i h6.1 (z := z10) (by (try clear hk2); grind [k_ii, k_ir, k_ri, k_rr, k_ai, k_ar, k_li, k_lr, k_qi, k_qr, ar_ci, ar_cl, ar_cq, la_ci, la_ca, la_cq, qa_ci, qa_ca, qa_cl, tk_link, kn200, kn416]) (by (try clear hk2); grind [k_ii, k_ir, k_ri, k_rr, k_ai, k_ar, k_li, k_lr, k_qi, k_qr, ar_ci, ar_cl, ar_cq, la_ci, la_ca, la_cq, qa_ci, qa_ca, qa_cl, tk_link, kn200, kn416])
        refine ⟨t14, by (try clear hk2); grind [k_ii, k_ir, k_ri, k_rr, k_ai, k_ar, k_li, k_lr, k_qi, k_qr, ar_ci, ar_cl, ar_cq, la_ci, la_ca, la_cq, qa_ci, qa_ca, qa_cl, tk_link, kn200, kn416], ?_⟩
        refine kmT_X1_stop _ _ _ _ _ (fun S16 hF4 pS16 => ?_) (sk_X1_stop (N := N) (T := T) (G := G) (U := U) (L := L) (D := D) (P := P) _ _ (INJ_x nS6 (by decide) hI) h6 l14 hg)
        have nS16 : FX [12, 13, 25, 26, 27] S S16 := FX_k hF4 (by decide) nS6
        have fS16 := HF_k hF4 (INJ_x nS6 (by decide) hI) (by decide) (by decide) (by decide)
        clear hF4
        unfold wT_X1_work_64
        intro z23 ez23
        have hrz23 : -2147483648 ≤ x1.toInt + 1 ∧ x1.toInt + 1 < 2147483648 := by (try clear hk2); grind [k_ii, k_ir, k_ri, k_rr, k_ai, k_ar, k_li, k_lr, k_qi, k_qr, ar_ci, ar_cl, ar_cq, la_ci, la_ca, la_cq, qa_ci, qa_ca, qa_cl, tk_link, kn200, kn416]
        replace ez23 : z23.toInt = x1.toInt + 1 := w_add ez23 hrz23
        clear hrz23
        have e1 : S16.1 1 t0 = S.1 1 t0 := (congrFun (fS16.1 1 (by decide)) t0).trans (tc6.trans k2)
        have hb := (pS16.1.2.2.2.2.2.2.1).2.1
        have m6 : z23.toInt + (S16.1 5 t0).toInt + 417 * (200 - lcn (cnc S16 t0) (S.1 1 t0).toInt.toNat) ≤ 83816 := by rw [tc6, k2] at pS16; rcases pS16.2.1 with w | w; (rw [w]; omega); omega
        exact hk2 _ (by exact ⟨nS16, rfl, pS16.1, (by show 0 ≤ z23.toInt; omega), e1, m6, K3_tr (K3_tr k3 (K3_f (HF_i eS6) (by decide))) pS16.2.2⟩) (by show (1000000 - z23.toInt).toNat < _; omega)
      · intro z17 ez17
        intro z18 ez18
        have e18 : z18.toInt = -1 - z10.toInt := w_not ez18 (by (try clear hk2); grind [k_ii, k_ir, k_ri, k_rr, k_ai, k_ar, k_li, k_lr, k_qi, k_qr, ar_ci, ar_cl, ar_cq, la_ci, la_ca, la_cq, qa_ci, qa_ca, qa_cl, tk_link, kn200, kn416])
        intro q19 eq19
        have wq19 := rd_w nS6 (by decide) ez17 eq19
        refine ⟨by (try clear hk2); grind [k_ii, k_ir, k_ri, k_rr, k_ai, k_ar, k_li, k_lr, k_qi, k_qr, ar_ci, ar_cl, ar_cq, la_ci, la_ca, la_cq, qa_ci, qa_ca, qa_cl, tk_link, kn200, kn416], ?_⟩
        intro z20 ez20
        replace ez20 := ez20.trans (qa_rd nS6 (by decide) (by decide) wq19)
        obtain ⟨t20, e20, l20, _⟩ := tl_i h6.1 (z := z18) (by (try clear hk2); grind [k_ii, k_ir, k_ri, k_rr, k_ai, k_ar, k_li, k_lr, k_qi, k_qr, ar_ci, ar_cl, ar_cq, la_ci, la_ca, la_cq, qa_ci, qa_ca, qa_cl, tk_link, kn200, kn416]) (by (try clear hk2); grind [k_ii, k_ir, k_ri, k_rr, k_ai, k_ar, k_li, k_lr, k_qi, k_qr, ar_ci, ar_cl, ar_cq, la_ci, la_ca, la_cq, qa_ci, qa_ca, qa_cl, tk_link, kn200, kn416])
        refine ⟨t20, by (try clear hk2); grind [k_ii, k_ir, k_ri, k_rr, k_ai, k_ar, k_li, k_lr, k_qi, k_qr, ar_ci, ar_cl, ar_cq, la_ci, la_ca, la_cq, qa_ci, qa_ca, qa_cl, tk_link, kn200, kn416], ?_⟩
        refine kmT_X1_settle _ _ _ _ _ (fun S22 hF5 pS22 => ?_) (sk_X1_settle (N := N) (T := T) (G := G) (U := U) (L := L) (D := D) (P := P) _ _ (INJ_x nS6 (by decide) hI) h6 l20 (hg t20))
        have nS22 : FX [12, 13, 25, 26, 27] S S22 := FX_k hF5 (by decide) nS6
        have fS22 := HF_k hF5 (INJ_x nS6 (by decide) hI) (by decide) (by decide) (by decide)
        clear hF5
        unfold wT_X1_work_64
        intro z23 ez23
        have hrz23 : -2147483648 ≤ x1.toInt + 1 ∧ x1.toInt + 1 < 2147483648 := by (try clear hk2); grind [k_ii, k_ir, k_ri, k_rr, k_ai, k_ar, k_li, k_lr, k_qi, k_qr, ar_ci, ar_cl, ar_cq, la_ci, la_ca, la_cq, qa_ci, qa_ca, qa_cl, tk_link, kn200, kn416]
        replace ez23 : z23.toInt = x1.toInt + 1 := w_add ez23 hrz23
        clear hrz23
        have e1 : S22.1 1 t0 = S.1 1 t0 := (congrFun (fS22.1 1 (by decide)) t0).trans (tc6.trans k2)
        have m6 : z23.toInt + (S22.1 5 t0).toInt + 417 * (200 - lcn (cnc S22 t0) (S.1 1 t0).toInt.toNat) ≤ 83816 := by rw [cnc_e (fS22.1 35 (by decide)) (fS22.2.2.2.1 3 (by decide)), fS22.1 5 (by decide)]; omega
        exact hk2 _ (by exact ⟨nS22, rfl, pS22.1, (by show 0 ≤ z23.toInt; omega), e1, m6, K3_tr (K3_tr k3 (K3_f (HF_i eS6) (by decide))) pS22.2⟩) (by show (1000000 - z23.toInt).toNat < _; omega)
