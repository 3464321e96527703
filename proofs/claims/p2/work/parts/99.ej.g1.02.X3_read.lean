
set_option maxHeartbeats 400000 in
theorem sk_X3_read {tk pg sc : Nat} (t0 : Nat) (a0 : Nat) {S : kS} (hI : INJ S) (hO14_t0 : S.2.1 14 t0 = some tk) (hO31_pg : S.2.1 31 pg = some sc) (hp : pg = a0) (ht : TKI (vw t0 tk pg sc S)) (ha : RGA (vw t0 tk pg sc S)) : wT_X3_read t0 a0 S (fun S1 r => ((vw t0 tk pg sc S1).1 7 = 0 → WFP (vw t0 tk pg sc S1)) ∧ jRB (vw t0 tk pg sc S1) ∧ r.toInt = (vw t0 tk pg sc S1).1 7 ∧ ((vw t0 tk pg sc S1).1 7 = 0 → STI (fun _ => False) (vw t0 tk pg sc S1))) := by
  have nS : FX [15, 16] S S := FX_rf
  subst hp
  unfold wT_X3_read
  intro S1 eS1
  have nS1 : FX [15, 16] S S1 := FX_r eS1 (by decide) nS
  have arS1 := ar_cr eS1 (by decide)
  have laS1 := la_cr eS1 (by decide)
  have qaS1 := qa_cr eS1 (by decide)
  intro z2 ez2
  refine ⟨pg, by (try clear hk55); grind (gen := 20) (ematch := 20) [k_ii, k_ir, k_ri, k_rr, k_ai, k_ar, k_li, k_lr, k_qi, k_qr, ar_ci, ar_cl, ar_cq, la_ci, la_ca, la_cq, qa_ci, qa_ca, qa_cl, tk_link], ?_⟩
  refine kmT_X5_clear _ _ _ _ (fun S4 hF1 pS4 => ?_) (sk_X5_clear (sc := sc) _ (INJ_x nS1 (by decide) hI) (ob_h nS1 (by decide) hO31_pg))
  have nS4 : FX [15, 16] S S4 := FX_k hF1 (by decide) nS1
  have z6_S4 : ∀ o, S4.1 6 o = S1.1 6 o := fun o => congrFun (hF1.1 6 (by decide)) o
  have z7_S4 : ∀ o, S4.1 7 o = S1.1 7 o := fun o => congrFun (hF1.1 7 (by decide)) o
  have z8_S4 : ∀ o, S4.1 8 o = S1.1 8 o := fun o => congrFun (hF1.1 8 (by decide)) o
  have z9_S4 : ∀ o, S4.1 9 o = S1.1 9 o := fun o => congrFun (hF1.1 9 (by decide)) o
  have z11_S4 : ∀ o, S4.1 11 o = S1.1 11 o := fun o => congrFun (hF1.1 11 (by decide)) o
  have z40_S4 : ∀ o, S4.1 40 o = S1.1 40 o := fun o => congrFun (hF1.1 40 (by decide)) o
  have ar35_S4 := KF_ar hF1 (INJ_x nS1 (by decide) hI) (by decide) (by decide) (f := 35) (by decide)
  have ar36_S4 := KF_ar hF1 (INJ_x nS1 (by decide) hI) (by decide) (by decide) (f := 36) (by decide)
  have ar43_S4 := KF_ar hF1 (INJ_x nS1 (by decide) hI) (by decide) (by decide) (f := 43) (by decide)
  have ar30_S4 := KF_ar hF1 (INJ_x nS1 (by decide) hI) (by decide) (by decide) (f := 30) (by decide)
  have ar44_S4 := KF_ar hF1 (INJ_x nS1 (by decide) hI) (by decide) (by decide) (f := 44) (by decide)
  have ar45_S4 := KF_ar hF1 (INJ_x nS1 (by decide) hI) (by decide) (by decide) (f := 45) (by decide)
  have ar37_S4 := KF_ar hF1 (INJ_x nS1 (by decide) hI) (by decide) (by decide) (f := 37) (by decide)
  have ar17_S4 := KF_ar hF1 (INJ_x nS1 (by decide) hI) (by decide) (by decide) (f := 17) (by decide)
  have ar64_S4 := KF_ar hF1 (INJ_x nS1 (by decide) hI) (by decide) (by decide) (f := 64) (by decide)
  have ar65_S4 := KF_ar hF1 (INJ_x nS1 (by decide) hI) (by decide) (by decide) (f := 65) (by decide)
  have q15_S4 : ∀ o, S4.2.1 15 o = S1.2.1 15 o := fun o => congrFun (hF1.2.1 15 (by decide)) o
  have q16_S4 : ∀ o, S4.2.1 16 o = S1.2.1 16 o := fun o => congrFun (hF1.2.1 16 (by decide)) o
  have VS4 := vw_k (t0 := t0) (tk := tk) (pg := pg) (sc := sc) hF1 (INJ_x nS1 (by decide) hI) (by decide) (by decide)
  clear hF1
  intro z5 ez5
  refine ⟨pg, by (try clear hk55); grind (gen := 20) (ematch := 20) [k_ii, k_ir, k_ri, k_rr, k_ai, k_ar, k_li, k_lr, k_qi, k_qr, ar_ci, ar_cl, ar_cq, la_ci, la_ca, la_cq, qa_ci, qa_ca, qa_cl, tk_link], ?_⟩
  intro z7 ez7
  have e7z : z7 = some sc := ob_e nS4 (by decide) hO31_pg ez7
  intro S8 eS8
  have nS8 : FX [15, 16] S S8 := FX_r eS8 (by decide) nS4
  have arS8 := ar_cr eS8 (by decide)
  have laS8 := la_cr eS8 (by decide)
  have qaS8 := qa_cr eS8 (by decide)
  intro S9 eS9
  have nS9 : FX [15, 16] S S9 := FX_i eS9 nS8
  intro S10 eS10
  have nS10 : FX [15, 16] S S10 := FX_i eS10 nS9
  intro S11 eS11
  have nS11 : FX [15, 16] S S11 := FX_i eS11 nS10
  intro S12 eS12
  have nS12 : FX [15, 16] S S12 := FX_i eS12 nS11
  intro S13 eS13
  have nS13 : FX [15, 16] S S13 := FX_i eS13 nS12
  intro S14 eS14
  have nS14 : FX [15, 16] S S14 := FX_i eS14 nS13
  have e6 : (vw t0 tk pg sc S14).1 6 = 0 := by show (S14.1 6 t0).toInt = 0; (try clear hk55); grind (gen := 20) (ematch := 20) [k_ii, k_ir, k_ri, k_rr, k_ai, k_ar, k_li, k_lr, k_qi, k_qr, ar_ci, ar_cl, ar_cq, la_ci, la_ca, la_cq, qa_ci, qa_ca, qa_cl, tk_link]
  have e7 : (vw t0 tk pg sc S14).1 7 = 0 := by show (S14.1 7 t0).toInt = 0; (try clear hk55); grind (gen := 20) (ematch := 20) [k_ii, k_ir, k_ri, k_rr, k_ai, k_ar, k_li, k_lr, k_qi, k_qr, ar_ci, ar_cl, ar_cq, la_ci, la_ca, la_cq, qa_ci, qa_ca, qa_cl, tk_link]
  have e8 : (vw t0 tk pg sc S14).1 8 = -1 := by show (S14.1 8 t0).toInt = -1; (try clear hk55); grind (gen := 20) (ematch := 20) [k_ii, k_ir, k_ri, k_rr, k_ai, k_ar, k_li, k_lr, k_qi, k_qr, ar_ci, ar_cl, ar_cq, la_ci, la_ca, la_cq, qa_ci, qa_ca, qa_cl, tk_link]
  have e9 : (vw t0 tk pg sc S14).1 9 = -1 := by show (S14.1 9 t0).toInt = -1; (try clear hk55); grind (gen := 20) (ematch := 20) [k_ii, k_ir, k_ri, k_rr, k_ai, k_ar, k_li, k_lr, k_qi, k_qr, ar_ci, ar_cl, ar_cq, la_ci, la_ca, la_cq, qa_ci, qa_ca, qa_cl, tk_link]
  have e11 : (vw t0 tk pg sc S14).1 11 = 0 := by show (S14.1 11 t0).toInt = 0; (try clear hk55); grind (gen := 20) (ematch := 20) [k_ii, k_ir, k_ri, k_rr, k_ai, k_ar, k_li, k_lr, k_qi, k_qr, ar_ci, ar_cl, ar_cq, la_ci, la_ca, la_cq, qa_ci, qa_ca, qa_cl, tk_link]
  have e17 : (vw t0 tk pg sc S14).1 17 = 0 := by show (S14.1 17 pg).toInt = 0; (try clear hk55); grind (gen := 20) (ematch := 20) [k_ii, k_ir, k_ri, k_rr, k_ai, k_ar, k_li, k_lr, k_qi, k_qr, ar_ci, ar_cl, ar_cq, la_ci, la_ca, la_cq, qa_ci, qa_ca, qa_cl, tk_link]
  have e18 : (vw t0 tk pg sc S14).1 18 = 0 := by show (S14.1 18 pg).toInt = 0; (try clear hk55); grind (gen := 20) (ematch := 20) [k_ii, k_ir, k_ri, k_rr, k_ai, k_ar, k_li, k_lr, k_qi, k_qr, ar_ci, ar_cl, ar_cq, la_ci, la_ca, la_cq, qa_ci, qa_ca, qa_cl, tk_link]
  have e24 : (vw t0 tk pg sc S14).1 24 = 0 := by show (S14.1 24 sc).toInt = 0; (try clear hk55); grind (gen := 20) (ematch := 20) [k_ii, k_ir, k_ri, k_rr, k_ai, k_ar, k_li, k_lr, k_qi, k_qr, ar_ci, ar_cl, ar_cq, la_ci, la_ca, la_cq, qa_ci, qa_ca, qa_cl, tk_link]
  have e25 : (vw t0 tk pg sc S14).1 25 = 0 := by show (S14.1 25 sc).toInt = 0; (try clear hk55); grind (gen := 20) (ematch := 20) [k_ii, k_ir, k_ri, k_rr, k_ai, k_ar, k_li, k_lr, k_qi, k_qr, ar_ci, ar_cl, ar_cq, la_ci, la_ca, la_cq, qa_ci, qa_ca, qa_cl, tk_link]
  have r15_S14 : S14.2.1 15 t0 = some pg := by (try clear hk55); grind (gen := 20) (ematch := 20) [k_ii, k_ir, k_ri, k_rr, k_ai, k_ar, k_li, k_lr, k_qi, k_qr, ar_ci, ar_cl, ar_cq, la_ci, la_ca, la_cq, qa_ci, qa_ca, qa_cl, tk_link]
  have r16_S14 : S14.2.1 16 t0 = some sc := by (try clear hk55); grind (gen := 20) (ematch := 20) [k_ii, k_ir, k_ri, k_rr, k_ai, k_ar, k_li, k_lr, k_qi, k_qr, ar_ci, ar_cl, ar_cq, la_ci, la_ca, la_cq, qa_ci, qa_ca, qa_cl, tk_link]
  have a14_35 : ∀ i, ar S14 35 pg i = ar S 35 pg i := by (try clear hk55); grind (gen := 20) (ematch := 20) [k_ii, k_ir, k_ri, k_rr, k_ai, k_ar, k_li, k_lr, k_qi, k_qr, ar_ci, ar_cl, ar_cq, la_ci, la_ca, la_cq, qa_ci, qa_ca, qa_cl, tk_link]
  have a14_36 : ∀ i, ar S14 36 pg i = ar S 36 pg i := by (try clear hk55); grind (gen := 20) (ematch := 20) [k_ii, k_ir, k_ri, k_rr, k_ai, k_ar, k_li, k_lr, k_qi, k_qr, ar_ci, ar_cl, ar_cq, la_ci, la_ca, la_cq, qa_ci, qa_ca, qa_cl, tk_link]
  have a14_43 : ∀ i, ar S14 43 sc i = ar S 43 sc i := by (try clear hk55); grind (gen := 20) (ematch := 20) [k_ii, k_ir, k_ri, k_rr, k_ai, k_ar, k_li, k_lr, k_qi, k_qr, ar_ci, ar_cl, ar_cq, la_ci, la_ca, la_cq, qa_ci, qa_ca, qa_cl, tk_link]
  have a14_30 : ∀ i, ar S14 30 pg i = ar S 30 pg i := by (try clear hk55); grind (gen := 20) (ematch := 20) [k_ii, k_ir, k_ri, k_rr, k_ai, k_ar, k_li, k_lr, k_qi, k_qr, ar_ci, ar_cl, ar_cq, la_ci, la_ca, la_cq, qa_ci, qa_ca, qa_cl, tk_link]
  have a14_44 : ∀ i, ar S14 44 sc i = ar S 44 sc i := by (try clear hk55); grind (gen := 20) (ematch := 20) [k_ii, k_ir, k_ri, k_rr, k_ai, k_ar, k_li, k_lr, k_qi, k_qr, ar_ci, ar_cl, ar_cq, la_ci, la_ca, la_cq, qa_ci, qa_ca, qa_cl, tk_link]
  have a14_45 : ∀ i, ar S14 45 sc i = ar S 45 sc i := by (try clear hk55); grind (gen := 20) (ematch := 20) [k_ii, k_ir, k_ri, k_rr, k_ai, k_ar, k_li, k_lr, k_qi, k_qr, ar_ci, ar_cl, ar_cq, la_ci, la_ca, la_cq, qa_ci, qa_ca, qa_cl, tk_link]
  have a14_37 : ∀ i, ar S14 37 pg i = ar S 37 pg i := by (try clear hk55); grind (gen := 20) (ematch := 20) [k_ii, k_ir, k_ri, k_rr, k_ai, k_ar, k_li, k_lr, k_qi, k_qr, ar_ci, ar_cl, ar_cq, la_ci, la_ca, la_cq, qa_ci, qa_ca, qa_cl, tk_link]
  have a14_17 : ∀ i, ar S14 17 t0 i = ar S 17 t0 i := by (try clear hk55); grind (gen := 20) (ematch := 20) [k_ii, k_ir, k_ri, k_rr, k_ai, k_ar, k_li, k_lr, k_qi, k_qr, ar_ci, ar_cl, ar_cq, la_ci, la_ca, la_cq, qa_ci, qa_ca, qa_cl, tk_link]
  have a14_64 : ∀ i, ar S14 64 tk i = ar S 64 tk i := by (try clear hk55); grind (gen := 20) (ematch := 20) [k_ii, k_ir, k_ri, k_rr, k_ai, k_ar, k_li, k_lr, k_qi, k_qr, ar_ci, ar_cl, ar_cq, la_ci, la_ca, la_cq, qa_ci, qa_ca, qa_cl, tk_link]
  have a14_65 : ∀ i, ar S14 65 tk i = ar S 65 tk i := by (try clear hk55); grind (gen := 20) (ematch := 20) [k_ii, k_ir, k_ri, k_rr, k_ai, k_ar, k_li, k_lr, k_qi, k_qr, ar_ci, ar_cl, ar_cq, la_ci, la_ca, la_cq, qa_ci, qa_ca, qa_cl, tk_link]
  have c14 : (vw t0 tk pg sc S14).1 40 = (vw t0 tk pg sc S).1 40 := by show (S14.1 40 tk).toInt = (S.1 40 tk).toInt; (try clear hk55); grind (gen := 20) (ematch := 20) [k_ii, k_ir, k_ri, k_rr, k_ai, k_ar, k_li, k_lr, k_qi, k_qr, ar_ci, ar_cl, ar_cq, la_ci, la_ca, la_cq, qa_ci, qa_ca, qa_cl, tk_link]
  have hG14 : RG (vw t0 tk pg sc S14) := RG_0 ⟨by rw [c14]; exact ht.1, by rw [c14]; exact ht.2.1, (show (ar S14 64 tk 4001).toInt = 4 by rw [a14_64]; exact ht.2.2.1), (show (ar S14 64 tk ((vw t0 tk pg sc S14).1 40 - 1).toNat).toInt = 0 by rw [a14_64, c14]; exact ht.2.2.2.1), fun i => (show 0 ≤ (ar S14 65 tk i).toInt ∧ (ar S14 65 tk i).toInt ≤ 4000 by rw [a14_65]; exact ht.2.2.2.2 i)⟩ ⟨fun i => (show 0 ≤ (ar S14 35 pg i).toInt ∧ (ar S14 35 pg i).toInt ≤ 12 by rw [a14_35]; exact ha.1 i), fun i => (show 0 ≤ (ar S14 36 pg i).toInt ∧ (ar S14 36 pg i).toInt ≤ 16 by rw [a14_36]; exact ha.2.1 i), fun i => (show -1 ≤ (ar S14 43 sc i).toInt ∧ (ar S14 43 sc i).toInt ≤ 1379 by rw [a14_43]; exact ha.2.2.1 i), fun i => (show -1 ≤ (ar S14 30 pg i).toInt ∧ (ar S14 30 pg i).toInt ≤ 1379 by rw [a14_30]; exact ha.2.2.2.1 i), fun i => (show 0 ≤ (ar S14 44 sc i).toInt ∧ (ar S14 44 sc i).toInt ≤ 9 by rw [a14_44]; exact ha.2.2.2.2.1 i), fun i => (show -1 ≤ (ar S14 45 sc i).toInt ∧ (ar S14 45 sc i).toInt ≤ 459 by rw [a14_45]; exact ha.2.2.2.2.2.1 i), fun i => (show 0 ≤ (ar S14 37 pg i).toInt ∧ (ar S14 37 pg i).toInt ≤ 8063 by rw [a14_37]; exact ha.2.2.2.2.2.2.1 i), fun i => (show 0 ≤ (ar S14 17 t0 i).toInt ∧ (ar S14 17 t0 i).toInt ≤ 8063 by rw [a14_17]; exact ha.2.2.2.2.2.2.2 i)⟩ e6 e7 e8 e9 e11 e17 e18 e24 e25
  refine it_rule (fun u : Nat × Int32 × kS => (FX [15, 16] S u.2.2) ∧ (t0 = u.1 ∧ RDX (vw t0 tk pg sc S14) (vw t0 tk pg sc u.2.2) ∧ u.2.2.2.1 15 t0 = some pg ∧ u.2.2.2.1 16 t0 = some sc ∧ 0 ≤ u.2.1.toInt ∧ u.2.1.toInt ≤ 13)) (fun u => (13 - u.2.1.toInt).toNat) ?_ (by exact ⟨nS14, rfl, RDX_0 hG14 e8 e9 e17 e18, r15_S14, r16_S14, (show 0 ≤ (0 : Int32).toInt ∧ (0 : Int32).toInt ≤ 13 by decide)⟩)
  rintro ⟨x0, x2, Sl55⟩ k55 hI55 hk55
  replace hI55 : (FX [15, 16] S Sl55) ∧ (t0 = x0 ∧ RDX (vw t0 tk pg sc S14) (vw t0 tk pg sc Sl55) ∧ Sl55.2.1 15 t0 = some pg ∧ Sl55.2.1 16 t0 = some sc ∧ 0 ≤ x2.toInt ∧ x2.toInt ≤ 13) := hI55
  obtain ⟨nSl55, hI55⟩ := hI55
  replace hk55 : ∀ v : Nat × Int32 × kS, (FX [15, 16] S v.2.2) ∧ (t0 = v.1 ∧ RDX (vw t0 tk pg sc S14) (vw t0 tk pg sc v.2.2) ∧ v.2.2.2.1 15 t0 = some pg ∧ v.2.2.2.1 16 t0 = some sc ∧ 0 ≤ v.2.1.toInt ∧ v.2.1.toInt ≤ 13) → (13 - v.2.1.toInt).toNat < (13 - x2.toInt).toNat → k55 v := hk55
  show wT_X3_read_55 _ k55 x0 x2 Sl55
  unfold wT_X3_read_55
  obtain ⟨rfl, hI55⟩ := hI55
  obtain ⟨hR, r15_Sl55, r16_Sl55, hx⟩ := hI55
  refine ⟨fun c2 => ?_, fun c2 => ?_⟩
  · unfold wT_X3_read_93
    refine kmT_X3_kind _ _ _ _ (fun S24 r24 hF3 pS24 => ?_) (sr_X3_kind (tk := tk) (pg := pg) (sc := sc) _ (INJ_x nSl55 (by decide) hI) (ob_h nSl55 (by decide) hO14_t0) r15_Sl55 r16_Sl55 hR.1)
    obtain ⟨rfl, pS24⟩ := pS24
    clear hF3
    refine ⟨fun c4 => ?_, fun c4 => ?_⟩
    · unfold wT_X3_read_105
      refine kmT_X3_findChildren _ _ _ _ (fun S27 hF5 pS27 => ?_) (sk_X3_findChildren (tk := tk) (pg := pg) (sc := sc) _ (INJ_x nSl55 (by decide) hI) (ob_h nSl55 (by decide) hO14_t0) r15_Sl55 r16_Sl55 hR.1)
      have nS27 : FX [15, 16] S S27 := FX_k hF5 (by decide) nSl55
      have z6_S27 : ∀ o, S27.1 6 o = Sl55.1 6 o := fun o => congrFun (hF5.1 6 (by decide)) o
      have z8_S27 : ∀ o, S27.1 8 o = Sl55.1 8 o := fun o => congrFun (hF5.1 8 (by decide)) o
      have z9_S27 : ∀ o, S27.1 9 o = Sl55.1 9 o := fun o => congrFun (hF5.1 9 (by decide)) o
      have z11_S27 : ∀ o, S27.1 11 o = Sl55.1 11 o := fun o => congrFun (hF5.1 11 (by decide)) o
      have z17_S27 : ∀ o, S27.1 17 o = Sl55.1 17 o := fun o => congrFun (hF5.1 17 (by decide)) o
      have z18_S27 : ∀ o, S27.1 18 o = Sl55.1 18 o := fun o => congrFun (hF5.1 18 (by decide)) o
      have z24_S27 : ∀ o, S27.1 24 o = Sl55.1 24 o := fun o => congrFun (hF5.1 24 (by decide)) o
      have z25_S27 : ∀ o, S27.1 25 o = Sl55.1 25 o := fun o => congrFun (hF5.1 25 (by decide)) o
      have z40_S27 : ∀ o, S27.1 40 o = Sl55.1 40 o := fun o => congrFun (hF5.1 40 (by decide)) o
      have ar35_S27 := KF_ar hF5 (INJ_x nSl55 (by decide) hI) (by decide) (by decide) (f := 35) (by decide)
      have ar36_S27 := KF_ar hF5 (INJ_x nSl55 (by decide) hI) (by decide) (by decide) (f := 36) (by decide)
      have ar43_S27 := KF_ar hF5 (INJ_x nSl55 (by decide) hI) (by decide) (by decide) (f := 43) (by decide)
      have ar30_S27 := KF_ar hF5 (INJ_x nSl55 (by decide) hI) (by decide) (by decide) (f := 30) (by decide)
      have ar44_S27 := KF_ar hF5 (INJ_x nSl55 (by decide) hI) (by decide) (by decide) (f := 44) (by decide)
      have ar45_S27 := KF_ar hF5 (INJ_x nSl55 (by decide) hI) (by decide) (by decide) (f := 45) (by decide)
      have ar37_S27 := KF_ar hF5 (INJ_x nSl55 (by decide) hI) (by decide) (by decide) (f := 37) (by decide)
      have ar17_S27 := KF_ar hF5 (INJ_x nSl55 (by decide) hI) (by decide) (by decide) (f := 17) (by decide)
      have ar64_S27 := KF_ar hF5 (INJ_x nSl55 (by decide) hI) (by decide) (by decide) (f := 64) (by decide)
      have ar65_S27 := KF_ar hF5 (INJ_x nSl55 (by decide) hI) (by decide) (by decide) (f := 65) (by decide)
      have r15_S27 : S27.2.1 15 t0 = some pg := (congrFun (hF5.2.1 15 (by decide)) t0).trans r15_Sl55
      have r16_S27 : S27.2.1 16 t0 = some sc := (congrFun (hF5.2.1 16 (by decide)) t0).trans r16_Sl55
      have VS27 := vw_k (t0 := t0) (tk := tk) (pg := pg) (sc := sc) hF5 (INJ_x nSl55 (by decide) hI) (by decide) (by decide)
      clear hF5
      intro z28 ez28
      exact ⟨fun q => WFP_of hR e17 e24 e25 pS27 q, RB_v pS27.1 hR.1.2, (by rw [ez28]; rfl), fun q => STI_of hR pS27 q⟩
    · refine kmT_X3_wrong _ _ _ _ _ (fun S26 hF6 pS26 => ?_) (sr_X3_wrong (tk := tk) (pg := pg) (sc := sc) _ _ (INJ_x nSl55 (by decide) hI) (ob_h nSl55 (by decide) hO14_t0) r15_Sl55 r16_Sl55 hR.1 ((by decide)))
      have nS26 : FX [15, 16] S S26 := FX_k hF6 (by decide) nSl55
      have z8_S26 : ∀ o, S26.1 8 o = Sl55.1 8 o := fun o => congrFun (hF6.1 8 (by decide)) o
      have z9_S26 : ∀ o, S26.1 9 o = Sl55.1 9 o := fun o => congrFun (hF6.1 9 (by decide)) o
      have z11_S26 : ∀ o, S26.1 11 o = Sl55.1 11 o := fun o => congrFun (hF6.1 11 (by decide)) o
      have z17_S26 : ∀ o, S26.1 17 o = Sl55.1 17 o := fun o => congrFun (hF6.1 17 (by decide)) o
      have z18_S26 : ∀ o, S26.1 18 o = Sl55.1 18 o := fun o => congrFun (hF6.1 18 (by decide)) o
      have z24_S26 : ∀ o, S26.1 24 o = Sl55.1 24 o := fun o => congrFun (hF6.1 24 (by decide)) o
      have z25_S26 : ∀ o, S26.1 25 o = Sl55.1 25 o := fun o => congrFun (hF6.1 25 (by decide)) o
      have z40_S26 : ∀ o, S26.1 40 o = Sl55.1 40 o := fun o => congrFun (hF6.1 40 (by decide)) o
      have ar35_S26 := KF_ar hF6 (INJ_x nSl55 (by decide) hI) (by decide) (by decide) (f := 35) (by decide)
      have ar36_S26 := KF_ar hF6 (INJ_x nSl55 (by decide) hI) (by decide) (by decide) (f := 36) (by decide)
      have ar43_S26 := KF_ar hF6 (INJ_x nSl55 (by decide) hI) (by decide) (by decide) (f := 43) (by decide)
      have ar30_S26 := KF_ar hF6 (INJ_x nSl55 (by decide) hI) (by decide) (by decide) (f := 30) (by decide)
      have ar44_S26 := KF_ar hF6 (INJ_x nSl55 (by decide) hI) (by decide) (by decide) (f := 44) (by decide)
      have ar45_S26 := KF_ar hF6 (INJ_x nSl55 (by decide) hI) (by decide) (by decide) (f := 45) (by decide)
      have ar37_S26 := KF_ar hF6 (INJ_x nSl55 (by decide) hI) (by decide) (by decide) (f := 37) (by decide)
      have ar17_S26 := KF_ar hF6 (INJ_x nSl55 (by decide) hI) (by decide) (by decide) (f := 17) (by decide)
      have ar64_S26 := KF_ar hF6 (INJ_x nSl55 (by decide) hI) (by decide) (by decide) (f := 64) (by decide)
      have ar65_S26 := KF_ar hF6 (INJ_x nSl55 (by decide) hI) (by decide) (by decide) (f := 65) (by decide)
      have r15_S26 : S26.2.1 15 t0 = some pg := (congrFun (hF6.2.1 15 (by decide)) t0).trans r15_Sl55
      have r16_S26 : S26.2.1 16 t0 = some sc := (congrFun (hF6.2.1 16 (by decide)) t0).trans r16_Sl55
      have VS26 := vw_k (t0 := t0) (tk := tk) (pg := pg) (sc := sc) hF6 (INJ_x nSl55 (by decide) hI) (by decide) (by decide)
      clear hF6
      have xS26 : RDX (vw t0 tk pg sc S14) (vw t0 tk pg sc S26) := RDX_w hR pS26.1 pS26.2
      unfold wT_X3_read_105
      refine kmT_X3_findChildren _ _ _ _ (fun S27 hF7 pS27 => ?_) (sk_X3_findChildren (tk := tk) (pg := pg) (sc := sc) _ (INJ_x nS26 (by decide) hI) (ob_h nS26 (by decide) hO14_t0) r15_S26 r16_S26 (pS26.1.1 hR.1))
      have nS27 : FX [15, 16] S S27 := FX_k hF7 (by decide) nS26
      have z6_S27 : ∀ o, S27.1 6 o = S26.1 6 o := fun o => congrFun (hF7.1 6 (by decide)) o
      have z8_S27 : ∀ o, S27.1 8 o = S26.1 8 o := fun o => congrFun (hF7.1 8 (by decide)) o
      have z9_S27 : ∀ o, S27.1 9 o = S26.1 9 o := fun o => congrFun (hF7.1 9 (by decide)) o
      have z11_S27 : ∀ o, S27.1 11 o = S26.1 11 o := fun o => congrFun (hF7.1 11 (by decide)) o
      have z17_S27 : ∀ o, S27.1 17 o = S26.1 17 o := fun o => congrFun (hF7.1 17 (by decide)) o
      have z18_S27 : ∀ o, S27.1 18 o = S26.1 18 o := fun o => congrFun (hF7.1 18 (by decide)) o
      have z24_S27 : ∀ o, S27.1 24 o = S26.1 24 o := fun o => congrFun (hF7.1 24 (by decide)) o
      have z25_S27 : ∀ o, S27.1 25 o = S26.1 25 o := fun o => congrFun (hF7.1 25 (by decide)) o
      have z40_S27 : ∀ o, S27.1 40 o = S26.1 40 o := fun o => congrFun (hF7.1 40 (by decide)) o
      have ar35_S27 := KF_ar hF7 (INJ_x nS26 (by decide) hI) (by decide) (by decide) (f := 35) (by decide)
      have ar36_S27 := KF_ar hF7 (INJ_x nS26 (by decide) hI) (by decide) (by decide) (f := 36) (by decide)
      have ar43_S27 := KF_ar hF7 (INJ_x nS26 (by decide) hI) (by decide) (by decide) (f := 43) (by decide)
      have ar30_S27 := KF_ar hF7 (INJ_x nS26 (by decide) hI) (by decide) (by decide) (f := 30) (by decide)
      have ar44_S27 := KF_ar hF7 (INJ_x nS26 (by decide) hI) (by decide) (by decide) (f := 44) (by decide)
      have ar45_S27 := KF_ar hF7 (INJ_x nS26 (by decide) hI) (by decide) (by decide) (f := 45) (by decide)
      have ar37_S27 := KF_ar hF7 (INJ_x nS26 (by decide) hI) (by decide) (by decide) (f := 37) (by decide)
      have ar17_S27 := KF_ar hF7 (INJ_x nS26 (by decide) hI) (by decide) (by decide) (f := 17) (by decide)
      have ar64_S27 := KF_ar hF7 (INJ_x nS26 (by decide) hI) (by decide) (by decide) (f := 64) (by decide)
      have ar65_S27 := KF_ar hF7 (INJ_x nS26 (by decide) hI) (by decide) (by decide) (f := 65) (by decide)
      have r15_S27 : S27.2.1 15 t0 = some pg := (congrFun (hF7.2.1 15 (by decide)) t0).trans r15_S26
      have r16_S27 : S27.2.1 16 t0 = some sc := (congrFun (hF7.2.1 16 (by decide)) t0).trans r16_S26
      have VS27 := vw_k (t0 := t0) (tk := tk) (pg := pg) (sc := sc) hF7 (INJ_x nS26 (by decide) hI) (by decide) (by decide)
      clear hF7
      intro z28 ez28
      exact ⟨fun q => WFP_of xS26 e17 e24 e25 pS27 q, RB_v pS27.1 (pS26.1.1 hR.1).2, (by rw [ez28]; rfl), fun q => STI_of xS26 pS27 q⟩
  · refine kmT_X3_kind _ _ _ _ (fun S16 r16 hF8 pS16 => ?_) (sr_X3_kind (tk := tk) (pg := pg) (sc := sc) _ (INJ_x nSl55 (by decide) hI) (ob_h nSl55 (by decide) hO14_t0) r15_Sl55 r16_Sl55 hR.1)
    obtain ⟨rfl, pS16⟩ := pS16
    clear hF8
    refine ⟨fun c9 => ?_, fun c9 => ?_⟩
    · unfold wT_X3_read_93
      refine kmT_X3_kind _ _ _ _ (fun S24 r24 hF10 pS24 => ?_) (sr_X3_kind (tk := tk) (pg := pg) (sc := sc) _ (INJ_x nSl55 (by decide) hI) (ob_h nSl55 (by decide) hO14_t0) r15_Sl55 r16_Sl55 hR.1)
      obtain ⟨rfl, pS24⟩ := pS24
      clear hF10
      refine ⟨fun c11 => ?_, fun c11 => ?_⟩
      · unfold wT_X3_read_105
        refine kmT_X3_findChildren _ _ _ _ (fun S27 hF12 pS27 => ?_) (sk_X3_findChildren (tk := tk) (pg := pg) (sc := sc) _ (INJ_x nSl55 (by decide) hI) (ob_h nSl55 (by decide) hO14_t0) r15_Sl55 r16_Sl55 hR.1)
        have nS27 : FX [15, 16] S S27 := FX_k hF12 (by decide) nSl55
        have z6_S27 : ∀ o, S27.1 6 o = Sl55.1 6 o := fun o => congrFun (hF12.1 6 (by decide)) o
        have z8_S27 : ∀ o, S27.1 8 o = Sl55.1 8 o := fun o => congrFun (hF12.1 8 (by decide)) o
        have z9_S27 : ∀ o, S27.1 9 o = Sl55.1 9 o := fun o => congrFun (hF12.1 9 (by decide)) o
        have z11_S27 : ∀ o, S27.1 11 o = Sl55.1 11 o := fun o => congrFun (hF12.1 11 (by decide)) o
        have z17_S27 : ∀ o, S27.1 17 o = Sl55.1 17 o := fun o => congrFun (hF12.1 17 (by decide)) o
        have z18_S27 : ∀ o, S27.1 18 o = Sl55.1 18 o := fun o => congrFun (hF12.1 18 (by decide)) o
        have z24_S27 : ∀ o, S27.1 24 o = Sl55.1 24 o := fun o => congrFun (hF12.1 24 (by decide)) o
        have z25_S27 : ∀ o, S27.1 25 o = Sl55.1 25 o := fun o => congrFun (hF12.1 25 (by decide)) o
        have z40_S27 : ∀ o, S27.1 40 o = Sl55.1 40 o := fun o => congrFun (hF12.1 40 (by decide)) o
        have ar35_S27 := KF_ar hF12 (INJ_x nSl55 (by decide) hI) (by decide) (by decide) (f := 35) (by decide)
        have ar36_S27 := KF_ar hF12 (INJ_x nSl55 (by decide) hI) (by decide) (by decide) (f := 36) (by decide)
        have ar43_S27 := KF_ar hF12 (INJ_x nSl55 (by decide) hI) (by decide) (by decide) (f := 43) (by decide)
        have ar30_S27 := KF_ar hF12 (INJ_x nSl55 (by decide) hI) (by decide) (by decide) (f := 30) (by decide)
        have ar44_S27 := KF_ar hF12 (INJ_x nSl55 (by decide) hI) (by decide) (by decide) (f := 44) (by decide)
        have ar45_S27 := KF_ar hF12 (INJ_x nSl55 (by decide) hI) (by decide) (by decide) (f := 45) (by decide)
        have ar37_S27 := KF_ar hF12 (INJ_x nSl55 (by decide) hI) (by decide) (by decide) (f := 37) (by decide)
        have ar17_S27 := KF_ar hF12 (INJ_x nSl55 (by decide) hI) (by decide) (by decide) (f := 17) (by decide)
        have ar64_S27 := KF_ar hF12 (INJ_x nSl55 (by decide) hI) (by decide) (by decide) (f := 64) (by decide)
        have ar65_S27 := KF_ar hF12 (INJ_x nSl55 (by decide) hI) (by decide) (by decide) (f := 65) (by decide)
        have r15_S27 : S27.2.1 15 t0 = some pg := (congrFun (hF12.2.1 15 (by decide)) t0).trans r15_Sl55
        have r16_S27 : S27.2.1 16 t0 = some sc := (congrFun (hF12.2.1 16 (by decide)) t0).trans r16_Sl55
        have VS27 := vw_k (t0 := t0) (tk := tk) (pg := pg) (sc := sc) hF12 (INJ_x nSl55 (by decide) hI) (by decide) (by decide)
        clear hF12
        intro z28 ez28
        exact ⟨fun q => WFP_of hR e17 e24 e25 pS27 q, RB_v pS27.1 hR.1.2, (by rw [ez28]; rfl), fun q => STI_of hR pS27 q⟩
      · refine kmT_X3_wrong _ _ _ _ _ (fun S26 hF13 pS26 => ?_) (sr_X3_wrong (tk := tk) (pg := pg) (sc := sc) _ _ (INJ_x nSl55 (by decide) hI) (ob_h nSl55 (by decide) hO14_t0) r15_Sl55 r16_Sl55 hR.1 ((by decide)))
        have nS26 : FX [15, 16] S S26 := FX_k hF13 (by decide) nSl55
        have z8_S26 : ∀ o, S26.1 8 o = Sl55.1 8 o := fun o => congrFun (hF13.1 8 (by decide)) o
        have z9_S26 : ∀ o, S26.1 9 o = Sl55.1 9 o := fun o => congrFun (hF13.1 9 (by decide)) o
        have z11_S26 : ∀ o, S26.1 11 o = Sl55.1 11 o := fun o => congrFun (hF13.1 11 (by decide)) o
        have z17_S26 : ∀ o, S26.1 17 o = Sl55.1 17 o := fun o => congrFun (hF13.1 17 (by decide)) o
        have z18_S26 : ∀ o, S26.1 18 o = Sl55.1 18 o := fun o => congrFun (hF13.1 18 (by decide)) o
        have z24_S26 : ∀ o, S26.1 24 o = Sl55.1 24 o := fun o => congrFun (hF13.1 24 (by decide)) o
        have z25_S26 : ∀ o, S26.1 25 o = Sl55.1 25 o := fun o => congrFun (hF13.1 25 (by decide)) o
        have z40_S26 : ∀ o, S26.1 40 o = Sl55.1 40 o := fun o => congrFun (hF13.1 40 (by decide)) o
        have ar35_S26 := KF_ar hF13 (INJ_x nSl55 (by decide) hI) (by decide) (by decide) (f := 35) (by decide)
        have ar36_S26 := KF_ar hF13 (INJ_x nSl55 (by decide) hI) (by decide) (by decide) (f := 36) (by decide)
        have ar43_S26 := KF_ar hF13 (INJ_x nSl55 (by decide) hI) (by decide) (by decide) (f := 43) (by decide)
        have ar30_S26 := KF_ar hF13 (INJ_x nSl55 (by decide) hI) (by decide) (by decide) (f := 30) (by decide)
        have ar44_S26 := KF_ar hF13 (INJ_x nSl55 (by decide) hI) (by decide) (by decide) (f := 44) (by decide)
        have ar45_S26 := KF_ar hF13 (INJ_x nSl55 (by decide) hI) (by decide) (by decide) (f := 45) (by decide)
        have ar37_S26 := KF_ar hF13 (INJ_x nSl55 (by decide) hI) (by decide) (by decide) (f := 37) (by decide)
        have ar17_S26 := KF_ar hF13 (INJ_x nSl55 (by decide) hI) (by decide) (by decide) (f := 17) (by decide)
        have ar64_S26 := KF_ar hF13 (INJ_x nSl55 (by decide) hI) (by decide) (by decide) (f := 64) (by decide)
        have ar65_S26 := KF_ar hF13 (INJ_x nSl55 (by decide) hI) (by decide) (by decide) (f := 65) (by decide)
        have r15_S26 : S26.2.1 15 t0 = some pg := (congrFun (hF13.2.1 15 (by decide)) t0).trans r15_Sl55
        have r16_S26 : S26.2.1 16 t0 = some sc := (congrFun (hF13.2.1 16 (by decide)) t0).trans r16_Sl55
        have VS26 := vw_k (t0 := t0) (tk := tk) (pg := pg) (sc := sc) hF13 (INJ_x nSl55 (by decide) hI) (by decide) (by decide)
        clear hF13
        have xS26 : RDX (vw t0 tk pg sc S14) (vw t0 tk pg sc S26) := RDX_w hR pS26.1 pS26.2
        unfold wT_X3_read_105
        refine kmT_X3_findChildren _ _ _ _ (fun S27 hF14 pS27 => ?_) (sk_X3_findChildren (tk := tk) (pg := pg) (sc := sc) _ (INJ_x nS26 (by decide) hI) (ob_h nS26 (by decide) hO14_t0) r15_S26 r16_S26 (pS26.1.1 hR.1))
        have nS27 : FX [15, 16] S S27 := FX_k hF14 (by decide) nS26
        have z6_S27 : ∀ o, S27.1 6 o = S26.1 6 o := fun o => congrFun (hF14.1 6 (by decide)) o
        have z8_S27 : ∀ o, S27.1 8 o = S26.1 8 o := fun o => congrFun (hF14.1 8 (by decide)) o
        have z9_S27 : ∀ o, S27.1 9 o = S26.1 9 o := fun o => congrFun (hF14.1 9 (by decide)) o
        have z11_S27 : ∀ o, S27.1 11 o = S26.1 11 o := fun o => congrFun (hF14.1 11 (by decide)) o
        have z17_S27 : ∀ o, S27.1 17 o = S26.1 17 o := fun o => congrFun (hF14.1 17 (by decide)) o
        have z18_S27 : ∀ o, S27.1 18 o = S26.1 18 o := fun o => congrFun (hF14.1 18 (by decide)) o
        have z24_S27 : ∀ o, S27.1 24 o = S26.1 24 o := fun o => congrFun (hF14.1 24 (by decide)) o
        have z25_S27 : ∀ o, S27.1 25 o = S26.1 25 o := fun o => congrFun (hF14.1 25 (by decide)) o
        have z40_S27 : ∀ o, S27.1 40 o = S26.1 40 o := fun o => congrFun (hF14.1 40 (by decide)) o
        have ar35_S27 := KF_ar hF14 (INJ_x nS26 (by decide) hI) (by decide) (by decide) (f := 35) (by decide)
        have ar36_S27 := KF_ar hF14 (INJ_x nS26 (by decide) hI) (by decide) (by decide) (f := 36) (by decide)
        have ar43_S27 := KF_ar hF14 (INJ_x nS26 (by decide) hI) (by decide) (by decide) (f := 43) (by decide)
        have ar30_S27 := KF_ar hF14 (INJ_x nS26 (by decide) hI) (by decide) (by decide) (f := 30) (by decide)
        have ar44_S27 := KF_ar hF14 (INJ_x nS26 (by decide) hI) (by decide) (by decide) (f := 44) (by decide)
        have ar45_S27 := KF_ar hF14 (INJ_x nS26 (by decide) hI) (by decide) (by decide) (f := 45) (by decide)
        have ar37_S27 := KF_ar hF14 (INJ_x nS26 (by decide) hI) (by decide) (by decide) (f := 37) (by decide)
        have ar17_S27 := KF_ar hF14 (INJ_x nS26 (by decide) hI) (by decide) (by decide) (f := 17) (by decide)
        have ar64_S27 := KF_ar hF14 (INJ_x nS26 (by decide) hI) (by decide) (by decide) (f := 64) (by decide)
        have ar65_S27 := KF_ar hF14 (INJ_x nS26 (by decide) hI) (by decide) (by decide) (f := 65) (by decide)
        have r15_S27 : S27.2.1 15 t0 = some pg := (congrFun (hF14.2.1 15 (by decide)) t0).trans r15_S26
        have r16_S27 : S27.2.1 16 t0 = some sc := (congrFun (hF14.2.1 16 (by decide)) t0).trans r16_S26
        have VS27 := vw_k (t0 := t0) (tk := tk) (pg := pg) (sc := sc) hF14 (INJ_x nS26 (by decide) hI) (by decide) (by decide)
        clear hF14
        intro z28 ez28
        exact ⟨fun q => WFP_of xS26 e17 e24 e25 pS27 q, RB_v pS27.1 (pS26.1.1 hR.1).2, (by rw [ez28]; rfl), fun q => STI_of xS26 pS27 q⟩
    · refine kmT_X3_header _ _ _ _ (fun S18 hF15 pS18 => ?_) (sk_X3_header (tk := tk) (pg := pg) (sc := sc) _ (INJ_x nSl55 (by decide) hI) (ob_h nSl55 (by decide) hO14_t0) r15_Sl55 r16_Sl55 hR.1 (RDX_b hR e17 e6) hR.2.2.2.1 ((by unfold NZ; rw [← pS16, show r16 = 200 by assumption]; decide)))
      have nS18 : FX [15, 16] S S18 := FX_k hF15 (by decide) nSl55
      have z8_S18 : ∀ o, S18.1 8 o = Sl55.1 8 o := fun o => congrFun (hF15.1 8 (by decide)) o
      have z9_S18 : ∀ o, S18.1 9 o = Sl55.1 9 o := fun o => congrFun (hF15.1 9 (by decide)) o
      have z11_S18 : ∀ o, S18.1 11 o = Sl55.1 11 o := fun o => congrFun (hF15.1 11 (by decide)) o
      have z17_S18 : ∀ o, S18.1 17 o = Sl55.1 17 o := fun o => congrFun (hF15.1 17 (by decide)) o
      have z24_S18 : ∀ o, S18.1 24 o = Sl55.1 24 o := fun o => congrFun (hF15.1 24 (by decide)) o
      have z25_S18 : ∀ o, S18.1 25 o = Sl55.1 25 o := fun o => congrFun (hF15.1 25 (by decide)) o
      have z40_S18 : ∀ o, S18.1 40 o = Sl55.1 40 o := fun o => congrFun (hF15.1 40 (by decide)) o
      have ar43_S18 := KF_ar hF15 (INJ_x nSl55 (by decide) hI) (by decide) (by decide) (f := 43) (by decide)
      have ar30_S18 := KF_ar hF15 (INJ_x nSl55 (by decide) hI) (by decide) (by decide) (f := 30) (by decide)
      have ar44_S18 := KF_ar hF15 (INJ_x nSl55 (by decide) hI) (by decide) (by decide) (f := 44) (by decide)
      have ar45_S18 := KF_ar hF15 (INJ_x nSl55 (by decide) hI) (by decide) (by decide) (f := 45) (by decide)
      have ar37_S18 := KF_ar hF15 (INJ_x nSl55 (by decide) hI) (by decide) (by decide) (f := 37) (by decide)
      have ar17_S18 := KF_ar hF15 (INJ_x nSl55 (by decide) hI) (by decide) (by decide) (f := 17) (by decide)
      have ar64_S18 := KF_ar hF15 (INJ_x nSl55 (by decide) hI) (by decide) (by decide) (f := 64) (by decide)
      have ar65_S18 := KF_ar hF15 (INJ_x nSl55 (by decide) hI) (by decide) (by decide) (f := 65) (by decide)
      have r15_S18 : S18.2.1 15 t0 = some pg := (congrFun (hF15.2.1 15 (by decide)) t0).trans r15_Sl55
      have r16_S18 : S18.2.1 16 t0 = some sc := (congrFun (hF15.2.1 16 (by decide)) t0).trans r16_Sl55
      have VS18 := vw_k (t0 := t0) (tk := tk) (pg := pg) (sc := sc) hF15 (INJ_x nSl55 (by decide) hI) (by decide) (by decide)
      clear hF15
      refine kqT_X3_block _ _ _ _ _ (fun S19 hF16 pS19 => ?_) (sq_X3_block (tk := tk) (pg := pg) (sc := sc) _ _ (INJ_x nS18 (by decide) hI) (ob_h nS18 (by decide) hO14_t0) r15_S18 r16_S18 (HDP_g pS18 hR.1) (HDP_b pS18 (RDX_b hR e17 e6)) (HDP_t pS18 hR.2.2.2.1 (VS18.1 17 (by decide)) (VS18.2 28 (by decide) (by decide))) (LK_m ((VS18.1 9 (by decide)).trans hR.2.2.1)) (fun _ h9 => absurd h9 (by rw [VS18.1 8 (by decide), hR.2.1]; decide)) ((by decide)))
      have nS19 : FX [15, 16] S S19 := FX_k hF16 (by decide) nS18
      have z18_S19 : ∀ o, S19.1 18 o = S18.1 18 o := fun o => congrFun (hF16.1 18 (by decide)) o
      have z40_S19 : ∀ o, S19.1 40 o = S18.1 40 o := fun o => congrFun (hF16.1 40 (by decide)) o
      have ar64_S19 := KF_ar hF16 (INJ_x nS18 (by decide) hI) (by decide) (by decide) (f := 64) (by decide)
      have ar65_S19 := KF_ar hF16 (INJ_x nS18 (by decide) hI) (by decide) (by decide) (f := 65) (by decide)
      have r15_S19 : S19.2.1 15 t0 = some pg := (congrFun (hF16.2.1 15 (by decide)) t0).trans r15_S18
      have r16_S19 : S19.2.1 16 t0 = some sc := (congrFun (hF16.2.1 16 (by decide)) t0).trans r16_S18
      have VS19 := vw_k (t0 := t0) (tk := tk) (pg := pg) (sc := sc) hF16 (INJ_x nS18 (by decide) hI) (by decide) (by decide)
      clear hF16
      intro z20 ez20
      refine ⟨pg, by (try clear hk55); grind (gen := 20) (ematch := 20) [k_ii, k_ir, k_ri, k_rr, k_ai, k_ar, k_li, k_lr, k_qi, k_qr, ar_ci, ar_cl, ar_cq, la_ci, la_ca, la_cq, qa_ci, qa_ca, qa_cl, tk_link], ?_⟩
      refine kmT_X5_closeRoutine _ _ _ _ (fun S22 hF17 pS22 => ?_) (sr_X5_closeRoutine (x0 := t0) (tk := tk) (sc := sc) _ (INJ_x nS19 (by decide) hI) (pS19.1.1 (HDP_g pS18 hR.1)) (BG_r pS19.1 (HDP_b pS18 (RDX_b hR e17 e6)) (by decide)) pS19.2.1 (pS19.1.2.2.2.1.1.trans ((VS18.1 8 (by decide)).trans hR.2.1)))
      have nS22 : FX [15, 16] S S22 := FX_k hF17 (by decide) nS19
      have z6_S22 : ∀ o, S22.1 6 o = S19.1 6 o := fun o => congrFun (hF17.1 6 (by decide)) o
      have z7_S22 : ∀ o, S22.1 7 o = S19.1 7 o := fun o => congrFun (hF17.1 7 (by decide)) o
      have z8_S22 : ∀ o, S22.1 8 o = S19.1 8 o := fun o => congrFun (hF17.1 8 (by decide)) o
      have z9_S22 : ∀ o, S22.1 9 o = S19.1 9 o := fun o => congrFun (hF17.1 9 (by decide)) o
      have z11_S22 : ∀ o, S22.1 11 o = S19.1 11 o := fun o => congrFun (hF17.1 11 (by decide)) o
      have z18_S22 : ∀ o, S22.1 18 o = S19.1 18 o := fun o => congrFun (hF17.1 18 (by decide)) o
      have z24_S22 : ∀ o, S22.1 24 o = S19.1 24 o := fun o => congrFun (hF17.1 24 (by decide)) o
      have z25_S22 : ∀ o, S22.1 25 o = S19.1 25 o := fun o => congrFun (hF17.1 25 (by decide)) o
      have z40_S22 : ∀ o, S22.1 40 o = S19.1 40 o := fun o => congrFun (hF17.1 40 (by decide)) o
      have ar35_S22 := KF_ar hF17 (INJ_x nS19 (by decide) hI) (by decide) (by decide) (f := 35) (by decide)
      have ar36_S22 := KF_ar hF17 (INJ_x nS19 (by decide) hI) (by decide) (by decide) (f := 36) (by decide)
      have ar43_S22 := KF_ar hF17 (INJ_x nS19 (by decide) hI) (by decide) (by decide) (f := 43) (by decide)
      have ar44_S22 := KF_ar hF17 (INJ_x nS19 (by decide) hI) (by decide) (by decide) (f := 44) (by decide)
      have ar45_S22 := KF_ar hF17 (INJ_x nS19 (by decide) hI) (by decide) (by decide) (f := 45) (by decide)
      have ar37_S22 := KF_ar hF17 (INJ_x nS19 (by decide) hI) (by decide) (by decide) (f := 37) (by decide)
      have ar17_S22 := KF_ar hF17 (INJ_x nS19 (by decide) hI) (by decide) (by decide) (f := 17) (by decide)
      have ar64_S22 := KF_ar hF17 (INJ_x nS19 (by decide) hI) (by decide) (by decide) (f := 64) (by decide)
      have ar65_S22 := KF_ar hF17 (INJ_x nS19 (by decide) hI) (by decide) (by decide) (f := 65) (by decide)
      have r15_S22 : S22.2.1 15 t0 = some pg := (congrFun (hF17.2.1 15 (by decide)) t0).trans r15_S19
      have r16_S22 : S22.2.1 16 t0 = some sc := (congrFun (hF17.2.1 16 (by decide)) t0).trans r16_S19
      have VS22 := vw_k (t0 := t0) (tk := tk) (pg := pg) (sc := sc) hF17 (INJ_x nS19 (by decide) hI) (by decide) (by decide)
      clear hF17
      have xS22 : RDX (vw t0 tk pg sc S14) (vw t0 tk pg sc S22) := RDX_s hG14 hR pS18 pS19.1 pS19.2.1 pS22.1 pS22.2 (by decide) e8
      intro z23 ez23
      have hrz23 : -2147483648 ≤ x2.toInt + 1 ∧ x2.toInt + 1 < 2147483648 := by (try clear hk55); grind (gen := 20) (ematch := 20) [k_ii, k_ir, k_ri, k_rr, k_ai, k_ar, k_li, k_lr, k_qi, k_qr, ar_ci, ar_cl, ar_cq, la_ci, la_ca, la_cq, qa_ci, qa_ca, qa_cl, tk_link]
      replace ez23 : z23.toInt = x2.toInt + 1 := w_add ez23 hrz23
      clear hrz23
      exact hk55 _ (by exact ⟨nS22, rfl, xS22, r15_S22, r16_S22, by (try clear hk55); grind (gen := 20) (ematch := 20) [k_ii, k_ir, k_ri, k_rr, k_ai, k_ar, k_li, k_lr, k_qi, k_qr, ar_ci, ar_cl, ar_cq, la_ci, la_ca, la_cq, qa_ci, qa_ca, qa_cl, tk_link]⟩) (by (try clear hk55); grind (gen := 20) (ematch := 20) [k_ii, k_ir, k_ri, k_rr, k_ai, k_ar, k_li, k_lr, k_qi, k_qr, ar_ci, ar_cl, ar_cq, la_ci, la_ca, la_cq, qa_ci, qa_ca, qa_cl, tk_link])
