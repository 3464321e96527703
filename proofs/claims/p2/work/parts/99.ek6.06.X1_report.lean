
set_option maxHeartbeats 400000 in
theorem sk_X1_report {n : Int} {N : Nat → Prop} {LL : Nat → List Nat} {D : Nat → Nat} {ro t9 : Nat} (t0 : Nat) (a0 : Nat) (a1 : Int32) (a2 : Int32) {S : kS} (hI : INJ S) (hO : S.2.1 21 a0 = some t9) (hp : a0 ∈ LL t9) (h1 : a1 ≠ 0) (hN : 0 ≤ (S.1 28 t9).toInt ∧ (S.1 28 t9).toInt < n) (h2 : n ≤ 200) (hL : LNS N LL S none) (hG : AGE n (S.1 5 t0).toInt (ar S 10 t0)) (hc : CH (S.2.1 24) (S.2.1 61 t9) (LL t9)) (hn : (LL t9).Nodup) (hA : ∀ p, p ∈ LL t9 → (∀ q, S.2.1 23 p = some q → q ∈ LL t9 ∧ D p = D q + 1) ∧ (S.2.1 23 p = none → p = ro)) (h10 : ∀ p, p ∈ LL t9 → D p ≤ 10) (hC : ∀ p c, p ∈ LL t9 → S.2.1 22 p = some c → 0 ≤ (S.1 28 c).toInt ∧ (S.1 28 c).toInt < n) : wT_X1_report t0 a0 a1 a2 S (fun S1 => RPF n N LL t0 t9 S S1) := by
  have nS : FX [12, 13, 25, 26, 27] S S := FX_rf
  have hp0 := hp
  unfold wT_X1_report
  have j145 : ∀ (x0 : Nat) (x5 : Int32) (Sx : kS), ((FX [12, 13, 25, 26, 27] S Sx) ∧ (t0 = x0 ∧ 0 ≤ x5.toInt ∧ x5.toInt ≤ 416 ∧ RPF n N LL t0 t9 S Sx)) → wT_X1_report_145 (fun S1 => RPF n N LL t0 t9 S S1) x0 x5 Sx := by
    intro x0 x5 Sx hJ145
    obtain ⟨nSx, hJ145⟩ := hJ145
    unfold wT_X1_report_145
    obtain ⟨rfl, hJ145⟩ := hJ145
    obtain ⟨h50, h51, hf⟩ := hJ145
    refine kmT_X1_turnRound _ _ _ _ _ (fun S31 hF1 pS31 => ?_) (sk_X1_turnRound (n := n) _ _ (INJ_x nSx (by decide) hI) hf.2.1 (⟨h50, by omega⟩))
    have nS31 : FX [12, 13, 25, 26, 27] S S31 := FX_k hF1 (by decide) nSx
    have y5_S31 : S31.1 5 = Sx.1 5 := hF1.1 5 (by decide)
    have y13_S31 : S31.1 13 = Sx.1 13 := hF1.1 13 (by decide)
    have y28_S31 : S31.1 28 = Sx.1 28 := hF1.1 28 (by decide)
    have y30_S31 : S31.1 30 = Sx.1 30 := hF1.1 30 (by decide)
    have y38_S31 : S31.1 38 = Sx.1 38 := hF1.1 38 (by decide)
    have y39_S31 : S31.1 39 = Sx.1 39 := hF1.1 39 (by decide)
    have r12_S31 : S31.2.1 12 = Sx.2.1 12 := hF1.2.1 12 (by decide)
    have r13_S31 : S31.2.1 13 = Sx.2.1 13 := hF1.2.1 13 (by decide)
    have r25_S31 : S31.2.1 25 = Sx.2.1 25 := hF1.2.1 25 (by decide)
    have r26_S31 : S31.2.1 26 = Sx.2.1 26 := hF1.2.1 26 (by decide)
    have r27_S31 : S31.2.1 27 = Sx.2.1 27 := hF1.2.1 27 (by decide)
    clear hF1
    exact RPF_t hf pS31 y5_S31 r12_S31 r13_S31 r25_S31 r26_S31 r27_S31 y13_S31 y38_S31
  intro z1 ez1
  refine ⟨t9, by (try clear j69); (try clear j145); (try clear hk39); grind [k_ii, k_ir, k_ri, k_rr, k_ai, k_ar, k_li, k_lr, k_qi, k_qr, ar_ci, ar_cl, ar_cq, la_ci, la_ca, la_cq, qa_ci, qa_ca, qa_cl, tk_link], ?_⟩
  intro z3 ez3
  intro z4 ez4
  have e4 : z4.toInt = -1 - z3.toInt := w_not ez4 (by have := hN.2; rw [ez3]; have := hN.1; exact ⟨by omega, by omega⟩)
  refine kmT_X1_plan _ _ _ _ _ (fun S5 hF2 pS5 => ?_) (sk_X1_plan (n := n) _ _ (INJ_x nS (by decide) hI) hG (Or.inr ⟨by rw [e4, ez3]; have := hN.1; omega, by rw [e4, ez3]; have := hN.2; omega⟩))
  have nS5 : FX [12, 13, 25, 26, 27] S S5 := FX_k hF2 (by decide) nS
  have y13_S5 : S5.1 13 = S.1 13 := hF2.1 13 (by decide)
  have y28_S5 : S5.1 28 = S.1 28 := hF2.1 28 (by decide)
  have y30_S5 : S5.1 30 = S.1 30 := hF2.1 30 (by decide)
  have y38_S5 : S5.1 38 = S.1 38 := hF2.1 38 (by decide)
  have y39_S5 : S5.1 39 = S.1 39 := hF2.1 39 (by decide)
  have r12_S5 : S5.2.1 12 = S.2.1 12 := hF2.2.1 12 (by decide)
  have r13_S5 : S5.2.1 13 = S.2.1 13 := hF2.2.1 13 (by decide)
  have r25_S5 : S5.2.1 25 = S.2.1 25 := hF2.2.1 25 (by decide)
  have r26_S5 : S5.2.1 26 = S.2.1 26 := hF2.2.1 26 (by decide)
  have r27_S5 : S5.2.1 27 = S.2.1 27 := hF2.2.1 27 (by decide)
  clear hF2
  intro z6 ez6
  intro S7 eS7
  have nS7 : FX [12, 13, 25, 26, 27] S S7 := FX_i eS7 nS5
  intro S8 eS8
  have nS8 : FX [12, 13, 25, 26, 27] S S8 := FX_i eS8 nS7
  have g8 := RPI_0 hp h1 hL pS5.1 r12_S5 r13_S5 r25_S5 r26_S5 r27_S5 y13_S5 y28_S5 y38_S5 eS7 eS8
  have h6 : 0 ≤ z6.toInt ∧ z6.toInt ≤ 416 := by rw [ez6]; exact ⟨pS5.1.1, pS5.1.2.1⟩
  refine it_rule (fun u : Nat × Nat × Int32 × Option Nat × Int32 × kS => (FX [12, 13, 25, 26, 27] S u.2.2.2.2.2) ∧ (t0 = u.1 ∧ t9 = u.2.1 ∧ z6 = u.2.2.1 ∧ RPI n N LL t0 t9 u.2.2.2.1 S u.2.2.2.2.2 ∧ (∀ p, u.2.2.2.1 = some p → p ∈ LL t9 ∧ u.2.2.2.2.2.1 13 p ≠ 0 ∧ (D p : Int) ≤ 10 - u.2.2.2.2.1.toInt) ∧ 0 ≤ u.2.2.2.2.1.toInt ∧ u.2.2.2.2.1.toInt ≤ 11)) (fun u => (11 - u.2.2.2.2.1.toInt).toNat) ?_ (by exact ⟨nS8, rfl, rfl, rfl, g8.1, fun p hp => by rw [← Option.some.inj hp]; exact ⟨hp0, g8.2, by have := h10 a0 hp0; show (D a0 : Int) ≤ 10 - (0 : Int32).toInt; rw [show (0 : Int32).toInt = 0 from rfl]; omega⟩, (show (0 : Int) ≤ (0 : Int32).toInt by decide), (show (0 : Int32).toInt ≤ 11 by decide)⟩)
  rintro ⟨x0, x4, x5, x6, x7, Sl39⟩ k39 hI39 hk39
  replace hI39 : (FX [12, 13, 25, 26, 27] S Sl39) ∧ (t0 = x0 ∧ t9 = x4 ∧ z6 = x5 ∧ RPI n N LL t0 t9 x6 S Sl39 ∧ (∀ p, x6 = some p → p ∈ LL t9 ∧ Sl39.1 13 p ≠ 0 ∧ (D p : Int) ≤ 10 - x7.toInt) ∧ 0 ≤ x7.toInt ∧ x7.toInt ≤ 11) := hI39
  obtain ⟨nSl39, hI39⟩ := hI39
  replace hk39 : ∀ v : Nat × Nat × Int32 × Option Nat × Int32 × kS, (FX [12, 13, 25, 26, 27] S v.2.2.2.2.2) ∧ (t0 = v.1 ∧ t9 = v.2.1 ∧ z6 = v.2.2.1 ∧ RPI n N LL t0 t9 v.2.2.2.1 S v.2.2.2.2.2 ∧ (∀ p, v.2.2.2.1 = some p → p ∈ LL t9 ∧ v.2.2.2.2.2.1 13 p ≠ 0 ∧ (D p : Int) ≤ 10 - v.2.2.2.2.1.toInt) ∧ 0 ≤ v.2.2.2.2.1.toInt ∧ v.2.2.2.2.1.toInt ≤ 11) → (11 - v.2.2.2.2.1.toInt).toNat < (11 - x7.toInt).toNat → k39 v := hk39
  show wT_X1_report_39 _ k39 x0 x4 x5 x6 x7 Sl39
  unfold wT_X1_report_39
  obtain ⟨rfl, hI39⟩ := hI39
  obtain ⟨rfl, hI39⟩ := hI39
  obtain ⟨rfl, hI39⟩ := hI39
  obtain ⟨hr9, hx6, h70, h71⟩ := hI39
  obtain ⟨i7, hi7⟩ : ∃ i, i = x7 := ⟨_, rfl⟩
  have j69 : ∀ (x0 : Nat) (x4 : Nat) (x5 : Int32) (x6 : Nat) (x7 : Int32) (Sx : kS), ((FX [12, 13, 25, 26, 27] S Sx) ∧ (t0 = x0 ∧ t9 = x4 ∧ z6 = x5 ∧ i7 = x7 ∧ RPI n N LL t0 t9 none S Sx ∧ x6 ∈ LL t9 ∧ Sx.1 13 x6 ≠ 0 ∧ (D x6 : Int) ≤ 10 - i7.toInt)) → wT_X1_report_69 (fun S1 => RPF n N LL t0 t9 S S1) k39 x0 x4 x5 x6 x7 Sx := by
    intro x0 x4 x5 x6 x7 Sx hJ69
    obtain ⟨nSx, hJ69⟩ := hJ69
    unfold wT_X1_report_69
    obtain ⟨rfl, hJ69⟩ := hJ69
    obtain ⟨rfl, hJ69⟩ := hJ69
    obtain ⟨rfl, hJ69⟩ := hJ69
    obtain ⟨rfl, hJ69⟩ := hJ69
    obtain ⟨hr69, m6, s6, d6⟩ := hJ69
    refine kmT_X1_drop _ _ _ _ _ _ (fun S16 hF3 pS16 => ?_) (sk_X1_drop (n := n) (N := N) (LL := LL) (D := D) (ro := ro) _ _ _ (INJ_x nSx (by decide) hI) hr69.1 hr69.2.1 (by rw [nSx 24 (by decide), nSx 61 (by decide)]; exact hc) hn (by rw [nSx 23 (by decide)]; exact hA) (fun p c hp9 hc9 => by rw [hr69.2.2.2.1 c]; exact hC p c hp9 (by rw [← nSx 22 (by decide)]; exact hc9)))
    have nS16 : FX [12, 13, 25, 26, 27] S S16 := FX_k hF3 (by decide) nSx
    have y28_S16 : S16.1 28 = Sx.1 28 := hF3.1 28 (by decide)
    have y30_S16 : S16.1 30 = Sx.1 30 := hF3.1 30 (by decide)
    have y38_S16 : S16.1 38 = Sx.1 38 := hF3.1 38 (by decide)
    have y39_S16 : S16.1 39 = Sx.1 39 := hF3.1 39 (by decide)
    clear hF3
    have g16 := RPI_d hr69 pS16 y38_S16
    have e16 : S16.2.1 23 = S.2.1 23 := nS16 23 (by decide)
    have s16 : S16.1 13 x6 ≠ 0 := STM_n pS16.2.2.2.1 s6
    intro z17 ez17
    refine ⟨fun c4 => ?_, fun q18 c4 => ?_⟩
    · intro z19 ez19
      have ro6 : x6 = ro := (hA x6 m6).2 (by rw [← e16]; exact ez17.symm.trans c4)
      have all6 : ∀ p, p ∈ LL t9 → S16.1 13 p ≠ 0 := pS16.2.2.2.2.1 (Or.inr (by rw [← ro6]; exact s6))
      intro S20 eS20
      have nS20 : FX [12, 13, 25, 26, 27] S S20 := FX_i eS20 nS16
      intro z21 ez21
      intro S22 eS22
      have nS22 : FX [12, 13, 25, 26, 27] S S22 := FX_i eS22 nS20
      exact j145 _ _ _ (by exact ⟨nS22, rfl, h6.1, h6.2, RPF_o g16 (by rw [ez19]; exact s16) all6 eS20 eS22⟩)
    · intro z23 ez23
      have m18 : q18 ∈ LL t9 ∧ D x6 = D q18 + 1 := (hA x6 m6).1 q18 (by rw [← e16]; exact ez17.symm.trans c4)
      intro z24 ez24
      intro z25 ez25
      refine ⟨q18, by (try clear j69); (try clear j145); (try clear hk39); grind [k_ii, k_ir, k_ri, k_rr, k_ai, k_ar, k_li, k_lr, k_qi, k_qr, ar_ci, ar_cl, ar_cq, la_ci, la_ca, la_cq, qa_ci, qa_ca, qa_cl, tk_link], ?_⟩
      refine kmT_X4_hears _ _ _ _ _ _ (fun S27 r27 hF5 pS27 => ?_) (sk_X4_hears _ _ _ (INJ_x nS16 (by decide) hI) (by rw [ez24]; exact s16))
      have nS27 : FX [12, 13, 25, 26, 27] S S27 := FX_k hF5 (by decide) nS16
      have ar10_S27 := KF_ar hF5 (INJ_x nS16 (by decide) hI) (by decide) (by decide) (f := 10) (by decide)
      have y5_S27 : S27.1 5 = S16.1 5 := hF5.1 5 (by decide)
      have y28_S27 : S27.1 28 = S16.1 28 := hF5.1 28 (by decide)
      have y30_S27 : S27.1 30 = S16.1 30 := hF5.1 30 (by decide)
      have y38_S27 : S27.1 38 = S16.1 38 := hF5.1 38 (by decide)
      have y39_S27 : S27.1 39 = S16.1 39 := hF5.1 39 (by decide)
      have r12_S27 : S27.2.1 12 = S16.2.1 12 := hF5.2.1 12 (by decide)
      have r13_S27 : S27.2.1 13 = S16.2.1 13 := hF5.2.1 13 (by decide)
      have r25_S27 : S27.2.1 25 = S16.2.1 25 := hF5.2.1 25 (by decide)
      have r26_S27 : S27.2.1 26 = S16.2.1 26 := hF5.2.1 26 (by decide)
      have r27_S27 : S27.2.1 27 = S16.2.1 27 := hF5.2.1 27 (by decide)
      clear hF5
      refine ⟨fun c6 => ?_, fun c6 => ?_⟩
      · unfold wT_X1_report_137
        intro z30 ez30
        have hrz30 : -2147483648 ≤ i7.toInt + 1 ∧ i7.toInt + 1 < 2147483648 := by (try clear j69); (try clear j145); (try clear hk39); grind [k_ii, k_ir, k_ri, k_rr, k_ai, k_ar, k_li, k_lr, k_qi, k_qr, ar_ci, ar_cl, ar_cq, la_ci, la_ca, la_cq, qa_ci, qa_ca, qa_cl, tk_link]
        replace ez30 : z30.toInt = i7.toInt + 1 := w_add ez30 hrz30
        clear hrz30
        have w27 : S27.1 13 q18 = S16.1 13 q18 := by (try clear j69); (try clear j145); (try clear hk39); grind [k_ii, k_ir, k_ri, k_rr, k_ai, k_ar, k_li, k_lr, k_qi, k_qr, ar_ci, ar_cl, ar_cq, la_ci, la_ca, la_cq, qa_ci, qa_ca, qa_cl, tk_link]
        exact hk39 _ (by exact ⟨nS27, rfl, rfl, rfl, RPI_g g16 pS27.2.2 w27 y5_S27 r12_S27 r13_S27 r25_S27 r26_S27 r27_S27 y28_S27 y38_S27 (fun j => ar10_S27 t0 j), fun p hp => (by cases hp), (by show 0 ≤ z30.toInt; (try clear j69); (try clear j145); (try clear hk39); grind [k_ii, k_ir, k_ri, k_rr, k_ai, k_ar, k_li, k_lr, k_qi, k_qr, ar_ci, ar_cl, ar_cq, la_ci, la_ca, la_cq, qa_ci, qa_ca, qa_cl, tk_link]), (by show z30.toInt ≤ 11; (try clear j69); (try clear j145); (try clear hk39); grind [k_ii, k_ir, k_ri, k_rr, k_ai, k_ar, k_li, k_lr, k_qi, k_qr, ar_ci, ar_cl, ar_cq, la_ci, la_ca, la_cq, qa_ci, qa_ca, qa_cl, tk_link])⟩) (by show (11 - z30.toInt).toNat < _; (try clear j69); (try clear j145); (try clear hk39); grind [k_ii, k_ir, k_ri, k_rr, k_ai, k_ar, k_li, k_lr, k_qi, k_qr, ar_ci, ar_cl, ar_cq, la_ci, la_ca, la_cq, qa_ci, qa_ca, qa_cl, tk_link])
      · intro z29 ez29
        unfold wT_X1_report_137
        intro z30 ez30
        have hrz30 : -2147483648 ≤ i7.toInt + 1 ∧ i7.toInt + 1 < 2147483648 := by (try clear j69); (try clear j145); (try clear hk39); grind [k_ii, k_ir, k_ri, k_rr, k_ai, k_ar, k_li, k_lr, k_qi, k_qr, ar_ci, ar_cl, ar_cq, la_ci, la_ca, la_cq, qa_ci, qa_ca, qa_cl, tk_link]
        replace ez30 : z30.toInt = i7.toInt + 1 := w_add ez30 hrz30
        clear hrz30
        have e29 : z29 = some q18 := ez29.trans ((congrFun (nS27 23 (by decide)) x6).trans ((congrFun e16 x6).symm.trans (ez17.symm.trans c4)))
        have w27 : S27.1 13 q18 ≠ 0 := by (try clear j69); (try clear j145); (try clear hk39); grind [k_ii, k_ir, k_ri, k_rr, k_ai, k_ar, k_li, k_lr, k_qi, k_qr, ar_ci, ar_cl, ar_cq, la_ci, la_ca, la_cq, qa_ci, qa_ca, qa_cl, tk_link]
        exact hk39 _ (by exact ⟨nS27, rfl, rfl, rfl, by rw [e29]; exact RPI_h g16 m18.1 pS27.2.2 (Or.inr w27) y5_S27 r12_S27 r13_S27 r25_S27 r26_S27 r27_S27 y28_S27 y38_S27 (fun j => ar10_S27 t0 j), fun p hp => by rw [e29] at hp; rw [← Option.some.inj hp]; exact ⟨m18.1, w27, by have := m18.2; show (D q18 : Int) ≤ 10 - z30.toInt; omega⟩, (by show 0 ≤ z30.toInt; (try clear j69); (try clear j145); (try clear hk39); grind [k_ii, k_ir, k_ri, k_rr, k_ai, k_ar, k_li, k_lr, k_qi, k_qr, ar_ci, ar_cl, ar_cq, la_ci, la_ca, la_cq, qa_ci, qa_ca, qa_cl, tk_link]), (by show z30.toInt ≤ 11; (try clear j69); (try clear j145); (try clear hk39); grind [k_ii, k_ir, k_ri, k_rr, k_ai, k_ar, k_li, k_lr, k_qi, k_qr, ar_ci, ar_cl, ar_cq, la_ci, la_ca, la_cq, qa_ci, qa_ca, qa_cl, tk_link])⟩) (by show (11 - z30.toInt).toNat < _; (try clear j69); (try clear j145); (try clear hk39); grind [k_ii, k_ir, k_ri, k_rr, k_ai, k_ar, k_li, k_lr, k_qi, k_qr, ar_ci, ar_cl, ar_cq, la_ci, la_ca, la_cq, qa_ci, qa_ca, qa_cl, tk_link])
  refine ⟨fun c7 => ?_, fun c7 => ?_⟩
  · exact j145 _ _ _ (by exact ⟨nSl39, rfl, h6.1, h6.2, RPI_F (by rw [← on_none (x := x6) (fun p hp9 => by have h9 := (hx6 p hp9).2.2; have h8 : 11 ≤ x7.toInt := (by (try clear j69); (try clear j145); (try clear hk39); grind [k_ii, k_ir, k_ri, k_rr, k_ai, k_ar, k_li, k_lr, k_qi, k_qr, ar_ci, ar_cl, ar_cq, la_ci, la_ca, la_cq, qa_ci, qa_ca, qa_cl, tk_link]); omega)]; exact hr9)⟩)
  · refine ⟨fun c8 => ?_, fun q10 c8 => ?_⟩
    · exact j145 _ _ _ (by exact ⟨nSl39, rfl, h6.1, h6.2, RPI_F (by rw [← on_none (x := x6) (fun p hp9 => by have h9 := (hx6 p hp9).2.2; have h8 : 11 ≤ x7.toInt := (by (try clear j69); (try clear j145); (try clear hk39); grind [k_ii, k_ir, k_ri, k_rr, k_ai, k_ar, k_li, k_lr, k_qi, k_qr, ar_ci, ar_cl, ar_cq, la_ci, la_ca, la_cq, qa_ci, qa_ca, qa_cl, tk_link]); omega)]; exact hr9)⟩)
    · intro z11 ez11
      have m10 := hx6 q10 c8
      have g10 : RPI n N LL t0 t9 (some q10) S Sl39 := by rw [← c8]; exact hr9
      refine ⟨fun c9 => ?_, fun q12 c9 => ?_⟩
      · exact j69 _ _ _ _ _ _ (by exact ⟨nSl39, rfl, rfl, rfl, hi7, RPI_no g10 (ez11.symm.trans c9), m10.1, m10.2.1, by rw [hi7]; exact m10.2.2⟩)
      · intro z13 ez13
        have l13 : Sl39.2.1 25 q10 = some q12 := ez11.symm.trans c9
        refine ⟨q12, by (try clear j69); (try clear j145); (try clear hk39); grind [k_ii, k_ir, k_ri, k_rr, k_ai, k_ar, k_li, k_lr, k_qi, k_qr, ar_ci, ar_cl, ar_cq, la_ci, la_ca, la_cq, qa_ci, qa_ca, qa_cl, tk_link], ?_⟩
        refine kmT_X2_remove _ _ _ _ _ (fun S15 hF10 pS15 => ?_) (sk_X2_remove _ _ (INJ_x nSl39 (by decide) hI) ((LNS_self g10.1 m10.1 l13).1) ((LNS_self g10.1 m10.1 l13).2))
        have nS15 : FX [12, 13, 25, 26, 27] S S15 := FX_k hF10 (by decide) nSl39
        have ar10_S15 := KF_ar hF10 (INJ_x nSl39 (by decide) hI) (by decide) (by decide) (f := 10) (by decide)
        have y5_S15 : S15.1 5 = Sl39.1 5 := hF10.1 5 (by decide)
        have y13_S15 : S15.1 13 = Sl39.1 13 := hF10.1 13 (by decide)
        have y28_S15 : S15.1 28 = Sl39.1 28 := hF10.1 28 (by decide)
        have y30_S15 : S15.1 30 = Sl39.1 30 := hF10.1 30 (by decide)
        have y38_S15 : S15.1 38 = Sl39.1 38 := hF10.1 38 (by decide)
        have y39_S15 : S15.1 39 = Sl39.1 39 := hF10.1 39 (by decide)
        clear hF10
        have g15 := RPI_rm g10 m10.1 l13 pS15 y5_S15 y13_S15 y28_S15 y38_S15 (fun j => ar10_S15 t0 j)
        exact j69 _ _ _ _ _ _ (by exact ⟨nS15, rfl, rfl, rfl, hi7, g15, m10.1, by rw [y13_S15]; exact m10.2.1, by rw [hi7]; exact m10.2.2⟩)
