
set_option maxHeartbeats 400000 in
theorem sk_X1_open {N T G : Nat → Prop} {U : List Nat} {L : Nat → List Nat} {D : Nat → Nat} {P : Nat → Int32} (t0 : Nat) (a0 : Nat) {S : kS} (hI : INJ S) (hT : TKA S t0) (hP : PAI S t0 U L D) (h5 : (S.1 5 t0).toInt = 0) (hNl : ∀ l, N l → S.2.1 8 t0 = some l ∨ ∃ i, i < 8 ∧ qa S 7 t0 i = some l) (hp : ∀ o, (o, Sum.inl 0) ∈ S.2.2.2.2.2 → S.2.1 9 t0 ≠ some o → S.1 0 o = P o) : wT_X1_open t0 a0 S (fun S1 => ∃ U1, HI t0 N T G U1 (fun _ => []) D P S1 ∧ (S1.1 5 t0).toInt = 0 ∧ (S1.1 1 t0).toInt = 0 ∧ S1.2.1 2 t0 = some a0) := by
  have nS : FX [2, 11, 12, 13, 24, 61, 62, 63] S S := FX_rf
  unfold wT_X1_open
  intro S1 eS1
  have nS1 : FX [2, 11, 12, 13, 24, 61, 62, 63] S S1 := FX_r eS1 (by decide) nS
  have arS1 := ar_cr eS1 (by decide)
  have laS1 := la_cr eS1 (by decide)
  have qaS1 := qa_cr eS1 (by decide)
  have h1b := HF_r eS1 (by decide)
  have h1 : HF [] [2, 11, 24, 61, 62, 63] [] [] S S1 := HF_s h1b (by decide) (by decide) (by decide) (by decide)
  have r11 : S1.2.1 11 = S.2.1 11 := h1b.2.1 11 (by decide)
  refine it_rule (fun u : Nat × Int32 × kS => (FX [2, 11, 12, 13, 24, 61, 62, 63] S u.2.2) ∧ (t0 = u.1 ∧ HF [] [2, 11, 24, 61, 62, 63] [] [] S u.2.2 ∧ TKA u.2.2 t0 ∧ (∃ U1 L1, PAI u.2.2 t0 U1 L1 D ∧ ∀ (i t : Nat), i < ix u.2.1 → qa u.2.2 3 t0 i = some t → L1 t = []) ∧ 0 ≤ u.2.1.toInt ∧ u.2.1.toInt ≤ 200 ∧ u.2.2.2.1 2 t0 = some a0)) (fun u => (200 - u.2.1.toInt).toNat) ?_ (by exact ⟨nS1, rfl, h1, TKA_e hT (h1.1 1 (by decide)) (h1.1 28 (by decide)) (h1.2.2.2.1 3 (by decide)), ⟨U, L, PAI_e hP r11 (h1b.2.1 21 (by decide)) (h1b.2.1 23 (by decide)) (h1b.2.1 24 (by decide)) (h1b.2.1 61 (by decide)) (h1b.2.1 62 (by decide)) (h1b.2.1 63 (by decide)) (h1.1 1 (by decide)) (h1.2.2.2.1 3 (by decide)) h1.2.2.2.2, fun i t hi => absurd hi (by show ¬ i < ix 0; rw [show ix 0 = 0 from rfl]; omega)⟩, (show (0 : Int) ≤ (0 : Int32).toInt by decide), (show (0 : Int32).toInt ≤ 200 by decide), (by show S1.2.1 2 t0 = some a0; rw [eS1, k_rr, if_pos ⟨rfl, rfl⟩])⟩)
  rintro ⟨x0, x2, Sl7⟩ k7 hI7 hk7
  replace hI7 : (FX [2, 11, 12, 13, 24, 61, 62, 63] S Sl7) ∧ (t0 = x0 ∧ HF [] [2, 11, 24, 61, 62, 63] [] [] S Sl7 ∧ TKA Sl7 t0 ∧ (∃ U1 L1, PAI Sl7 t0 U1 L1 D ∧ ∀ (i t : Nat), i < ix x2 → qa Sl7 3 t0 i = some t → L1 t = []) ∧ 0 ≤ x2.toInt ∧ x2.toInt ≤ 200 ∧ Sl7.2.1 2 t0 = some a0) := hI7
  obtain ⟨nSl7, hI7⟩ := hI7
  replace hk7 : ∀ v : Nat × Int32 × kS, (FX [2, 11, 12, 13, 24, 61, 62, 63] S v.2.2) ∧ (t0 = v.1 ∧ HF [] [2, 11, 24, 61, 62, 63] [] [] S v.2.2 ∧ TKA v.2.2 t0 ∧ (∃ U1 L1, PAI v.2.2 t0 U1 L1 D ∧ ∀ (i t : Nat), i < ix v.2.1 → qa v.2.2 3 t0 i = some t → L1 t = []) ∧ 0 ≤ v.2.1.toInt ∧ v.2.1.toInt ≤ 200 ∧ v.2.2.2.1 2 t0 = some a0) → (200 - v.2.1.toInt).toNat < (200 - x2.toInt).toNat → k7 v := hk7
  show wT_X1_open_7 _ k7 x0 x2 Sl7
  unfold wT_X1_open_7
  obtain ⟨rfl, hI7⟩ := hI7
  obtain ⟨hh7, hT7, ⟨U1, L1, hP7, hL7⟩, k0, k1, k29⟩ := hI7
  have tb7 := hT7.2.1
  obtain ⟨x7, ex7⟩ : ∃ i, i = x2 := ⟨_, rfl⟩
  intro z2 ez2
  refine ⟨fun c1 => ?_, fun c1 => ?_⟩
  · intro S4 eS4
    have nS4 : FX [2, 11, 12, 13, 24, 61, 62, 63] S S4 := FX_i eS4 nSl7
    intro S5 eS5
    have nS5 : FX [2, 11, 12, 13, 24, 61, 62, 63] S S5 := FX_i eS5 nS4
    intro S6 eS6
    have nS6 : FX [2, 11, 12, 13, 24, 61, 62, 63] S S6 := FX_i eS6 nS5
    intro S7 eS7
    have nS7 : FX [2, 11, 12, 13, 24, 61, 62, 63] S S7 := FX_i eS7 nS6
    have tc7 : (Sl7.1 1 t0).toInt ≤ x2.toInt := by (try clear hk7); (try clear hk53); grind [k_ii, k_ir, k_ri, k_rr, k_ai, k_ar, k_li, k_lr, k_qi, k_qr, ar_ci, ar_cl, ar_cq, la_ci, la_ca, la_cq, qa_ci, qa_ca, qa_cl, tk_link, kn200, kn8]
    rw [← ex7] at k0 tc7 hL7
    have f7 : HF [0, 1, 2, 3, 4] [12, 13] [6] [] Sl7 S7 := HF_tr (HF_s (HF_i eS4) (by decide) (by decide) (by decide) (by decide)) (HF_tr (HF_s (HF_i eS5) (by decide) (by decide) (by decide) (by decide)) (HF_tr (HF_s (HF_i eS6) (by decide) (by decide) (by decide) (by decide)) (HF_s (HF_i eS7) (by decide) (by decide) (by decide) (by decide))))
    have i71 : S7.1 1 t0 = 0 := by (try clear hk7); (try clear hk53); grind [k_ii, k_ir, k_ri, k_rr, k_ai, k_ar, k_li, k_lr, k_qi, k_qr, ar_ci, ar_cl, ar_cq, la_ci, la_ca, la_cq, qa_ci, qa_ca, qa_cl, tk_link, kn200, kn8]
    have i73 : S7.1 3 t0 = 0 := by (try clear hk7); (try clear hk53); grind [k_ii, k_ir, k_ri, k_rr, k_ai, k_ar, k_li, k_lr, k_qi, k_qr, ar_ci, ar_cl, ar_cq, la_ci, la_ca, la_cq, qa_ci, qa_ca, qa_cl, tk_link, kn200, kn8]
    have i70 : ∀ o, S7.1 0 o = Sl7.1 0 o := fun o => by rw [(HF_i eS7).1 0 (by decide), (HF_i eS6).1 0 (by decide), (HF_i eS5).1 0 (by decide), (HF_i eS4).1 0 (by decide)]
    have i75 : S7.1 5 = Sl7.1 5 := by rw [(HF_i eS7).1 5 (by decide), (HF_i eS6).1 5 (by decide), (HF_i eS5).1 5 (by decide), (HF_i eS4).1 5 (by decide)]
    have q77 : qa S7 7 = qa S 7 := (f7.2.2.2.1 7 (by decide)).trans (hh7.2.2.2.1 7 (by decide))
    refine it_rule (fun u : Nat × Int32 × kS => (FX [2, 11, 12, 13, 24, 61, 62, 63] S u.2.2) ∧ (t0 = u.1 ∧ HF [] [12, 13] [6] [] S7 u.2.2 ∧ (∀ i : Nat, i < ix u.2.1 → ar u.2.2 6 t0 i = 0 ∧ ∀ l, qa S 7 t0 i = some l → u.2.2.2.1 12 l = none ∧ u.2.2.2.1 13 l = none) ∧ 0 ≤ u.2.1.toInt ∧ u.2.1.toInt ≤ 8)) (fun u => (8 - u.2.1.toInt).toNat) ?_ (by exact ⟨nS7, rfl, HF_rf, fun i hi => absurd hi (by show ¬ i < ix 0; rw [show ix 0 = 0 from rfl]; omega), (show (0 : Int) ≤ (0 : Int32).toInt by decide), (show (0 : Int32).toInt ≤ 8 by decide)⟩)
    rintro ⟨x0, x2, Sl53⟩ k53 hI53 hk53
    replace hI53 : (FX [2, 11, 12, 13, 24, 61, 62, 63] S Sl53) ∧ (t0 = x0 ∧ HF [] [12, 13] [6] [] S7 Sl53 ∧ (∀ i : Nat, i < ix x2 → ar Sl53 6 t0 i = 0 ∧ ∀ l, qa S 7 t0 i = some l → Sl53.2.1 12 l = none ∧ Sl53.2.1 13 l = none) ∧ 0 ≤ x2.toInt ∧ x2.toInt ≤ 8) := hI53
    obtain ⟨nSl53, hI53⟩ := hI53
    replace hk53 : ∀ v : Nat × Int32 × kS, (FX [2, 11, 12, 13, 24, 61, 62, 63] S v.2.2) ∧ (t0 = v.1 ∧ HF [] [12, 13] [6] [] S7 v.2.2 ∧ (∀ i : Nat, i < ix v.2.1 → ar v.2.2 6 t0 i = 0 ∧ ∀ l, qa S 7 t0 i = some l → v.2.2.2.1 12 l = none ∧ v.2.2.2.1 13 l = none) ∧ 0 ≤ v.2.1.toInt ∧ v.2.1.toInt ≤ 8) → (8 - v.2.1.toInt).toNat < (8 - x2.toInt).toNat → k53 v := hk53
    show wT_X1_open_53 _ k53 x0 x2 Sl53
    unfold wT_X1_open_53
    obtain ⟨rfl, hI53⟩ := hI53
    obtain ⟨hf, hc3, k3, k4⟩ := hI53
    refine ⟨fun c2 => ?_, fun c2 => ?_⟩
    · intro z15 ez15
      intro q16 eq16
      have wq16 := rd_w nSl53 (by decide) ez15 eq16
      refine kmT_X2_clear _ _ _ _ (fun S17 hF3 pS17 => ?_) (sk_X2_clear _ (INJ_x nSl53 (by decide) hI) )
      have nS17 : FX [2, 11, 12, 13, 24, 61, 62, 63] S S17 := FX_k hF3 (by decide) nSl53
      have fS17 := HF_k hF3 (INJ_x nSl53 (by decide) hI) (by decide) (by decide) (by decide)
      clear hF3
      intro z18 ez18
      intro q19 eq19
      have wq19 := rd_w nS17 (by decide) ez18 eq19
      refine kmT_X0_clear _ _ _ _ (fun S20 hF4 pS20 => ?_) (sk_X0_clear _ (INJ_x nS17 (by decide) hI) )
      have nS20 : FX [2, 11, 12, 13, 24, 61, 62, 63] S S20 := FX_k hF4 (by decide) nS17
      have fS20 := HF_k hF4 (INJ_x nS17 (by decide) hI) (by decide) (by decide) (by decide)
      clear hF4
      exact ⟨U1, HI_op (b := q19) hT7 hP7 (opn_e hP7 (by rw [kx_int x7 k0]; exact tc7) hL7) (by rw [hh7.1 5 (by decide)]; exact h5) (fun l hl => by rw [fS20.2.1 12 (by decide), fS20.2.1 13 (by decide), pS17.1 l, pS17.2 l]; rcases Decidable.em (l = q16) with c9 | c9; (rw [if_pos c9, if_pos c9]; exact ⟨rfl, rfl⟩); (rw [if_neg c9, if_neg c9]; rcases hNl l hl with w | ⟨i, hi, w⟩; (exact absurd (Option.some.inj (w.symm.trans wq16)) c9); (exact (hc3 i (by have w1 := kx_int x2 k3; have w2 : 8 ≤ x2.toInt := (by (try clear hk7); (try clear hk53); grind [k_ii, k_ir, k_ri, k_rr, k_ai, k_ar, k_li, k_lr, k_qi, k_qr, ar_ci, ar_cl, ar_cq, la_ci, la_ca, la_cq, qa_ci, qa_ca, qa_cl, tk_link, kn200, kn8]); omega)).2 l w))) (by rw [fS20.1 1 (by decide), fS17.1 1 (by decide), hf.1 1 (by decide)]; exact i71) (by rw [fS20.1 3 (by decide), fS17.1 3 (by decide), hf.1 3 (by decide)]; exact i73) (fun i hi => by rw [fS20.2.2.1 6 (by decide), fS17.2.2.1 6 (by decide)]; exact (hc3 i (by have w1 := kx_int x2 k3; have w2 : 8 ≤ x2.toInt := (by (try clear hk7); (try clear hk53); grind [k_ii, k_ir, k_ri, k_rr, k_ai, k_ar, k_li, k_lr, k_qi, k_qr, ar_ci, ar_cl, ar_cq, la_ci, la_ca, la_cq, qa_ci, qa_ca, qa_cl, tk_link, kn200, kn8]); omega)).1) (HF_tr f7 (HF_tr (HF_s hf (by decide) (by decide) (by decide) (by decide)) (HF_tr (HF_s fS17 (by decide) (by decide) (by decide) (by decide)) (HF_s fS20 (by decide) (by decide) (by decide) (by decide))))) (by rw [hh7.2.1 9 (by decide)]; exact wq19) pS20.1 (fun o ho => by rw [pS20.2 o ho, fS17.1 0 (by decide), hf.1 0 (by decide)]; exact i70 o) (fun o hd ho => by rw [hh7.2.2.2.2] at hd; rw [hh7.2.1 9 (by decide)] at ho; rw [hh7.1 0 (by decide)]; exact hp o hd ho), (by rw [fS20.1 5 (by decide), fS17.1 5 (by decide), hf.1 5 (by decide), i75, hh7.1 5 (by decide)]; exact h5), (by rw [fS20.1 1 (by decide), fS17.1 1 (by decide), hf.1 1 (by decide), i71]; rfl), (by rw [fS20.2.1 2 (by decide), fS17.2.1 2 (by decide), hf.2.1 2 (by decide), f7.2.1 2 (by decide)]; exact k29)⟩
    · intro z21 ez21
      intro q22 eq22
      have wq22 := rd_w nSl53 (by decide) ez21 eq22
      refine ⟨by (try clear hk7); (try clear hk53); grind [k_ii, k_ir, k_ri, k_rr, k_ai, k_ar, k_li, k_lr, k_qi, k_qr, ar_ci, ar_cl, ar_cq, la_ci, la_ca, la_cq, qa_ci, qa_ca, qa_cl, tk_link, kn200, kn8], ?_⟩
      intro S23 eS23
      have nS23 : FX [2, 11, 12, 13, 24, 61, 62, 63] S S23 := FX_a eS23 nSl53
      have arS23 := ar_wr hI nSl53 (by decide) (by decide) wq22 eS23
      have q7e : qa S23 7 = qa S 7 := ((HF_a eS23 arS23).2.2.2.1 7 (by decide)).trans ((hf.2.2.2.1 7 (by decide)).trans q77)
      intro z24 ez24
      intro q25 eq25
      have wq25 := rd_w nS23 (by decide) ez24 eq25
      refine ⟨by (try clear hk7); (try clear hk53); grind [k_ii, k_ir, k_ri, k_rr, k_ai, k_ar, k_li, k_lr, k_qi, k_qr, ar_ci, ar_cl, ar_cq, la_ci, la_ca, la_cq, qa_ci, qa_ca, qa_cl, tk_link, kn200, kn8], ?_⟩
      intro z26 ez26
      replace ez26 := ez26.trans (qa_rd nS23 (by decide) (by decide) wq25)
      intro q27 eq27
      refine kmT_X2_clear _ _ _ _ (fun S28 hF5 pS28 => ?_) (sk_X2_clear _ (INJ_x nS23 (by decide) hI) )
      have nS28 : FX [2, 11, 12, 13, 24, 61, 62, 63] S S28 := FX_k hF5 (by decide) nS23
      have fS28 := HF_k hF5 (INJ_x nS23 (by decide) hI) (by decide) (by decide) (by decide)
      clear hF5
      intro z29 ez29
      have hrz29 : -2147483648 ≤ x2.toInt + 1 ∧ x2.toInt + 1 < 2147483648 := by (try clear hk7); (try clear hk53); grind [k_ii, k_ir, k_ri, k_rr, k_ai, k_ar, k_li, k_lr, k_qi, k_qr, ar_ci, ar_cl, ar_cq, la_ci, la_ca, la_cq, qa_ci, qa_ca, qa_cl, tk_link, kn200, kn8]
      replace ez29 : z29.toInt = x2.toInt + 1 := w_add ez29 hrz29
      clear hrz29
      have q26 : qa S 7 t0 (ix x2) = some q27 := by rw [← q7e]; exact ez26.symm.trans eq27
      have f28 : HF [] [12, 13] [6] [] S7 S28 := HF_tr hf (HF_tr (HF_s (HF_a eS23 arS23) (by decide) (by decide) (by decide) (by decide)) (HF_s fS28 (by decide) (by decide) (by decide) (by decide)))
      have i29 : ix z29 = ix x2 + 1 := by have w1 := kx_int z29 (by (try clear hk7); (try clear hk53); grind [k_ii, k_ir, k_ri, k_rr, k_ai, k_ar, k_li, k_lr, k_qi, k_qr, ar_ci, ar_cl, ar_cq, la_ci, la_ca, la_cq, qa_ci, qa_ca, qa_cl, tk_link, kn200, kn8]); have w2 := kx_int x2 k3; omega
      have c28 := opn_s (A := qa S 7 t0) (k := ix x2) hc3 (fun j => by rw [arS23 6 t0 j]; rcases Decidable.em (j = ix x2) with c9 | c9; (rw [if_pos ⟨rfl, rfl, c9⟩, if_pos c9]); (rw [if_neg (fun q => c9 q.2.2), if_neg c9])) (fS28.2.2.1 6 (by decide)) q26 (fun x => by rw [pS28.1 x, eS23]; rfl) (fun x => by rw [pS28.2 x, eS23]; rfl)
      rw [← i29] at c28
      exact hk53 _ (by exact ⟨nS28, rfl, f28, c28, (by show 0 ≤ z29.toInt; (try clear hk7); (try clear hk53); grind [k_ii, k_ir, k_ri, k_rr, k_ai, k_ar, k_li, k_lr, k_qi, k_qr, ar_ci, ar_cl, ar_cq, la_ci, la_ca, la_cq, qa_ci, qa_ca, qa_cl, tk_link, kn200, kn8]), (by show z29.toInt ≤ 8; (try clear hk7); (try clear hk53); grind [k_ii, k_ir, k_ri, k_rr, k_ai, k_ar, k_li, k_lr, k_qi, k_qr, ar_ci, ar_cl, ar_cq, la_ci, la_ca, la_cq, qa_ci, qa_ca, qa_cl, tk_link, kn200, kn8])⟩) (by show (8 - z29.toInt).toNat < _; (try clear hk7); (try clear hk53); grind [k_ii, k_ir, k_ri, k_rr, k_ai, k_ar, k_li, k_lr, k_qi, k_qr, ar_ci, ar_cl, ar_cq, la_ci, la_ca, la_cq, qa_ci, qa_ca, qa_cl, tk_link, kn200, kn8])
  · intro z8 ez8
    intro q9 eq9
    have wq9 := rd_w nSl7 (by decide) ez8 eq9
    refine ⟨by (try clear hk7); (try clear hk53); grind [k_ii, k_ir, k_ri, k_rr, k_ai, k_ar, k_li, k_lr, k_qi, k_qr, ar_ci, ar_cl, ar_cq, la_ci, la_ca, la_cq, qa_ci, qa_ca, qa_cl, tk_link, kn200, kn8], ?_⟩
    intro z10 ez10
    replace ez10 := ez10.trans (qa_rd nSl7 (by decide) (by decide) wq9)
    obtain ⟨t10, e10, l10, _⟩ := tl_i hT7 (z := x2) k0 (by (try clear hk7); (try clear hk53); grind [k_ii, k_ir, k_ri, k_rr, k_ai, k_ar, k_li, k_lr, k_qi, k_qr, ar_ci, ar_cl, ar_cq, la_ci, la_ca, la_cq, qa_ci, qa_ca, qa_cl, tk_link, kn200, kn8])
    refine ⟨t10, by (try clear hk7); (try clear hk53); grind [k_ii, k_ir, k_ri, k_rr, k_ai, k_ar, k_li, k_lr, k_qi, k_qr, ar_ci, ar_cl, ar_cq, la_ci, la_ca, la_cq, qa_ci, qa_ca, qa_cl, tk_link, kn200, kn8], ?_⟩
    refine kmT_X1_takeBack _ _ _ _ _ (fun S12 hF6 pS12 => ?_) (sk_X1_takeBack (L := L1 t10) (U := U1) _ _ (INJ_x nSl7 (by decide) hI) hP7.1 ((hP7.2.2.1 t10 (tl_t hT7 l10)).1) (hP7.2.2.2.1 t10) (hP7.2.2.2.2.1 t10))
    have nS12 : FX [2, 11, 12, 13, 24, 61, 62, 63] S S12 := FX_k hF6 (by decide) nSl7
    have fS12 := HF_k hF6 (INJ_x nSl7 (by decide) hI) (by decide) (by decide) (by decide)
    clear hF6
    intro z13 ez13
    have hrz13 : -2147483648 ≤ x2.toInt + 1 ∧ x2.toInt + 1 < 2147483648 := by (try clear hk7); (try clear hk53); grind [k_ii, k_ir, k_ri, k_rr, k_ai, k_ar, k_li, k_lr, k_qi, k_qr, ar_ci, ar_cl, ar_cq, la_ci, la_ca, la_cq, qa_ci, qa_ca, qa_cl, tk_link, kn200, kn8]
    replace ez13 : z13.toInt = x2.toInt + 1 := w_add ez13 hrz13
    clear hrz13
    have tb := PAI_tb hP7 (tl_t hT7 l10) (HF_s fS12 (by decide) (by decide) (by decide) (by decide)) pS12
    have e12 := fS12.2.2.2.1 3 (by decide)
    have hT12 : TKA S12 t0 := TKA_e hT7 (fS12.1 1 (by decide)) (fS12.1 28 (by decide)) e12
    have hh12 : HF [] [2, 11, 24, 61, 62, 63] [] [] S S12 := HF_tr hh7 (HF_s fS12 (by decide) (by decide) (by decide) (by decide))
    have i13 : ix z13 = ix x2 + 1 := by have w1 := kx_int z13 (by (try clear hk7); (try clear hk53); grind [k_ii, k_ir, k_ri, k_rr, k_ai, k_ar, k_li, k_lr, k_qi, k_qr, ar_ci, ar_cl, ar_cq, la_ci, la_ca, la_cq, qa_ci, qa_ca, qa_cl, tk_link, kn200, kn8]); have w2 := kx_int x2 k0; omega
    have l12 : ∀ i t : Nat, i < ix z13 → qa S12 3 t0 i = some t → qup L1 t10 [] t = [] := fun i t hi hq => by rw [e12] at hq; rcases Decidable.em (t = t10) with c9 | c9; (rw [c9, qup_at]); (rw [qup_ne c9]; exact hL7 i t (by rw [i13] at hi; rcases Decidable.em (i = ix x2) with d9 | d9; (rw [d9] at hq; exact absurd (Option.some.inj (hq.symm.trans e10)) c9); omega) hq)
    exact hk7 _ (by exact ⟨nS12, rfl, hh12, hT12, ⟨_, _, tb, l12⟩, (by show 0 ≤ z13.toInt; (try clear hk7); (try clear hk53); grind [k_ii, k_ir, k_ri, k_rr, k_ai, k_ar, k_li, k_lr, k_qi, k_qr, ar_ci, ar_cl, ar_cq, la_ci, la_ca, la_cq, qa_ci, qa_ca, qa_cl, tk_link, kn200, kn8]), (by show z13.toInt ≤ 200; (try clear hk7); (try clear hk53); grind [k_ii, k_ir, k_ri, k_rr, k_ai, k_ar, k_li, k_lr, k_qi, k_qr, ar_ci, ar_cl, ar_cq, la_ci, la_ca, la_cq, qa_ci, qa_ca, qa_cl, tk_link, kn200, kn8]), (by show S12.2.1 2 t0 = some a0; rw [fS12.2.1 2 (by decide)]; exact k29)⟩) (by show (200 - z13.toInt).toNat < _; (try clear hk7); (try clear hk53); grind [k_ii, k_ir, k_ri, k_rr, k_ai, k_ar, k_li, k_lr, k_qi, k_qr, ar_ci, ar_cl, ar_cq, la_ci, la_ca, la_cq, qa_ci, qa_ca, qa_cl, tk_link, kn200, kn8])
