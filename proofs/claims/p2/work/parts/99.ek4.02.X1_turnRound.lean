
set_option maxHeartbeats 400000 in
theorem sk_X1_turnRound {n : Int} (t0 : Nat) (a0 : Int32) {S : kS} (hI : INJ S) (h : AGE n (S.1 5 t0).toInt (ar S 10 t0)) (ha : 0 ≤ a0.toInt ∧ a0.toInt ≤ 1000000000) : wT_X1_turnRound t0 a0 S (fun S1 => AGE n (S.1 5 t0).toInt (ar S1 10 t0)) := by
  have nS : FX [] S S := FX_rf
  have h0 := h.1
  have h9 := h.2.1
  unfold wT_X1_turnRound
  intro z1 ez1
  intro z2 ez2
  have hrz2 : -2147483648 ≤ z1.toInt - 1 ∧ z1.toInt - 1 < 2147483648 := by (try clear hk9); grind [k_ii, k_ir, k_ri, k_rr, k_ai, k_ar, k_li, k_lr, k_qi, k_qr, ar_ci, ar_cl, ar_cq, la_ci, la_ca, la_cq, qa_ci, qa_ca, qa_cl, tk_link, kn416]
  replace ez2 : z2.toInt = z1.toInt - 1 := w_sub ez2 hrz2
  clear hrz2
  refine it_rule (fun u : Nat × Int32 × Int32 × kS => (FX [] S u.2.2.2) ∧ (t0 = u.1 ∧ AGE n (S.1 5 t0).toInt (ar u.2.2.2 10 t0) ∧ 0 ≤ u.2.1.toInt ∧ u.2.2.1.toInt < (S.1 5 t0).toInt ∧ -1 ≤ u.2.2.1.toInt ∧ u.2.1.toInt ≤ 1000000000)) (fun u => (u.2.2.1.toInt - u.2.1.toInt + 1).toNat) ?_ (by (try clear hk9); grind [k_ii, k_ir, k_ri, k_rr, k_ai, k_ar, k_li, k_lr, k_qi, k_qr, ar_ci, ar_cl, ar_cq, la_ci, la_ca, la_cq, qa_ci, qa_ca, qa_cl, tk_link, kn416])
  rintro ⟨x0, x2, x3, Sl9⟩ k9 hI9 hk9
  replace hI9 : (FX [] S Sl9) ∧ (t0 = x0 ∧ AGE n (S.1 5 t0).toInt (ar Sl9 10 t0) ∧ 0 ≤ x2.toInt ∧ x3.toInt < (S.1 5 t0).toInt ∧ -1 ≤ x3.toInt ∧ x2.toInt ≤ 1000000000) := hI9
  obtain ⟨nSl9, hI9⟩ := hI9
  replace hk9 : ∀ v : Nat × Int32 × Int32 × kS, (FX [] S v.2.2.2) ∧ (t0 = v.1 ∧ AGE n (S.1 5 t0).toInt (ar v.2.2.2 10 t0) ∧ 0 ≤ v.2.1.toInt ∧ v.2.2.1.toInt < (S.1 5 t0).toInt ∧ -1 ≤ v.2.2.1.toInt ∧ v.2.1.toInt ≤ 1000000000) → (v.2.2.1.toInt - v.2.1.toInt + 1).toNat < (x3.toInt - x2.toInt + 1).toNat → k9 v := hk9
  show wT_X1_turnRound_9 _ k9 x0 x2 x3 Sl9
  unfold wT_X1_turnRound_9
  obtain ⟨rfl, hI9⟩ := hI9
  obtain ⟨g, hx⟩ := hI9
  have g1 := g.2.1
  refine ⟨fun c1 => ?_, fun c1 => ?_⟩
  · exact by (try clear hk9); grind [k_ii, k_ir, k_ri, k_rr, k_ai, k_ar, k_li, k_lr, k_qi, k_qr, ar_ci, ar_cl, ar_cq, la_ci, la_ca, la_cq, qa_ci, qa_ca, qa_cl, tk_link, kn416]
  · intro z4 ez4
    intro q5 eq5
    have wq5 := rd_w nSl9 (by decide) ez4 eq5
    refine ⟨by (try clear hk9); grind [k_ii, k_ir, k_ri, k_rr, k_ai, k_ar, k_li, k_lr, k_qi, k_qr, ar_ci, ar_cl, ar_cq, la_ci, la_ca, la_cq, qa_ci, qa_ca, qa_cl, tk_link, kn416], ?_⟩
    intro z6 ez6
    replace ez6 := ez6.trans (ar_rd nSl9 (by decide) (by decide) wq5)
    have d6 : AEV n z6.toInt := by rw [ez6]; exact AGE_g g (by (try clear hk9); grind [k_ii, k_ir, k_ri, k_rr, k_ai, k_ar, k_li, k_lr, k_qi, k_qr, ar_ci, ar_cl, ar_cq, la_ci, la_ca, la_cq, qa_ci, qa_ca, qa_cl, tk_link, kn416]) (by (try clear hk9); grind [k_ii, k_ir, k_ri, k_rr, k_ai, k_ar, k_li, k_lr, k_qi, k_qr, ar_ci, ar_cl, ar_cq, la_ci, la_ca, la_cq, qa_ci, qa_ca, qa_cl, tk_link, kn416])
    intro z7 ez7
    intro z8 ez8
    intro q9 eq9
    have wq9 := rd_w nSl9 (by decide) ez8 eq9
    refine ⟨by (try clear hk9); grind [k_ii, k_ir, k_ri, k_rr, k_ai, k_ar, k_li, k_lr, k_qi, k_qr, ar_ci, ar_cl, ar_cq, la_ci, la_ca, la_cq, qa_ci, qa_ca, qa_cl, tk_link, kn416], ?_⟩
    intro z10 ez10
    replace ez10 := ez10.trans (ar_rd nSl9 (by decide) (by decide) wq9)
    have d10 : AEV n z10.toInt := by rw [ez10]; exact AGE_g g (by (try clear hk9); grind [k_ii, k_ir, k_ri, k_rr, k_ai, k_ar, k_li, k_lr, k_qi, k_qr, ar_ci, ar_cl, ar_cq, la_ci, la_ca, la_cq, qa_ci, qa_ca, qa_cl, tk_link, kn416]) (by (try clear hk9); grind [k_ii, k_ir, k_ri, k_rr, k_ai, k_ar, k_li, k_lr, k_qi, k_qr, ar_ci, ar_cl, ar_cq, la_ci, la_ca, la_cq, qa_ci, qa_ca, qa_cl, tk_link, kn416])
    intro q11 eq11
    have wq11 := rd_w nSl9 (by decide) ez7 eq11
    refine ⟨by (try clear hk9); grind [k_ii, k_ir, k_ri, k_rr, k_ai, k_ar, k_li, k_lr, k_qi, k_qr, ar_ci, ar_cl, ar_cq, la_ci, la_ca, la_cq, qa_ci, qa_ca, qa_cl, tk_link, kn416], ?_⟩
    intro S12 eS12
    have nS12 : FX [] S S12 := FX_a eS12 nSl9
    have arS12 := ar_wr hI nSl9 (by decide) (by decide) wq11 eS12
    have g12 : AGE n (S.1 5 t0).toInt (ar S12 10 t0) := AGE_u (k := ix x2) g d10 (fun i => by rw [arS12 10 t0 i]; rcases Decidable.em (i = ix x2) with c9 | c9; (rw [if_pos ⟨rfl, rfl, c9⟩, if_pos c9]); (rw [if_neg (fun q => c9 q.2.2), if_neg c9]))
    intro z13 ez13
    intro q14 eq14
    have wq14 := rd_w nS12 (by decide) ez13 eq14
    refine ⟨by (try clear hk9); grind [k_ii, k_ir, k_ri, k_rr, k_ai, k_ar, k_li, k_lr, k_qi, k_qr, ar_ci, ar_cl, ar_cq, la_ci, la_ca, la_cq, qa_ci, qa_ca, qa_cl, tk_link, kn416], ?_⟩
    intro S15 eS15
    have nS15 : FX [] S S15 := FX_a eS15 nS12
    have arS15 := ar_wr hI nS12 (by decide) (by decide) wq14 eS15
    have g15 : AGE n (S.1 5 t0).toInt (ar S15 10 t0) := AGE_u (k := ix x3) g12 d6 (fun i => by rw [arS15 10 t0 i]; rcases Decidable.em (i = ix x3) with c9 | c9; (rw [if_pos ⟨rfl, rfl, c9⟩, if_pos c9]); (rw [if_neg (fun q => c9 q.2.2), if_neg c9]))
    intro z16 ez16
    have hrz16 : -2147483648 ≤ x2.toInt + 1 ∧ x2.toInt + 1 < 2147483648 := by (try clear hk9); grind [k_ii, k_ir, k_ri, k_rr, k_ai, k_ar, k_li, k_lr, k_qi, k_qr, ar_ci, ar_cl, ar_cq, la_ci, la_ca, la_cq, qa_ci, qa_ca, qa_cl, tk_link, kn416]
    replace ez16 : z16.toInt = x2.toInt + 1 := w_add ez16 hrz16
    clear hrz16
    intro z17 ez17
    have hrz17 : -2147483648 ≤ x3.toInt + (-1) ∧ x3.toInt + (-1) < 2147483648 := by (try clear hk9); grind [k_ii, k_ir, k_ri, k_rr, k_ai, k_ar, k_li, k_lr, k_qi, k_qr, ar_ci, ar_cl, ar_cq, la_ci, la_ca, la_cq, qa_ci, qa_ca, qa_cl, tk_link, kn416]
    replace ez17 : z17.toInt = x3.toInt + (-1) := w_add ez17 hrz17
    clear hrz17
    exact hk9 _ (by (try clear hk9); grind [k_ii, k_ir, k_ri, k_rr, k_ai, k_ar, k_li, k_lr, k_qi, k_qr, ar_ci, ar_cl, ar_cq, la_ci, la_ca, la_cq, qa_ci, qa_ca, qa_cl, tk_link, kn416]) (by (try clear hk9); grind [k_ii, k_ir, k_ri, k_rr, k_ai, k_ar, k_li, k_lr, k_qi, k_qr, ar_ci, ar_cl, ar_cq, la_ci, la_ca, la_cq, qa_ci, qa_ca, qa_cl, tk_link, kn416])
