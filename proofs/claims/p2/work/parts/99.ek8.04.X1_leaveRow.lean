
set_option maxHeartbeats 400000 in
theorem sk_X1_leaveRow {n : Int} (t0 : Nat) (a0 : Int32) {S : kS} (hI : INJ S) (h : ROE n (S.1 3 t0).toInt (ar S 4 t0)) (hn : n ≤ 200) : wT_X1_leaveRow t0 a0 S (fun S1 r => (r = none ∧ ¬ (0 ≤ a0.toInt ∧ a0.toInt < (S.1 3 t0).toInt) ∧ S1.1 3 t0 = S.1 3 t0 ∧ ∀ i, ar S1 4 t0 i = ar S 4 t0 i) ∨ (0 ≤ a0.toInt ∧ a0.toInt < (S.1 3 t0).toInt ∧ r = qa S 3 t0 (ix (ar S 4 t0 (ix a0))) ∧ (S1.1 3 t0).toInt = (S.1 3 t0).toInt - 1 ∧ ∀ i : Nat, (i : Int) < (S.1 3 t0).toInt - 1 → ar S1 4 t0 i = ar S 4 t0 (if (i : Int) < a0.toInt then i else i + 1))) := by
  have nS : FX [] S S := FX_rf
  have h0 := h.1
  have h9 := h.2.1
  unfold wT_X1_leaveRow
  refine ⟨fun c1 => ?_, fun c1 => ?_⟩
  · unfold wT_X1_leaveRow_12
    exact Or.inl (by (try clear hk38); grind [k_ii, k_ir, k_ri, k_rr, k_ai, k_ar, k_li, k_lr, k_qi, k_qr, ar_ci, ar_cl, ar_cq, la_ci, la_ca, la_cq, qa_ci, qa_ca, qa_cl, tk_link, kn200])
  · intro z2 ez2
    refine ⟨fun c2 => ?_, fun c2 => ?_⟩
    · intro z4 ez4
      intro z5 ez5
      intro q6 eq6
      have wq6 := rd_w nS (by decide) ez5 eq6
      refine ⟨by (try clear hk38); grind [k_ii, k_ir, k_ri, k_rr, k_ai, k_ar, k_li, k_lr, k_qi, k_qr, ar_ci, ar_cl, ar_cq, la_ci, la_ca, la_cq, qa_ci, qa_ca, qa_cl, tk_link, kn200], ?_⟩
      intro z7 ez7
      replace ez7 := ez7.trans (ar_rd nS (by decide) (by decide) wq6)
      have k0 : 0 ≤ a0.toInt := by (try clear hk38); grind [k_ii, k_ir, k_ri, k_rr, k_ai, k_ar, k_li, k_lr, k_qi, k_qr, ar_ci, ar_cl, ar_cq, la_ci, la_ca, la_cq, qa_ci, qa_ca, qa_cl, tk_link, kn200]
      have k1 : a0.toInt < (S.1 3 t0).toInt := by (try clear hk38); grind [k_ii, k_ir, k_ri, k_rr, k_ai, k_ar, k_li, k_lr, k_qi, k_qr, ar_ci, ar_cl, ar_cq, la_ci, la_ca, la_cq, qa_ci, qa_ca, qa_cl, tk_link, kn200]
      have d7 : 0 ≤ z7.toInt ∧ z7.toInt < n := by rw [ez7]; exact ROE_g h k0 k1
      intro q8 eq8
      have wq8 := rd_w nS (by decide) ez4 eq8
      refine ⟨by (try clear hk38); grind [k_ii, k_ir, k_ri, k_rr, k_ai, k_ar, k_li, k_lr, k_qi, k_qr, ar_ci, ar_cl, ar_cq, la_ci, la_ca, la_cq, qa_ci, qa_ca, qa_cl, tk_link, kn200], ?_⟩
      intro z9 ez9
      replace ez9 := ez9.trans (qa_rd nS (by decide) (by decide) wq8)
      intro z10 ez10
      intro z11 ez11
      have hrz11 : -2147483648 ≤ z10.toInt - 1 ∧ z10.toInt - 1 < 2147483648 := by (try clear hk38); grind [k_ii, k_ir, k_ri, k_rr, k_ai, k_ar, k_li, k_lr, k_qi, k_qr, ar_ci, ar_cl, ar_cq, la_ci, la_ca, la_cq, qa_ci, qa_ca, qa_cl, tk_link, kn200]
      replace ez11 : z11.toInt = z10.toInt - 1 := w_sub ez11 hrz11
      clear hrz11
      intro S12 eS12
      have nS12 : FX [] S S12 := FX_i eS12 nS
      refine it_rule (fun u : Nat × Option Nat × Int32 × kS => (FX [] S u.2.2.2) ∧ (t0 = u.1 ∧ z9 = u.2.1 ∧ (u.2.2.2.1 3 t0).toInt = (S.1 3 t0).toInt - 1 ∧ a0.toInt ≤ u.2.2.1.toInt ∧ u.2.2.1.toInt ≤ (S.1 3 t0).toInt - 1 ∧ ∀ j : Nat, ar u.2.2.2 4 t0 j = if a0.toInt ≤ (j : Int) ∧ (j : Int) < u.2.2.1.toInt then ar S 4 t0 (j + 1) else ar S 4 t0 j)) (fun u => (200 - u.2.2.1.toInt).toNat) ?_ (by exact ⟨nS12, rfl, rfl, (by show (S12.1 3 t0).toInt = _; (try clear hk38); grind [k_ii, k_ir, k_ri, k_rr, k_ai, k_ar, k_li, k_lr, k_qi, k_qr, ar_ci, ar_cl, ar_cq, la_ci, la_ca, la_cq, qa_ci, qa_ca, qa_cl, tk_link, kn200]), Int.le_refl _, (by show a0.toInt ≤ _; (try clear hk38); grind [k_ii, k_ir, k_ri, k_rr, k_ai, k_ar, k_li, k_lr, k_qi, k_qr, ar_ci, ar_cl, ar_cq, la_ci, la_ca, la_cq, qa_ci, qa_ca, qa_cl, tk_link, kn200]), fun j => (by show ar S12 4 t0 j = _; rw [if_neg (fun q => by have q1 := q.1; have q2 := q.2; exact absurd q2 (Int.not_lt.mpr q1)), eS12]; rfl)⟩)
      rintro ⟨x0, x2, x3, Sl38⟩ k38 hI38 hk38
      replace hI38 : (FX [] S Sl38) ∧ (t0 = x0 ∧ z9 = x2 ∧ (Sl38.1 3 t0).toInt = (S.1 3 t0).toInt - 1 ∧ a0.toInt ≤ x3.toInt ∧ x3.toInt ≤ (S.1 3 t0).toInt - 1 ∧ ∀ j : Nat, ar Sl38 4 t0 j = if a0.toInt ≤ (j : Int) ∧ (j : Int) < x3.toInt then ar S 4 t0 (j + 1) else ar S 4 t0 j) := hI38
      obtain ⟨nSl38, hI38⟩ := hI38
      replace hk38 : ∀ v : Nat × Option Nat × Int32 × kS, (FX [] S v.2.2.2) ∧ (t0 = v.1 ∧ z9 = v.2.1 ∧ (v.2.2.2.1 3 t0).toInt = (S.1 3 t0).toInt - 1 ∧ a0.toInt ≤ v.2.2.1.toInt ∧ v.2.2.1.toInt ≤ (S.1 3 t0).toInt - 1 ∧ ∀ j : Nat, ar v.2.2.2 4 t0 j = if a0.toInt ≤ (j : Int) ∧ (j : Int) < v.2.2.1.toInt then ar S 4 t0 (j + 1) else ar S 4 t0 j) → (200 - v.2.2.1.toInt).toNat < (200 - x3.toInt).toNat → k38 v := hk38
      show wT_X1_leaveRow_38 _ k38 x0 x2 x3 Sl38
      unfold wT_X1_leaveRow_38
      obtain ⟨rfl, hI38⟩ := hI38
      obtain ⟨rfl, hI38⟩ := hI38
      have ex3 : ((ix x3 : Nat) : Int) = x3.toInt := kx_int x3 (by (try clear hk38); grind [k_ii, k_ir, k_ri, k_rr, k_ai, k_ar, k_li, k_lr, k_qi, k_qr, ar_ci, ar_cl, ar_cq, la_ci, la_ca, la_cq, qa_ci, qa_ca, qa_cl, tk_link, kn200])
      intro z13 ez13
      refine ⟨fun c3 => ?_, fun c3 => ?_⟩
      · exact Or.inr ⟨k0, k1, by rw [ez9, ez7], hI38.1, by rw [← (show x3.toInt = (S.1 3 t0).toInt - 1 by (try clear hk38); grind [k_ii, k_ir, k_ri, k_rr, k_ai, k_ar, k_li, k_lr, k_qi, k_qr, ar_ci, ar_cl, ar_cq, la_ci, la_ca, la_cq, qa_ci, qa_ca, qa_cl, tk_link, kn200])]; exact lv_e hI38.2.2.2⟩
      · intro z15 ez15
        intro z16 ez16
        intro z17 ez17
        have hrz17 : -2147483648 ≤ x3.toInt + 1 ∧ x3.toInt + 1 < 2147483648 := by (try clear hk38); grind [k_ii, k_ir, k_ri, k_rr, k_ai, k_ar, k_li, k_lr, k_qi, k_qr, ar_ci, ar_cl, ar_cq, la_ci, la_ca, la_cq, qa_ci, qa_ca, qa_cl, tk_link, kn200]
        replace ez17 : z17.toInt = x3.toInt + 1 := w_add ez17 hrz17
        clear hrz17
        have ix17 : ix z17 = ix x3 + 1 := by have e17 := kx_int z17 (by (try clear hk38); grind [k_ii, k_ir, k_ri, k_rr, k_ai, k_ar, k_li, k_lr, k_qi, k_qr, ar_ci, ar_cl, ar_cq, la_ci, la_ca, la_cq, qa_ci, qa_ca, qa_cl, tk_link, kn200]); omega
        intro q18 eq18
        have wq18 := rd_w nSl38 (by decide) ez16 eq18
        refine ⟨by (try clear hk38); grind [k_ii, k_ir, k_ri, k_rr, k_ai, k_ar, k_li, k_lr, k_qi, k_qr, ar_ci, ar_cl, ar_cq, la_ci, la_ca, la_cq, qa_ci, qa_ca, qa_cl, tk_link, kn200], ?_⟩
        intro z19 ez19
        replace ez19 := ez19.trans (ar_rd nSl38 (by decide) (by decide) wq18)
        intro q20 eq20
        have wq20 := rd_w nSl38 (by decide) ez15 eq20
        refine ⟨by (try clear hk38); grind [k_ii, k_ir, k_ri, k_rr, k_ai, k_ar, k_li, k_lr, k_qi, k_qr, ar_ci, ar_cl, ar_cq, la_ci, la_ca, la_cq, qa_ci, qa_ca, qa_cl, tk_link, kn200], ?_⟩
        intro S21 eS21
        have nS21 : FX [] S S21 := FX_a eS21 nSl38
        have arS21 := ar_wr hI nSl38 (by decide) (by decide) wq20 eS21
        intro z22 ez22
        have hrz22 : -2147483648 ≤ x3.toInt + 1 ∧ x3.toInt + 1 < 2147483648 := by (try clear hk38); grind [k_ii, k_ir, k_ri, k_rr, k_ai, k_ar, k_li, k_lr, k_qi, k_qr, ar_ci, ar_cl, ar_cq, la_ci, la_ca, la_cq, qa_ci, qa_ca, qa_cl, tk_link, kn200]
        replace ez22 : z22.toInt = x3.toInt + 1 := w_add ez22 hrz22
        clear hrz22
        have g21 := lv_s (x := ix x3) (g1 := ar S21 4 t0) (v := z19) (by rw [ex3]; exact hI38.2.2.2) (by rw [ex3]; exact hI38.2.1) (by rw [ez19, ix17]) (fun j => by rw [arS21 4 t0 j]; rcases Decidable.em (j = ix x3) with c9 | c9; (rw [if_pos ⟨rfl, rfl, c9⟩, if_pos c9]); (rw [if_neg (fun q => c9 q.2.2), if_neg c9]))
        rw [ex3, ← ez22] at g21
        exact hk38 _ (by exact ⟨nS21, rfl, rfl, (by show (S21.1 3 t0).toInt = _; (try clear hk38); grind [k_ii, k_ir, k_ri, k_rr, k_ai, k_ar, k_li, k_lr, k_qi, k_qr, ar_ci, ar_cl, ar_cq, la_ci, la_ca, la_cq, qa_ci, qa_ca, qa_cl, tk_link, kn200]), (by show a0.toInt ≤ z22.toInt; (try clear hk38); grind [k_ii, k_ir, k_ri, k_rr, k_ai, k_ar, k_li, k_lr, k_qi, k_qr, ar_ci, ar_cl, ar_cq, la_ci, la_ca, la_cq, qa_ci, qa_ca, qa_cl, tk_link, kn200]), (by show z22.toInt ≤ _; (try clear hk38); grind [k_ii, k_ir, k_ri, k_rr, k_ai, k_ar, k_li, k_lr, k_qi, k_qr, ar_ci, ar_cl, ar_cq, la_ci, la_ca, la_cq, qa_ci, qa_ca, qa_cl, tk_link, kn200]), g21⟩) (by show (200 - z22.toInt).toNat < _; (try clear hk38); grind [k_ii, k_ir, k_ri, k_rr, k_ai, k_ar, k_li, k_lr, k_qi, k_qr, ar_ci, ar_cl, ar_cq, la_ci, la_ca, la_cq, qa_ci, qa_ca, qa_cl, tk_link, kn200])
    · unfold wT_X1_leaveRow_12
      exact Or.inl (by (try clear hk38); grind [k_ii, k_ir, k_ri, k_rr, k_ai, k_ar, k_li, k_lr, k_qi, k_qr, ar_ci, ar_cl, ar_cq, la_ci, la_ca, la_cq, qa_ci, qa_ca, qa_cl, tk_link, kn200])
