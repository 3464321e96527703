
set_option maxHeartbeats 400000 in
theorem sk_X7_markOutward (t0 : Nat) (a0 : Int32) (a1 : Int32) (a2 : Int32) {S : kS} (hI : INJ S) (ho : ∀ i, -1 ≤ (ar S 43 t0 i).toInt ∧ (ar S 43 t0 i).toInt ≤ 1379) (ha : -1 ≤ a0.toInt ∧ a0.toInt ≤ 1379) (hw : a2 = 4 ∨ a2 = 8) : wT_X7_markOutward t0 a0 a1 a2 S (fun S1 => ∀ i, ar S1 49 t0 i &&& 3 = ar S 49 t0 i &&& 3) := by
  have nS : FX [] S S := FX_rf
  unfold wT_X7_markOutward
  refine it_rule (fun u : Nat × Int32 × Int32 × Int32 × Int32 × kS => (FX [] S u.2.2.2.2.2) ∧ (t0 = u.1 ∧ a1 = u.2.1 ∧ a2 = u.2.2.1 ∧ -1 ≤ u.2.2.2.1.toInt ∧ u.2.2.2.1.toInt ≤ 1379 ∧ 0 ≤ u.2.2.2.2.1.toInt ∧ u.2.2.2.2.1.toInt ≤ 460 ∧ (∀ i, ar u.2.2.2.2.2 43 t0 i = ar S 43 t0 i) ∧ (∀ i, ar u.2.2.2.2.2 49 t0 i &&& 3 = ar S 49 t0 i &&& 3))) (fun u => (460 - u.2.2.2.2.1.toInt).toNat) ?_ (by (try clear hk6); grind [k_ii, k_ir, k_ri, k_rr, k_ai, k_ar, k_li, k_lr, k_qi, k_qr, ar_ci, ar_cl, ar_cq, la_ci, la_ca, la_cq, qa_ci, qa_ca, qa_cl, tk_link, kn460])
  rintro ⟨x0, x2, x3, x4, x5, Sl6⟩ k6 hI6 hk6
  replace hI6 : (FX [] S Sl6) ∧ (t0 = x0 ∧ a1 = x2 ∧ a2 = x3 ∧ -1 ≤ x4.toInt ∧ x4.toInt ≤ 1379 ∧ 0 ≤ x5.toInt ∧ x5.toInt ≤ 460 ∧ (∀ i, ar Sl6 43 t0 i = ar S 43 t0 i) ∧ (∀ i, ar Sl6 49 t0 i &&& 3 = ar S 49 t0 i &&& 3)) := hI6
  obtain ⟨nSl6, hI6⟩ := hI6
  replace hk6 : ∀ v : Nat × Int32 × Int32 × Int32 × Int32 × kS, (FX [] S v.2.2.2.2.2) ∧ (t0 = v.1 ∧ a1 = v.2.1 ∧ a2 = v.2.2.1 ∧ -1 ≤ v.2.2.2.1.toInt ∧ v.2.2.2.1.toInt ≤ 1379 ∧ 0 ≤ v.2.2.2.2.1.toInt ∧ v.2.2.2.2.1.toInt ≤ 460 ∧ (∀ i, ar v.2.2.2.2.2 43 t0 i = ar S 43 t0 i) ∧ (∀ i, ar v.2.2.2.2.2 49 t0 i &&& 3 = ar S 49 t0 i &&& 3)) → (460 - v.2.2.2.2.1.toInt).toNat < (460 - x5.toInt).toNat → k6 v := hk6
  show wT_X7_markOutward_6 _ k6 x0 x2 x3 x4 x5 Sl6
  unfold wT_X7_markOutward_6
  obtain ⟨rfl, hI6⟩ := hI6
  obtain ⟨rfl, hI6⟩ := hI6
  obtain ⟨rfl, hI6⟩ := hI6
  refine ⟨fun c1 => ?_, fun c1 => ?_⟩
  · exact by (try clear hk6); grind [k_ii, k_ir, k_ri, k_rr, k_ai, k_ar, k_li, k_lr, k_qi, k_qr, ar_ci, ar_cl, ar_cq, la_ci, la_ca, la_cq, qa_ci, qa_ca, qa_cl, tk_link, kn460]
  · refine ⟨fun c2 => ?_, fun c2 => ?_⟩
    · exact by (try clear hk6); grind [k_ii, k_ir, k_ri, k_rr, k_ai, k_ar, k_li, k_lr, k_qi, k_qr, ar_ci, ar_cl, ar_cq, la_ci, la_ca, la_cq, qa_ci, qa_ca, qa_cl, tk_link, kn460]
    · refine ⟨fun c3 => ?_, fun c3 => ?_⟩
      · exact by (try clear hk6); grind [k_ii, k_ir, k_ri, k_rr, k_ai, k_ar, k_li, k_lr, k_qi, k_qr, ar_ci, ar_cl, ar_cq, la_ci, la_ca, la_cq, qa_ci, qa_ca, qa_cl, tk_link, kn460]
      · intro z4 ez4
        refine ⟨by (try clear hk6); grind [k_ii, k_ir, k_ri, k_rr, k_ai, k_ar, k_li, k_lr, k_qi, k_qr, ar_ci, ar_cl, ar_cq, la_ci, la_ca, la_cq, qa_ci, qa_ca, qa_cl, tk_link, kn460], ?_⟩
        intro z5 ez5
        have dz5 : z5.toInt = x4.toInt / 3 ∧ 0 ≤ z5.toInt ∧ z5.toInt < 460 := by rw [ez5]; exact dv3 (by (try clear hk6); grind [k_ii, k_ir, k_ri, k_rr, k_ai, k_ar, k_li, k_lr, k_qi, k_qr, ar_ci, ar_cl, ar_cq, la_ci, la_ca, la_cq, qa_ci, qa_ca, qa_cl, tk_link, kn460]) (by (try clear hk6); grind [k_ii, k_ir, k_ri, k_rr, k_ai, k_ar, k_li, k_lr, k_qi, k_qr, ar_ci, ar_cl, ar_cq, la_ci, la_ca, la_cq, qa_ci, qa_ca, qa_cl, tk_link, kn460])
        clear ez5
        intro q6 eq6
        have wq6 := rd_w nSl6 (by decide) ez4 eq6
        refine ⟨by (try clear hk6); grind [k_ii, k_ir, k_ri, k_rr, k_ai, k_ar, k_li, k_lr, k_qi, k_qr, ar_ci, ar_cl, ar_cq, la_ci, la_ca, la_cq, qa_ci, qa_ca, qa_cl, tk_link, kn460], ?_⟩
        intro z7 ez7
        replace ez7 := ez7.trans (ar_rd nSl6 (by decide) (by decide) wq6)
        intro z8 ez8
        have d8 : z8 &&& 3 = z7 &&& 3 := by rw [ez8]; exact mk3 hw
        refine ⟨by (try clear hk6); grind [k_ii, k_ir, k_ri, k_rr, k_ai, k_ar, k_li, k_lr, k_qi, k_qr, ar_ci, ar_cl, ar_cq, la_ci, la_ca, la_cq, qa_ci, qa_ca, qa_cl, tk_link, kn460], ?_⟩
        intro S9 eS9
        have nS9 : FX [] S S9 := FX_a eS9 nSl6
        have arS9 := ar_wr hI nSl6 (by decide) (by decide) wq6 eS9
        intro z10 ez10
        refine ⟨by (try clear hk6); grind [k_ii, k_ir, k_ri, k_rr, k_ai, k_ar, k_li, k_lr, k_qi, k_qr, ar_ci, ar_cl, ar_cq, la_ci, la_ca, la_cq, qa_ci, qa_ca, qa_cl, tk_link, kn460], ?_⟩
        intro z11 ez11
        have dz11 : z11.toInt = x4.toInt / 3 ∧ 0 ≤ z11.toInt ∧ z11.toInt < 460 := by rw [ez11]; exact dv3 (by (try clear hk6); grind [k_ii, k_ir, k_ri, k_rr, k_ai, k_ar, k_li, k_lr, k_qi, k_qr, ar_ci, ar_cl, ar_cq, la_ci, la_ca, la_cq, qa_ci, qa_ca, qa_cl, tk_link, kn460]) (by (try clear hk6); grind [k_ii, k_ir, k_ri, k_rr, k_ai, k_ar, k_li, k_lr, k_qi, k_qr, ar_ci, ar_cl, ar_cq, la_ci, la_ca, la_cq, qa_ci, qa_ca, qa_cl, tk_link, kn460])
        clear ez11
        intro q12 eq12
        have wq12 := rd_w nS9 (by decide) ez10 eq12
        refine ⟨by (try clear hk6); grind [k_ii, k_ir, k_ri, k_rr, k_ai, k_ar, k_li, k_lr, k_qi, k_qr, ar_ci, ar_cl, ar_cq, la_ci, la_ca, la_cq, qa_ci, qa_ca, qa_cl, tk_link, kn460], ?_⟩
        intro z13 ez13
        replace ez13 := ez13.trans (ar_rd nS9 (by decide) (by decide) wq12)
        intro z14 ez14
        have hrz14 : -2147483648 ≤ x5.toInt + 1 ∧ x5.toInt + 1 < 2147483648 := by (try clear hk6); grind [k_ii, k_ir, k_ri, k_rr, k_ai, k_ar, k_li, k_lr, k_qi, k_qr, ar_ci, ar_cl, ar_cq, la_ci, la_ca, la_cq, qa_ci, qa_ca, qa_cl, tk_link, kn460]
        replace ez14 : z14.toInt = x5.toInt + 1 := w_add ez14 hrz14
        clear hrz14
        exact hk6 _ (by (try clear hk6); grind [k_ii, k_ir, k_ri, k_rr, k_ai, k_ar, k_li, k_lr, k_qi, k_qr, ar_ci, ar_cl, ar_cq, la_ci, la_ca, la_cq, qa_ci, qa_ca, qa_cl, tk_link, kn460]) (by (try clear hk6); grind [k_ii, k_ir, k_ri, k_rr, k_ai, k_ar, k_li, k_lr, k_qi, k_qr, ar_ci, ar_cl, ar_cq, la_ci, la_ca, la_cq, qa_ci, qa_ca, qa_cl, tk_link, kn460])
