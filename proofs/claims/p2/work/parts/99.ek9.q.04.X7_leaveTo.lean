
set_option maxHeartbeats 400000 in
theorem sk_X7_leaveTo (t0 : Nat) (a0 : Int32) (a1 : Int32) (a2 : Int32) {S : kS} (hI : INJ S) (ho : ∀ i, -1 ≤ (ar S 43 t0 i).toInt ∧ (ar S 43 t0 i).toInt ≤ 1379) (ha : -1 ≤ a0.toInt ∧ a0.toInt ≤ 1379) : wT_X7_leaveTo t0 a0 a1 a2 S (fun S1 r => S = S1) := by
  have nS : FX [] S S := FX_rf
  unfold wT_X7_leaveTo
  refine it_rule (fun u : Nat × Int32 × Int32 × Int32 × Int32 × kS => (FX [] S u.2.2.2.2.2) ∧ (S = u.2.2.2.2.2 ∧ t0 = u.1 ∧ a1 = u.2.1 ∧ a2 = u.2.2.1 ∧ -1 ≤ u.2.2.2.1.toInt ∧ u.2.2.2.1.toInt ≤ 1379 ∧ 0 ≤ u.2.2.2.2.1.toInt ∧ u.2.2.2.2.1.toInt ≤ 460)) (fun u => (460 - u.2.2.2.2.1.toInt).toNat) ?_ (by (try clear hk6); grind [k_ii, k_ir, k_ri, k_rr, k_ai, k_ar, k_li, k_lr, k_qi, k_qr, ar_ci, ar_cl, ar_cq, la_ci, la_ca, la_cq, qa_ci, qa_ca, qa_cl, tk_link, kn460])
  rintro ⟨x0, x2, x3, x4, x5, Sl6⟩ k6 hI6 hk6
  replace hI6 : (FX [] S Sl6) ∧ (S = Sl6 ∧ t0 = x0 ∧ a1 = x2 ∧ a2 = x3 ∧ -1 ≤ x4.toInt ∧ x4.toInt ≤ 1379 ∧ 0 ≤ x5.toInt ∧ x5.toInt ≤ 460) := hI6
  obtain ⟨nSl6, hI6⟩ := hI6
  replace hk6 : ∀ v : Nat × Int32 × Int32 × Int32 × Int32 × kS, (FX [] S v.2.2.2.2.2) ∧ (S = v.2.2.2.2.2 ∧ t0 = v.1 ∧ a1 = v.2.1 ∧ a2 = v.2.2.1 ∧ -1 ≤ v.2.2.2.1.toInt ∧ v.2.2.2.1.toInt ≤ 1379 ∧ 0 ≤ v.2.2.2.2.1.toInt ∧ v.2.2.2.2.1.toInt ≤ 460) → (460 - v.2.2.2.2.1.toInt).toNat < (460 - x5.toInt).toNat → k6 v := hk6
  show wT_X7_leaveTo_6 _ k6 x0 x2 x3 x4 x5 Sl6
  unfold wT_X7_leaveTo_6
  obtain ⟨rfl, hI6⟩ := hI6
  obtain ⟨rfl, hI6⟩ := hI6
  obtain ⟨rfl, hI6⟩ := hI6
  obtain ⟨rfl, hI6⟩ := hI6
  refine ⟨fun c1 => ?_, fun c1 => ?_⟩
  · exact by (try clear hk6); grind [k_ii, k_ir, k_ri, k_rr, k_ai, k_ar, k_li, k_lr, k_qi, k_qr, ar_ci, ar_cl, ar_cq, la_ci, la_ca, la_cq, qa_ci, qa_ca, qa_cl, tk_link, kn460]
  · refine ⟨fun c2 => ?_, fun c2 => ?_⟩
    · exact by (try clear hk6); grind [k_ii, k_ir, k_ri, k_rr, k_ai, k_ar, k_li, k_lr, k_qi, k_qr, ar_ci, ar_cl, ar_cq, la_ci, la_ca, la_cq, qa_ci, qa_ca, qa_cl, tk_link, kn460]
    · refine ⟨fun c3 => ?_, fun c3 => ?_⟩
      · exact by (try clear hk6); grind [k_ii, k_ir, k_ri, k_rr, k_ai, k_ar, k_li, k_lr, k_qi, k_qr, ar_ci, ar_cl, ar_cq, la_ci, la_ca, la_cq, qa_ci, qa_ca, qa_cl, tk_link, kn460]
      · refine ⟨by (try clear hk6); grind [k_ii, k_ir, k_ri, k_rr, k_ai, k_ar, k_li, k_lr, k_qi, k_qr, ar_ci, ar_cl, ar_cq, la_ci, la_ca, la_cq, qa_ci, qa_ca, qa_cl, tk_link, kn460], ?_⟩
        intro z4 ez4
        have dz4 : z4.toInt = x4.toInt / 3 ∧ 0 ≤ z4.toInt ∧ z4.toInt < 460 := by rw [ez4]; exact dv3 (by (try clear hk6); grind [k_ii, k_ir, k_ri, k_rr, k_ai, k_ar, k_li, k_lr, k_qi, k_qr, ar_ci, ar_cl, ar_cq, la_ci, la_ca, la_cq, qa_ci, qa_ca, qa_cl, tk_link, kn460]) (by (try clear hk6); grind [k_ii, k_ir, k_ri, k_rr, k_ai, k_ar, k_li, k_lr, k_qi, k_qr, ar_ci, ar_cl, ar_cq, la_ci, la_ca, la_cq, qa_ci, qa_ca, qa_cl, tk_link, kn460])
        clear ez4
        refine ⟨by (try clear hk6); grind [k_ii, k_ir, k_ri, k_rr, k_ai, k_ar, k_li, k_lr, k_qi, k_qr, ar_ci, ar_cl, ar_cq, la_ci, la_ca, la_cq, qa_ci, qa_ca, qa_cl, tk_link, kn460], ?_⟩
        intro z5 ez5
        refine ⟨fun c4 => ?_, fun c4 => ?_⟩
        · unfold wT_X7_leaveTo_57
          intro z12 ez12
          intro q13 eq13
          have wq13 := rd_w nS (by decide) ez12 eq13
          refine ⟨by (try clear hk6); grind [k_ii, k_ir, k_ri, k_rr, k_ai, k_ar, k_li, k_lr, k_qi, k_qr, ar_ci, ar_cl, ar_cq, la_ci, la_ca, la_cq, qa_ci, qa_ca, qa_cl, tk_link, kn460], ?_⟩
          intro z14 ez14
          replace ez14 := ez14.trans (ar_rd nS (by decide) (by decide) wq13)
          intro z15 ez15
          have hrz15 : -2147483648 ≤ x5.toInt + 1 ∧ x5.toInt + 1 < 2147483648 := by (try clear hk6); grind [k_ii, k_ir, k_ri, k_rr, k_ai, k_ar, k_li, k_lr, k_qi, k_qr, ar_ci, ar_cl, ar_cq, la_ci, la_ca, la_cq, qa_ci, qa_ca, qa_cl, tk_link, kn460]
          replace ez15 : z15.toInt = x5.toInt + 1 := w_add ez15 hrz15
          clear hrz15
          exact hk6 _ (by (try clear hk6); grind [k_ii, k_ir, k_ri, k_rr, k_ai, k_ar, k_li, k_lr, k_qi, k_qr, ar_ci, ar_cl, ar_cq, la_ci, la_ca, la_cq, qa_ci, qa_ca, qa_cl, tk_link, kn460]) (by (try clear hk6); grind [k_ii, k_ir, k_ri, k_rr, k_ai, k_ar, k_li, k_lr, k_qi, k_qr, ar_ci, ar_cl, ar_cq, la_ci, la_ca, la_cq, qa_ci, qa_ca, qa_cl, tk_link, kn460])
        · refine kmT_X7_is _ _ _ _ _ _ (fun S7 r7 hF5 pS7 => ?_) (sk_X7_is _ _ _ (INJ_x nS (by decide) hI) (by (try clear hk6); grind [k_ii, k_ir, k_ri, k_rr, k_ai, k_ar, k_li, k_lr, k_qi, k_qr, ar_ci, ar_cl, ar_cq, la_ci, la_ca, la_cq, qa_ci, qa_ca, qa_cl, tk_link, kn460]))
          obtain ⟨rfl, pS7⟩ := pS7
          clear hF5
          refine ⟨fun c6 => ?_, fun c6 => ?_⟩
          · unfold wT_X7_leaveTo_57
            intro z12 ez12
            intro q13 eq13
            have wq13 := rd_w nS (by decide) ez12 eq13
            refine ⟨by (try clear hk6); grind [k_ii, k_ir, k_ri, k_rr, k_ai, k_ar, k_li, k_lr, k_qi, k_qr, ar_ci, ar_cl, ar_cq, la_ci, la_ca, la_cq, qa_ci, qa_ca, qa_cl, tk_link, kn460], ?_⟩
            intro z14 ez14
            replace ez14 := ez14.trans (ar_rd nS (by decide) (by decide) wq13)
            intro z15 ez15
            have hrz15 : -2147483648 ≤ x5.toInt + 1 ∧ x5.toInt + 1 < 2147483648 := by (try clear hk6); grind [k_ii, k_ir, k_ri, k_rr, k_ai, k_ar, k_li, k_lr, k_qi, k_qr, ar_ci, ar_cl, ar_cq, la_ci, la_ca, la_cq, qa_ci, qa_ca, qa_cl, tk_link, kn460]
            replace ez15 : z15.toInt = x5.toInt + 1 := w_add ez15 hrz15
            clear hrz15
            exact hk6 _ (by (try clear hk6); grind [k_ii, k_ir, k_ri, k_rr, k_ai, k_ar, k_li, k_lr, k_qi, k_qr, ar_ci, ar_cl, ar_cq, la_ci, la_ca, la_cq, qa_ci, qa_ca, qa_cl, tk_link, kn460]) (by (try clear hk6); grind [k_ii, k_ir, k_ri, k_rr, k_ai, k_ar, k_li, k_lr, k_qi, k_qr, ar_ci, ar_cl, ar_cq, la_ci, la_ca, la_cq, qa_ci, qa_ca, qa_cl, tk_link, kn460])
          · intro z9 ez9
            intro q10 eq10
            have wq10 := rd_w nS (by decide) ez9 eq10
            refine ⟨by (try clear hk6); grind [k_ii, k_ir, k_ri, k_rr, k_ai, k_ar, k_li, k_lr, k_qi, k_qr, ar_ci, ar_cl, ar_cq, la_ci, la_ca, la_cq, qa_ci, qa_ca, qa_cl, tk_link, kn460], ?_⟩
            intro z11 ez11
            replace ez11 := ez11.trans (ar_rd nS (by decide) (by decide) wq10)
            exact by (try clear hk6); grind [k_ii, k_ir, k_ri, k_rr, k_ai, k_ar, k_li, k_lr, k_qi, k_qr, ar_ci, ar_cl, ar_cq, la_ci, la_ca, la_cq, qa_ci, qa_ca, qa_cl, tk_link, kn460]
