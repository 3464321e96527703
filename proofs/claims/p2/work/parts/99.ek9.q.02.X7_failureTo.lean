
set_option maxHeartbeats 400000 in
theorem sk_X7_failureTo (t0 : Nat) (a0 : Int32) (a1 : Int32) {S : kS} (hI : INJ S) (ho : ∀ i, -1 ≤ (ar S 43 t0 i).toInt ∧ (ar S 43 t0 i).toInt ≤ 1379) (ha : -1 ≤ a0.toInt ∧ a0.toInt ≤ 1379) : wT_X7_failureTo t0 a0 a1 S (fun S1 r => S = S1) := by
  have nS : FX [] S S := FX_rf
  unfold wT_X7_failureTo
  refine it_rule (fun u : Nat × Int32 × Int32 × Int32 × kS => (FX [] S u.2.2.2.2) ∧ (S = u.2.2.2.2 ∧ t0 = u.1 ∧ a1 = u.2.1 ∧ -1 ≤ u.2.2.1.toInt ∧ u.2.2.1.toInt ≤ 1379 ∧ 0 ≤ u.2.2.2.1.toInt ∧ u.2.2.2.1.toInt ≤ 460)) (fun u => (460 - u.2.2.2.1.toInt).toNat) ?_ (by (try clear hk5); grind [k_ii, k_ir, k_ri, k_rr, k_ai, k_ar, k_li, k_lr, k_qi, k_qr, ar_ci, ar_cl, ar_cq, la_ci, la_ca, la_cq, qa_ci, qa_ca, qa_cl, tk_link, kn460])
  rintro ⟨x0, x2, x3, x4, Sl5⟩ k5 hI5 hk5
  replace hI5 : (FX [] S Sl5) ∧ (S = Sl5 ∧ t0 = x0 ∧ a1 = x2 ∧ -1 ≤ x3.toInt ∧ x3.toInt ≤ 1379 ∧ 0 ≤ x4.toInt ∧ x4.toInt ≤ 460) := hI5
  obtain ⟨nSl5, hI5⟩ := hI5
  replace hk5 : ∀ v : Nat × Int32 × Int32 × Int32 × kS, (FX [] S v.2.2.2.2) ∧ (S = v.2.2.2.2 ∧ t0 = v.1 ∧ a1 = v.2.1 ∧ -1 ≤ v.2.2.1.toInt ∧ v.2.2.1.toInt ≤ 1379 ∧ 0 ≤ v.2.2.2.1.toInt ∧ v.2.2.2.1.toInt ≤ 460) → (460 - v.2.2.2.1.toInt).toNat < (460 - x4.toInt).toNat → k5 v := hk5
  show wT_X7_failureTo_5 _ k5 x0 x2 x3 x4 Sl5
  unfold wT_X7_failureTo_5
  obtain ⟨rfl, hI5⟩ := hI5
  obtain ⟨rfl, hI5⟩ := hI5
  obtain ⟨rfl, hI5⟩ := hI5
  refine ⟨fun c1 => ?_, fun c1 => ?_⟩
  · exact by (try clear hk5); grind [k_ii, k_ir, k_ri, k_rr, k_ai, k_ar, k_li, k_lr, k_qi, k_qr, ar_ci, ar_cl, ar_cq, la_ci, la_ca, la_cq, qa_ci, qa_ca, qa_cl, tk_link, kn460]
  · refine ⟨fun c2 => ?_, fun c2 => ?_⟩
    · exact by (try clear hk5); grind [k_ii, k_ir, k_ri, k_rr, k_ai, k_ar, k_li, k_lr, k_qi, k_qr, ar_ci, ar_cl, ar_cq, la_ci, la_ca, la_cq, qa_ci, qa_ca, qa_cl, tk_link, kn460]
    · refine ⟨by (try clear hk5); grind [k_ii, k_ir, k_ri, k_rr, k_ai, k_ar, k_li, k_lr, k_qi, k_qr, ar_ci, ar_cl, ar_cq, la_ci, la_ca, la_cq, qa_ci, qa_ca, qa_cl, tk_link, kn460], ?_⟩
      intro z3 ez3
      have dz3 : z3.toInt = x3.toInt / 3 ∧ 0 ≤ z3.toInt ∧ z3.toInt < 460 := by rw [ez3]; exact dv3 (by (try clear hk5); grind [k_ii, k_ir, k_ri, k_rr, k_ai, k_ar, k_li, k_lr, k_qi, k_qr, ar_ci, ar_cl, ar_cq, la_ci, la_ca, la_cq, qa_ci, qa_ca, qa_cl, tk_link, kn460]) (by (try clear hk5); grind [k_ii, k_ir, k_ri, k_rr, k_ai, k_ar, k_li, k_lr, k_qi, k_qr, ar_ci, ar_cl, ar_cq, la_ci, la_ca, la_cq, qa_ci, qa_ca, qa_cl, tk_link, kn460])
      clear ez3
      refine ⟨by (try clear hk5); grind [k_ii, k_ir, k_ri, k_rr, k_ai, k_ar, k_li, k_lr, k_qi, k_qr, ar_ci, ar_cl, ar_cq, la_ci, la_ca, la_cq, qa_ci, qa_ca, qa_cl, tk_link, kn460], ?_⟩
      intro z4 ez4
      refine ⟨fun c3 => ?_, fun c3 => ?_⟩
      · unfold wT_X7_failureTo_46
        refine ⟨by (try clear hk5); grind [k_ii, k_ir, k_ri, k_rr, k_ai, k_ar, k_li, k_lr, k_qi, k_qr, ar_ci, ar_cl, ar_cq, la_ci, la_ca, la_cq, qa_ci, qa_ca, qa_cl, tk_link, kn460], ?_⟩
        intro z11 ez11
        refine ⟨fun c4 => ?_, fun c4 => ?_⟩
        · unfold wT_X7_failureTo_71
          intro z18 ez18
          intro q19 eq19
          have wq19 := rd_w nS (by decide) ez18 eq19
          refine ⟨by (try clear hk5); grind [k_ii, k_ir, k_ri, k_rr, k_ai, k_ar, k_li, k_lr, k_qi, k_qr, ar_ci, ar_cl, ar_cq, la_ci, la_ca, la_cq, qa_ci, qa_ca, qa_cl, tk_link, kn460], ?_⟩
          intro z20 ez20
          replace ez20 := ez20.trans (ar_rd nS (by decide) (by decide) wq19)
          intro z21 ez21
          have hrz21 : -2147483648 ≤ x4.toInt + 1 ∧ x4.toInt + 1 < 2147483648 := by (try clear hk5); grind [k_ii, k_ir, k_ri, k_rr, k_ai, k_ar, k_li, k_lr, k_qi, k_qr, ar_ci, ar_cl, ar_cq, la_ci, la_ca, la_cq, qa_ci, qa_ca, qa_cl, tk_link, kn460]
          replace ez21 : z21.toInt = x4.toInt + 1 := w_add ez21 hrz21
          clear hrz21
          exact hk5 _ (by (try clear hk5); grind [k_ii, k_ir, k_ri, k_rr, k_ai, k_ar, k_li, k_lr, k_qi, k_qr, ar_ci, ar_cl, ar_cq, la_ci, la_ca, la_cq, qa_ci, qa_ca, qa_cl, tk_link, kn460]) (by (try clear hk5); grind [k_ii, k_ir, k_ri, k_rr, k_ai, k_ar, k_li, k_lr, k_qi, k_qr, ar_ci, ar_cl, ar_cq, la_ci, la_ca, la_cq, qa_ci, qa_ca, qa_cl, tk_link, kn460])
        · refine kmT_X7_is _ _ _ _ _ _ (fun S13 r13 hF5 pS13 => ?_) (sk_X7_is _ _ _ (INJ_x nS (by decide) hI) (by (try clear hk5); grind [k_ii, k_ir, k_ri, k_rr, k_ai, k_ar, k_li, k_lr, k_qi, k_qr, ar_ci, ar_cl, ar_cq, la_ci, la_ca, la_cq, qa_ci, qa_ca, qa_cl, tk_link, kn460]))
          obtain ⟨rfl, pS13⟩ := pS13
          clear hF5
          refine ⟨fun c6 => ?_, fun c6 => ?_⟩
          · unfold wT_X7_failureTo_71
            intro z18 ez18
            intro q19 eq19
            have wq19 := rd_w nS (by decide) ez18 eq19
            refine ⟨by (try clear hk5); grind [k_ii, k_ir, k_ri, k_rr, k_ai, k_ar, k_li, k_lr, k_qi, k_qr, ar_ci, ar_cl, ar_cq, la_ci, la_ca, la_cq, qa_ci, qa_ca, qa_cl, tk_link, kn460], ?_⟩
            intro z20 ez20
            replace ez20 := ez20.trans (ar_rd nS (by decide) (by decide) wq19)
            intro z21 ez21
            have hrz21 : -2147483648 ≤ x4.toInt + 1 ∧ x4.toInt + 1 < 2147483648 := by (try clear hk5); grind [k_ii, k_ir, k_ri, k_rr, k_ai, k_ar, k_li, k_lr, k_qi, k_qr, ar_ci, ar_cl, ar_cq, la_ci, la_ca, la_cq, qa_ci, qa_ca, qa_cl, tk_link, kn460]
            replace ez21 : z21.toInt = x4.toInt + 1 := w_add ez21 hrz21
            clear hrz21
            exact hk5 _ (by (try clear hk5); grind [k_ii, k_ir, k_ri, k_rr, k_ai, k_ar, k_li, k_lr, k_qi, k_qr, ar_ci, ar_cl, ar_cq, la_ci, la_ca, la_cq, qa_ci, qa_ca, qa_cl, tk_link, kn460]) (by (try clear hk5); grind [k_ii, k_ir, k_ri, k_rr, k_ai, k_ar, k_li, k_lr, k_qi, k_qr, ar_ci, ar_cl, ar_cq, la_ci, la_ca, la_cq, qa_ci, qa_ca, qa_cl, tk_link, kn460])
          · intro z15 ez15
            intro q16 eq16
            have wq16 := rd_w nS (by decide) ez15 eq16
            refine ⟨by (try clear hk5); grind [k_ii, k_ir, k_ri, k_rr, k_ai, k_ar, k_li, k_lr, k_qi, k_qr, ar_ci, ar_cl, ar_cq, la_ci, la_ca, la_cq, qa_ci, qa_ca, qa_cl, tk_link, kn460], ?_⟩
            intro z17 ez17
            replace ez17 := ez17.trans (ar_rd nS (by decide) (by decide) wq16)
            exact by (try clear hk5); grind [k_ii, k_ir, k_ri, k_rr, k_ai, k_ar, k_li, k_lr, k_qi, k_qr, ar_ci, ar_cl, ar_cq, la_ci, la_ca, la_cq, qa_ci, qa_ca, qa_cl, tk_link, kn460]
      · refine kmT_X7_is _ _ _ _ _ _ (fun S6 r6 hF7 pS6 => ?_) (sk_X7_is _ _ _ (INJ_x nS (by decide) hI) (by (try clear hk5); grind [k_ii, k_ir, k_ri, k_rr, k_ai, k_ar, k_li, k_lr, k_qi, k_qr, ar_ci, ar_cl, ar_cq, la_ci, la_ca, la_cq, qa_ci, qa_ca, qa_cl, tk_link, kn460]))
        obtain ⟨rfl, pS6⟩ := pS6
        clear hF7
        refine ⟨fun c8 => ?_, fun c8 => ?_⟩
        · unfold wT_X7_failureTo_46
          refine ⟨by (try clear hk5); grind [k_ii, k_ir, k_ri, k_rr, k_ai, k_ar, k_li, k_lr, k_qi, k_qr, ar_ci, ar_cl, ar_cq, la_ci, la_ca, la_cq, qa_ci, qa_ca, qa_cl, tk_link, kn460], ?_⟩
          intro z11 ez11
          refine ⟨fun c9 => ?_, fun c9 => ?_⟩
          · unfold wT_X7_failureTo_71
            intro z18 ez18
            intro q19 eq19
            have wq19 := rd_w nS (by decide) ez18 eq19
            refine ⟨by (try clear hk5); grind [k_ii, k_ir, k_ri, k_rr, k_ai, k_ar, k_li, k_lr, k_qi, k_qr, ar_ci, ar_cl, ar_cq, la_ci, la_ca, la_cq, qa_ci, qa_ca, qa_cl, tk_link, kn460], ?_⟩
            intro z20 ez20
            replace ez20 := ez20.trans (ar_rd nS (by decide) (by decide) wq19)
            intro z21 ez21
            have hrz21 : -2147483648 ≤ x4.toInt + 1 ∧ x4.toInt + 1 < 2147483648 := by (try clear hk5); grind [k_ii, k_ir, k_ri, k_rr, k_ai, k_ar, k_li, k_lr, k_qi, k_qr, ar_ci, ar_cl, ar_cq, la_ci, la_ca, la_cq, qa_ci, qa_ca, qa_cl, tk_link, kn460]
            replace ez21 : z21.toInt = x4.toInt + 1 := w_add ez21 hrz21
            clear hrz21
            exact hk5 _ (by (try clear hk5); grind [k_ii, k_ir, k_ri, k_rr, k_ai, k_ar, k_li, k_lr, k_qi, k_qr, ar_ci, ar_cl, ar_cq, la_ci, la_ca, la_cq, qa_ci, qa_ca, qa_cl, tk_link, kn460]) (by (try clear hk5); grind [k_ii, k_ir, k_ri, k_rr, k_ai, k_ar, k_li, k_lr, k_qi, k_qr, ar_ci, ar_cl, ar_cq, la_ci, la_ca, la_cq, qa_ci, qa_ca, qa_cl, tk_link, kn460])
          · refine kmT_X7_is _ _ _ _ _ _ (fun S13 r13 hF10 pS13 => ?_) (sk_X7_is _ _ _ (INJ_x nS (by decide) hI) (by (try clear hk5); grind [k_ii, k_ir, k_ri, k_rr, k_ai, k_ar, k_li, k_lr, k_qi, k_qr, ar_ci, ar_cl, ar_cq, la_ci, la_ca, la_cq, qa_ci, qa_ca, qa_cl, tk_link, kn460]))
            obtain ⟨rfl, pS13⟩ := pS13
            clear hF10
            refine ⟨fun c11 => ?_, fun c11 => ?_⟩
            · unfold wT_X7_failureTo_71
              intro z18 ez18
              intro q19 eq19
              have wq19 := rd_w nS (by decide) ez18 eq19
              refine ⟨by (try clear hk5); grind [k_ii, k_ir, k_ri, k_rr, k_ai, k_ar, k_li, k_lr, k_qi, k_qr, ar_ci, ar_cl, ar_cq, la_ci, la_ca, la_cq, qa_ci, qa_ca, qa_cl, tk_link, kn460], ?_⟩
              intro z20 ez20
              replace ez20 := ez20.trans (ar_rd nS (by decide) (by decide) wq19)
              intro z21 ez21
              have hrz21 : -2147483648 ≤ x4.toInt + 1 ∧ x4.toInt + 1 < 2147483648 := by (try clear hk5); grind [k_ii, k_ir, k_ri, k_rr, k_ai, k_ar, k_li, k_lr, k_qi, k_qr, ar_ci, ar_cl, ar_cq, la_ci, la_ca, la_cq, qa_ci, qa_ca, qa_cl, tk_link, kn460]
              replace ez21 : z21.toInt = x4.toInt + 1 := w_add ez21 hrz21
              clear hrz21
              exact hk5 _ (by (try clear hk5); grind [k_ii, k_ir, k_ri, k_rr, k_ai, k_ar, k_li, k_lr, k_qi, k_qr, ar_ci, ar_cl, ar_cq, la_ci, la_ca, la_cq, qa_ci, qa_ca, qa_cl, tk_link, kn460]) (by (try clear hk5); grind [k_ii, k_ir, k_ri, k_rr, k_ai, k_ar, k_li, k_lr, k_qi, k_qr, ar_ci, ar_cl, ar_cq, la_ci, la_ca, la_cq, qa_ci, qa_ca, qa_cl, tk_link, kn460])
            · intro z15 ez15
              intro q16 eq16
              have wq16 := rd_w nS (by decide) ez15 eq16
              refine ⟨by (try clear hk5); grind [k_ii, k_ir, k_ri, k_rr, k_ai, k_ar, k_li, k_lr, k_qi, k_qr, ar_ci, ar_cl, ar_cq, la_ci, la_ca, la_cq, qa_ci, qa_ca, qa_cl, tk_link, kn460], ?_⟩
              intro z17 ez17
              replace ez17 := ez17.trans (ar_rd nS (by decide) (by decide) wq16)
              exact by (try clear hk5); grind [k_ii, k_ir, k_ri, k_rr, k_ai, k_ar, k_li, k_lr, k_qi, k_qr, ar_ci, ar_cl, ar_cq, la_ci, la_ca, la_cq, qa_ci, qa_ca, qa_cl, tk_link, kn460]
        · intro z8 ez8
          intro q9 eq9
          have wq9 := rd_w nS (by decide) ez8 eq9
          refine ⟨by (try clear hk5); grind [k_ii, k_ir, k_ri, k_rr, k_ai, k_ar, k_li, k_lr, k_qi, k_qr, ar_ci, ar_cl, ar_cq, la_ci, la_ca, la_cq, qa_ci, qa_ca, qa_cl, tk_link, kn460], ?_⟩
          intro z10 ez10
          replace ez10 := ez10.trans (ar_rd nS (by decide) (by decide) wq9)
          exact by (try clear hk5); grind [k_ii, k_ir, k_ri, k_rr, k_ai, k_ar, k_li, k_lr, k_qi, k_qr, ar_ci, ar_cl, ar_cq, la_ci, la_ca, la_cq, qa_ci, qa_ca, qa_cl, tk_link, kn460]
