
set_option maxHeartbeats 400000 in
theorem sk_X5_cellOf (t0 : Nat) (a0 : Int64) {S : kS} (hI : INJ S) (hc : ∀ i, 0 ≤ (ar S 35 t0 i).toInt ∧ (ar S 35 t0 i).toInt ≤ 12) (hr : 0 ≤ (S.1 18 t0).toInt ∧ (S.1 18 t0).toInt ≤ 12) : wT_X5_cellOf t0 a0 S (fun S1 r => ∀ i, 0 ≤ (ar S1 35 t0 i).toInt ∧ (ar S1 35 t0 i).toInt ≤ 12) := by
  have nS : FX [] S S := FX_rf
  unfold wT_X5_cellOf
  intro z1 ez1
  intro z2 ez2
  have hrz2 : -2147483648 ≤ z1.toInt - 1 ∧ z1.toInt - 1 < 2147483648 := by (try clear hk16); grind [kx_int, k_ii, k_ir, k_ri, k_rr, k_ai, k_ar, k_li, k_lr, k_qi, k_qr, ar_ci, ar_cl, ar_cq, la_ci, la_ca, la_cq, qa_ci, qa_ca, qa_cl, tk_link, kn12, kn144]
  replace ez2 : z2.toInt = z1.toInt - 1 := w_sub ez2 hrz2
  clear hrz2
  refine ⟨fun c1 => ?_, fun c1 => ?_⟩
  · refine it_rule (fun u : Nat × Int64 × Int32 × Int32 × kS => (FX [] S u.2.2.2.2) ∧ (S = u.2.2.2.2 ∧ t0 = u.1 ∧ a0 = u.2.1 ∧ 0 ≤ u.2.2.1.toInt ∧ u.2.2.1.toInt < 12 ∧ 0 ≤ u.2.2.2.1.toInt ∧ u.2.2.2.1.toInt ≤ 12)) (fun u => (12 - u.2.2.2.1.toInt).toNat) ?_ (by (try clear hk16); grind [kx_int, k_ii, k_ir, k_ri, k_rr, k_ai, k_ar, k_li, k_lr, k_qi, k_qr, ar_ci, ar_cl, ar_cq, la_ci, la_ca, la_cq, qa_ci, qa_ca, qa_cl, tk_link, kn12, kn144])
    rintro ⟨x0, x1, x3, x4, Sl16⟩ k16 hI16 hk16
    replace hI16 : (FX [] S Sl16) ∧ (S = Sl16 ∧ t0 = x0 ∧ a0 = x1 ∧ 0 ≤ x3.toInt ∧ x3.toInt < 12 ∧ 0 ≤ x4.toInt ∧ x4.toInt ≤ 12) := hI16
    obtain ⟨nSl16, hI16⟩ := hI16
    replace hk16 : ∀ v : Nat × Int64 × Int32 × Int32 × kS, (FX [] S v.2.2.2.2) ∧ (S = v.2.2.2.2 ∧ t0 = v.1 ∧ a0 = v.2.1 ∧ 0 ≤ v.2.2.1.toInt ∧ v.2.2.1.toInt < 12 ∧ 0 ≤ v.2.2.2.1.toInt ∧ v.2.2.2.1.toInt ≤ 12) → (12 - v.2.2.2.1.toInt).toNat < (12 - x4.toInt).toNat → k16 v := hk16
    show wT_X5_cellOf_16 _ k16 x0 x1 x3 x4 Sl16
    unfold wT_X5_cellOf_16
    obtain ⟨rfl, hI16⟩ := hI16
    obtain ⟨rfl, hI16⟩ := hI16
    obtain ⟨rfl, hI16⟩ := hI16
    intro z4 ez4
    intro q5 eq5
    have wq5 := rd_w nS (by decide) ez4 eq5
    refine ⟨by (try clear hk16); grind [kx_int, k_ii, k_ir, k_ri, k_rr, k_ai, k_ar, k_li, k_lr, k_qi, k_qr, ar_ci, ar_cl, ar_cq, la_ci, la_ca, la_cq, qa_ci, qa_ca, qa_cl, tk_link, kn12, kn144], ?_⟩
    intro z6 ez6
    replace ez6 := ez6.trans (ar_rd nS (by decide) (by decide) wq5)
    refine ⟨fun c2 => ?_, fun c2 => ?_⟩
    · intro z8 ez8
      intro q9 eq9
      have wq9 := rd_w nS (by decide) ez8 eq9
      refine ⟨by (try clear hk16); grind [kx_int, k_ii, k_ir, k_ri, k_rr, k_ai, k_ar, k_li, k_lr, k_qi, k_qr, ar_ci, ar_cl, ar_cq, la_ci, la_ca, la_cq, qa_ci, qa_ca, qa_cl, tk_link, kn12, kn144], ?_⟩
      intro z10 ez10
      replace ez10 := ez10.trans (ar_rd nS (by decide) (by decide) wq9)
      refine ⟨fun c3 => ?_, fun c3 => ?_⟩
      · intro z12 ez12
        intro z13 ez13
        have hrz13 : -100000 ≤ x3.toInt ∧ x3.toInt ≤ 100000 := by (try clear hk16); grind [kx_int, k_ii, k_ir, k_ri, k_rr, k_ai, k_ar, k_li, k_lr, k_qi, k_qr, ar_ci, ar_cl, ar_cq, la_ci, la_ca, la_cq, qa_ci, qa_ca, qa_cl, tk_link, kn12, kn144]
        replace ez13 : z13.toInt = 12 * x3.toInt := w_mc ez13 rfl (by decide) hrz13
        intro z14 ez14
        intro q15 eq15
        have wq15 := rd_w nS (by decide) ez14 eq15
        refine ⟨by (try clear hk16); grind [kx_int, k_ii, k_ir, k_ri, k_rr, k_ai, k_ar, k_li, k_lr, k_qi, k_qr, ar_ci, ar_cl, ar_cq, la_ci, la_ca, la_cq, qa_ci, qa_ca, qa_cl, tk_link, kn12, kn144], ?_⟩
        intro z16 ez16
        replace ez16 := ez16.trans (ar_rd nS (by decide) (by decide) wq15)
        intro z17 ez17
        have hrz17 : -2147483648 ≤ z13.toInt + z16.toInt ∧ z13.toInt + z16.toInt < 2147483648 := by (try clear hk16); grind [kx_int, k_ii, k_ir, k_ri, k_rr, k_ai, k_ar, k_li, k_lr, k_qi, k_qr, ar_ci, ar_cl, ar_cq, la_ci, la_ca, la_cq, qa_ci, qa_ca, qa_cl, tk_link, kn12, kn144]
        replace ez17 : z17.toInt = z13.toInt + z16.toInt := w_add ez17 hrz17
        clear hrz17
        intro q18 eq18
        have wq18 := rd_w nS (by decide) ez12 eq18
        refine ⟨by (try clear hk16); grind [kx_int, k_ii, k_ir, k_ri, k_rr, k_ai, k_ar, k_li, k_lr, k_qi, k_qr, ar_ci, ar_cl, ar_cq, la_ci, la_ca, la_cq, qa_ci, qa_ca, qa_cl, tk_link, kn12, kn144], ?_⟩
        intro S19 eS19
        have nS19 : FX [] S S19 := FX_l eS19 nS
        have laS19 := la_wr hI nS (by decide) (by decide) wq18 eS19
        intro z20 ez20
        intro q21 eq21
        have wq21 := rd_w nS19 (by decide) ez20 eq21
        refine ⟨by (try clear hk16); grind [kx_int, k_ii, k_ir, k_ri, k_rr, k_ai, k_ar, k_li, k_lr, k_qi, k_qr, ar_ci, ar_cl, ar_cq, la_ci, la_ca, la_cq, qa_ci, qa_ca, qa_cl, tk_link, kn12, kn144], ?_⟩
        intro z22 ez22
        replace ez22 := ez22.trans (ar_rd nS19 (by decide) (by decide) wq21)
        intro z23 ez23
        have hrz23 : -2147483648 ≤ z22.toInt + 1 ∧ z22.toInt + 1 < 2147483648 := by (try clear hk16); grind [kx_int, k_ii, k_ir, k_ri, k_rr, k_ai, k_ar, k_li, k_lr, k_qi, k_qr, ar_ci, ar_cl, ar_cq, la_ci, la_ca, la_cq, qa_ci, qa_ca, qa_cl, tk_link, kn12, kn144]
        replace ez23 : z23.toInt = z22.toInt + 1 := w_add ez23 hrz23
        clear hrz23
        refine ⟨by (try clear hk16); grind [kx_int, k_ii, k_ir, k_ri, k_rr, k_ai, k_ar, k_li, k_lr, k_qi, k_qr, ar_ci, ar_cl, ar_cq, la_ci, la_ca, la_cq, qa_ci, qa_ca, qa_cl, tk_link, kn12, kn144], ?_⟩
        intro S24 eS24
        have nS24 : FX [] S S24 := FX_a eS24 nS19
        have arS24 := ar_wr hI nS19 (by decide) (by decide) wq21 eS24
        intro z25 ez25
        intro q26 eq26
        have wq26 := rd_w nS24 (by decide) ez25 eq26
        refine ⟨by (try clear hk16); grind [kx_int, k_ii, k_ir, k_ri, k_rr, k_ai, k_ar, k_li, k_lr, k_qi, k_qr, ar_ci, ar_cl, ar_cq, la_ci, la_ca, la_cq, qa_ci, qa_ca, qa_cl, tk_link, kn12, kn144], ?_⟩
        intro z27 ez27
        replace ez27 := ez27.trans (ar_rd nS24 (by decide) (by decide) wq26)
        intro z28 ez28
        have hrz28 : -2147483648 ≤ z27.toInt - 1 ∧ z27.toInt - 1 < 2147483648 := by (try clear hk16); grind [kx_int, k_ii, k_ir, k_ri, k_rr, k_ai, k_ar, k_li, k_lr, k_qi, k_qr, ar_ci, ar_cl, ar_cq, la_ci, la_ca, la_cq, qa_ci, qa_ca, qa_cl, tk_link, kn12, kn144]
        replace ez28 : z28.toInt = z27.toInt - 1 := w_sub ez28 hrz28
        clear hrz28
        exact by (try clear hk16); grind [kx_int, k_ii, k_ir, k_ri, k_rr, k_ai, k_ar, k_li, k_lr, k_qi, k_qr, ar_ci, ar_cl, ar_cq, la_ci, la_ca, la_cq, qa_ci, qa_ca, qa_cl, tk_link, kn12, kn144]
      · exact by (try clear hk16); grind [kx_int, k_ii, k_ir, k_ri, k_rr, k_ai, k_ar, k_li, k_lr, k_qi, k_qr, ar_ci, ar_cl, ar_cq, la_ci, la_ca, la_cq, qa_ci, qa_ca, qa_cl, tk_link, kn12, kn144]
    · intro z29 ez29
      intro z30 ez30
      have hrz30 : -100000 ≤ x3.toInt ∧ x3.toInt ≤ 100000 := by (try clear hk16); grind [kx_int, k_ii, k_ir, k_ri, k_rr, k_ai, k_ar, k_li, k_lr, k_qi, k_qr, ar_ci, ar_cl, ar_cq, la_ci, la_ca, la_cq, qa_ci, qa_ca, qa_cl, tk_link, kn12, kn144]
      replace ez30 : z30.toInt = 12 * x3.toInt := w_mc ez30 rfl (by decide) hrz30
      intro z31 ez31
      have hrz31 : -2147483648 ≤ z30.toInt + x4.toInt ∧ z30.toInt + x4.toInt < 2147483648 := by (try clear hk16); grind [kx_int, k_ii, k_ir, k_ri, k_rr, k_ai, k_ar, k_li, k_lr, k_qi, k_qr, ar_ci, ar_cl, ar_cq, la_ci, la_ca, la_cq, qa_ci, qa_ca, qa_cl, tk_link, kn12, kn144]
      replace ez31 : z31.toInt = z30.toInt + x4.toInt := w_add ez31 hrz31
      clear hrz31
      intro q32 eq32
      have wq32 := rd_w nS (by decide) ez29 eq32
      refine ⟨by (try clear hk16); grind [kx_int, k_ii, k_ir, k_ri, k_rr, k_ai, k_ar, k_li, k_lr, k_qi, k_qr, ar_ci, ar_cl, ar_cq, la_ci, la_ca, la_cq, qa_ci, qa_ca, qa_cl, tk_link, kn12, kn144], ?_⟩
      intro z33 ez33
      replace ez33 := ez33.trans (la_rd nS (by decide) (by decide) wq32)
      intro z34 ez34
      refine ⟨fun c4 => ?_, fun c4 => ?_⟩
      · intro z36 ez36
        have hrz36 : -2147483648 ≤ x4.toInt + 1 ∧ x4.toInt + 1 < 2147483648 := by (try clear hk16); grind [kx_int, k_ii, k_ir, k_ri, k_rr, k_ai, k_ar, k_li, k_lr, k_qi, k_qr, ar_ci, ar_cl, ar_cq, la_ci, la_ca, la_cq, qa_ci, qa_ca, qa_cl, tk_link, kn12, kn144]
        replace ez36 : z36.toInt = x4.toInt + 1 := w_add ez36 hrz36
        clear hrz36
        exact hk16 _ (by (try clear hk16); grind [kx_int, k_ii, k_ir, k_ri, k_rr, k_ai, k_ar, k_li, k_lr, k_qi, k_qr, ar_ci, ar_cl, ar_cq, la_ci, la_ca, la_cq, qa_ci, qa_ca, qa_cl, tk_link, kn12, kn144]) (by (try clear hk16); grind [kx_int, k_ii, k_ir, k_ri, k_rr, k_ai, k_ar, k_li, k_lr, k_qi, k_qr, ar_ci, ar_cl, ar_cq, la_ci, la_ca, la_cq, qa_ci, qa_ca, qa_cl, tk_link, kn12, kn144])
      · exact by (try clear hk16); grind [kx_int, k_ii, k_ir, k_ri, k_rr, k_ai, k_ar, k_li, k_lr, k_qi, k_qr, ar_ci, ar_cl, ar_cq, la_ci, la_ca, la_cq, qa_ci, qa_ca, qa_cl, tk_link, kn12, kn144]
  · exact by (try clear hk16); grind [kx_int, k_ii, k_ir, k_ri, k_rr, k_ai, k_ar, k_li, k_lr, k_qi, k_qr, ar_ci, ar_cl, ar_cq, la_ci, la_ca, la_cq, qa_ci, qa_ca, qa_cl, tk_link, kn12, kn144]
