
set_option maxHeartbeats 400000 in
theorem sk_X11_box {h : Nat} (t0 : Nat) (a0 : Int32) (a1 : Int32) {S : kS} (hI : INJ S) (hO72_t0 : S.2.1 72 t0 = some h) (hl : LTS S h) : wT_X11_box t0 a0 a1 S (fun S1 r => S = S1) := by
  have nS : FX [] S S := FX_rf
  unfold wT_X11_box
  refine ⟨fun c1 => ?_, fun c1 => ?_⟩
  · exact by grind [k_ii, k_ir, k_ri, k_rr, k_ai, k_ar, k_li, k_lr, k_qi, k_qr, ar_ci, ar_cl, ar_cq, la_ci, la_ca, la_cq, qa_ci, qa_ca, qa_cl, tk_link, kn400, kn8]
  · refine ⟨fun c2 => ?_, fun c2 => ?_⟩
    · exact by grind [k_ii, k_ir, k_ri, k_rr, k_ai, k_ar, k_li, k_lr, k_qi, k_qr, ar_ci, ar_cl, ar_cq, la_ci, la_ca, la_cq, qa_ci, qa_ca, qa_cl, tk_link, kn400, kn8]
    · refine ⟨fun c3 => ?_, fun c3 => ?_⟩
      · exact by grind [k_ii, k_ir, k_ri, k_rr, k_ai, k_ar, k_li, k_lr, k_qi, k_qr, ar_ci, ar_cl, ar_cq, la_ci, la_ca, la_cq, qa_ci, qa_ca, qa_cl, tk_link, kn400, kn8]
      · intro z4 ez4
        intro q5 eq5
        obtain rfl := ob_q nS (by decide) hO72_t0 ez4 eq5
        intro z6 ez6
        intro q7 eq7
        have wq7 := rd_w nS (by decide) ez6 eq7
        refine ⟨by grind [k_ii, k_ir, k_ri, k_rr, k_ai, k_ar, k_li, k_lr, k_qi, k_qr, ar_ci, ar_cl, ar_cq, la_ci, la_ca, la_cq, qa_ci, qa_ca, qa_cl, tk_link, kn400, kn8], ?_⟩
        intro z8 ez8
        replace ez8 := ez8.trans (ar_rd nS (by decide) (by decide) wq7)
        have l8 := hl (ix a0) (jix_lt (n := 8) (by grind [k_ii, k_ir, k_ri, k_rr, k_ai, k_ar, k_li, k_lr, k_qi, k_qr, ar_ci, ar_cl, ar_cq, la_ci, la_ca, la_cq, qa_ci, qa_ca, qa_cl, tk_link, kn400, kn8]) (by grind [k_ii, k_ir, k_ri, k_rr, k_ai, k_ar, k_li, k_lr, k_qi, k_qr, ar_ci, ar_cl, ar_cq, la_ci, la_ca, la_cq, qa_ci, qa_ca, qa_cl, tk_link, kn400, kn8]))
        refine ⟨fun c4 => ?_, fun c4 => ?_⟩
        · intro z10 ez10
          intro q11 eq11
          obtain rfl := ob_q nS (by decide) hO72_t0 ez10 eq11
          intro z12 ez12
          intro z13 ez13
          have hrz13 : -100000 ≤ a0.toInt ∧ a0.toInt ≤ 100000 := by grind [k_ii, k_ir, k_ri, k_rr, k_ai, k_ar, k_li, k_lr, k_qi, k_qr, ar_ci, ar_cl, ar_cq, la_ci, la_ca, la_cq, qa_ci, qa_ca, qa_cl, tk_link, kn400, kn8]
          replace ez13 : z13.toInt = 50 * a0.toInt := w_mc ez13 rfl (by decide) hrz13
          intro z14 ez14
          have hrz14 : -2147483648 ≤ z13.toInt + a1.toInt ∧ z13.toInt + a1.toInt < 2147483648 := by grind [k_ii, k_ir, k_ri, k_rr, k_ai, k_ar, k_li, k_lr, k_qi, k_qr, ar_ci, ar_cl, ar_cq, la_ci, la_ca, la_cq, qa_ci, qa_ca, qa_cl, tk_link, kn400, kn8]
          replace ez14 : z14.toInt = z13.toInt + a1.toInt := w_add ez14 hrz14
          clear hrz14
          intro q15 eq15
          have wq15 := rd_w nS (by decide) ez12 eq15
          refine ⟨by grind [k_ii, k_ir, k_ri, k_rr, k_ai, k_ar, k_li, k_lr, k_qi, k_qr, ar_ci, ar_cl, ar_cq, la_ci, la_ca, la_cq, qa_ci, qa_ca, qa_cl, tk_link, kn400, kn8], ?_⟩
          intro z16 ez16
          replace ez16 := ez16.trans (ar_rd nS (by decide) (by decide) wq15)
          exact by grind [k_ii, k_ir, k_ri, k_rr, k_ai, k_ar, k_li, k_lr, k_qi, k_qr, ar_ci, ar_cl, ar_cq, la_ci, la_ca, la_cq, qa_ci, qa_ca, qa_cl, tk_link, kn400, kn8]
        · exact by grind [k_ii, k_ir, k_ri, k_rr, k_ai, k_ar, k_li, k_lr, k_qi, k_qr, ar_ci, ar_cl, ar_cq, la_ci, la_ca, la_cq, qa_ci, qa_ca, qa_cl, tk_link, kn400, kn8]
