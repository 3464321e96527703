
set_option maxHeartbeats 400000 in
theorem sk_X11_count {h pg : Nat} (t0 : Nat) (a0 : Int32) {S : kS} (hI : INJ S) (hO72_t0 : S.2.1 72 t0 = some h) (hO74_t0 : S.2.1 74 t0 = some pg) : wT_X11_count t0 a0 S (fun S1 r => S = S1) := by
  have nS : FX [] S S := FX_rf
  unfold wT_X11_count
  refine ⟨fun c1 => ?_, fun c1 => ?_⟩
  · intro z2 ez2
    refine ⟨pg, ob_e nS (by decide) hO74_t0 ez2, ?_⟩
    intro z4 ez4
    exact by grind [k_ii, k_ir, k_ri, k_rr, k_ai, k_ar, k_li, k_lr, k_qi, k_qr, ar_ci, ar_cl, ar_cq, la_ci, la_ca, la_cq, qa_ci, qa_ca, qa_cl, tk_link]
  · refine ⟨fun c2 => ?_, fun c2 => ?_⟩
    · intro z6 ez6
      intro q7 eq7
      obtain rfl := ob_q nS (by decide) hO72_t0 ez6 eq7
      intro z8 ez8
      exact by grind [k_ii, k_ir, k_ri, k_rr, k_ai, k_ar, k_li, k_lr, k_qi, k_qr, ar_ci, ar_cl, ar_cq, la_ci, la_ca, la_cq, qa_ci, qa_ca, qa_cl, tk_link]
    · refine ⟨fun c3 => ?_, fun c3 => ?_⟩
      · intro z10 ez10
        intro q11 eq11
        obtain rfl := ob_q nS (by decide) hO72_t0 ez10 eq11
        intro z12 ez12
        exact by grind [k_ii, k_ir, k_ri, k_rr, k_ai, k_ar, k_li, k_lr, k_qi, k_qr, ar_ci, ar_cl, ar_cq, la_ci, la_ca, la_cq, qa_ci, qa_ca, qa_cl, tk_link]
      · refine ⟨fun c4 => ?_, fun c4 => ?_⟩
        · intro z14 ez14
          intro q15 eq15
          obtain rfl := ob_q nS (by decide) hO72_t0 ez14 eq15
          intro z16 ez16
          exact by grind [k_ii, k_ir, k_ri, k_rr, k_ai, k_ar, k_li, k_lr, k_qi, k_qr, ar_ci, ar_cl, ar_cq, la_ci, la_ca, la_cq, qa_ci, qa_ca, qa_cl, tk_link]
        · refine ⟨fun c5 => ?_, fun c5 => ?_⟩
          · intro z18 ez18
            intro q19 eq19
            obtain rfl := ob_q nS (by decide) hO72_t0 ez18 eq19
            intro z20 ez20
            intro z21 ez21
            intro q22 eq22
            obtain rfl := ob_q nS (by decide) hO72_t0 ez21 eq22
            intro z23 ez23
            intro z24 ez24
            intro z25 ez25
            intro q26 eq26
            obtain rfl := ob_q nS (by decide) hO72_t0 ez25 eq26
            intro z27 ez27
            intro z28 ez28
            exact by grind [k_ii, k_ir, k_ri, k_rr, k_ai, k_ar, k_li, k_lr, k_qi, k_qr, ar_ci, ar_cl, ar_cq, la_ci, la_ca, la_cq, qa_ci, qa_ca, qa_cl, tk_link]
          · refine ⟨fun c6 => ?_, fun c6 => ?_⟩
            · intro z30 ez30
              intro q31 eq31
              have wq31 := rd_w nS (by decide) ez30 eq31
              intro z32 ez32
              intro q33 eq33
              have wq33 := rd_w nS (by decide) ez32 eq33
              intro z34 ez34
              exact by grind [k_ii, k_ir, k_ri, k_rr, k_ai, k_ar, k_li, k_lr, k_qi, k_qr, ar_ci, ar_cl, ar_cq, la_ci, la_ca, la_cq, qa_ci, qa_ca, qa_cl, tk_link]
            · refine ⟨fun c7 => ?_, fun c7 => ?_⟩
              · intro z36 ez36
                intro q37 eq37
                obtain rfl := ob_q nS (by decide) hO72_t0 ez36 eq37
                intro z38 ez38
                intro q39 eq39
                have wq39 := rd_w nS (by decide) ez38 eq39
                intro z40 ez40
                exact by grind [k_ii, k_ir, k_ri, k_rr, k_ai, k_ar, k_li, k_lr, k_qi, k_qr, ar_ci, ar_cl, ar_cq, la_ci, la_ca, la_cq, qa_ci, qa_ca, qa_cl, tk_link]
              · refine ⟨fun c8 => ?_, fun c8 => ?_⟩
                · intro z42 ez42
                  intro q43 eq43
                  obtain rfl := ob_q nS (by decide) hO72_t0 ez42 eq43
                  intro z44 ez44
                  exact by grind [k_ii, k_ir, k_ri, k_rr, k_ai, k_ar, k_li, k_lr, k_qi, k_qr, ar_ci, ar_cl, ar_cq, la_ci, la_ca, la_cq, qa_ci, qa_ca, qa_cl, tk_link]
                · refine ⟨fun c9 => ?_, fun c9 => ?_⟩
                  · intro z46 ez46
                    intro q47 eq47
                    have wq47 := rd_w nS (by decide) ez46 eq47
                    intro z48 ez48
                    exact by grind [k_ii, k_ir, k_ri, k_rr, k_ai, k_ar, k_li, k_lr, k_qi, k_qr, ar_ci, ar_cl, ar_cq, la_ci, la_ca, la_cq, qa_ci, qa_ca, qa_cl, tk_link]
                  · refine ⟨fun c10 => ?_, fun c10 => ?_⟩
                    · intro z50 ez50
                      intro q51 eq51
                      have wq51 := rd_w nS (by decide) ez50 eq51
                      intro z52 ez52
                      exact by grind [k_ii, k_ir, k_ri, k_rr, k_ai, k_ar, k_li, k_lr, k_qi, k_qr, ar_ci, ar_cl, ar_cq, la_ci, la_ca, la_cq, qa_ci, qa_ca, qa_cl, tk_link]
                    · refine ⟨fun c11 => ?_, fun c11 => ?_⟩
                      · intro z54 ez54
                        intro q55 eq55
                        obtain rfl := ob_q nS (by decide) hO72_t0 ez54 eq55
                        refine kmT_X1_lettersLying _ _ _ _ (fun S56 r56 hF12 pS56 => ?_) (sk_X1_lettersLying _ (INJ_x nS (by decide) hI) )
                        obtain ⟨rfl, pS56⟩ := pS56
                        clear hF12
                        exact by grind [k_ii, k_ir, k_ri, k_rr, k_ai, k_ar, k_li, k_lr, k_qi, k_qr, ar_ci, ar_cl, ar_cq, la_ci, la_ca, la_cq, qa_ci, qa_ca, qa_cl, tk_link]
                      · refine ⟨fun c13 => ?_, fun c13 => ?_⟩
                        · intro z58 ez58
                          intro q59 eq59
                          have wq59 := rd_w nS (by decide) ez58 eq59
                          intro z60 ez60
                          exact by grind [k_ii, k_ir, k_ri, k_rr, k_ai, k_ar, k_li, k_lr, k_qi, k_qr, ar_ci, ar_cl, ar_cq, la_ci, la_ca, la_cq, qa_ci, qa_ca, qa_cl, tk_link]
                        · exact by grind [k_ii, k_ir, k_ri, k_rr, k_ai, k_ar, k_li, k_lr, k_qi, k_qr, ar_ci, ar_cl, ar_cq, la_ci, la_ca, la_cq, qa_ci, qa_ca, qa_cl, tk_link]
