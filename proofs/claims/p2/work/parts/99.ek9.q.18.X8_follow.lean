
set_option maxHeartbeats 1600000 in
theorem sk_X8_follow {pg sc : Nat} (t0 : Nat) (a0 : Int32) (a1 : Int32) {S : kS} (hI : INJ S) (hO55_t0 : S.2.1 55 t0 = some pg) (hO31_pg : S.2.1 31 pg = some sc) (hT : TBI pg t0 S) (hR : PRR pg sc S) (h0 : 0 ≤ a0.toInt ∧ a0.toInt < 12) (h1 : 0 ≤ a1.toInt ∧ a1.toInt < 8064) (hA : (ar S 28 pg (ix a1) = 17 ∨ ar S 28 pg (ix a1) = 18 ∨ ar S 28 pg (ix a1) = 21 ∨ ar S 28 pg (ix a1) = 23) → 0 ≤ (ar S 29 pg (ix a1)).toInt ∧ (ar S 29 pg (ix a1)).toInt < 460) : wT_X8_follow t0 a0 a1 S (fun S1 => TBI pg t0 S1) := by
  have nS : FX [] S S := FX_rf
  have rS := hR
  unfold wT_X8_follow
  intro z1 ez1
  refine ⟨pg, ob_e nS (by decide) hO55_t0 ez1, ?_⟩
  intro z3 ez3
  intro z4 ez4
  refine ⟨pg, ob_e nS (by decide) hO55_t0 ez4, ?_⟩
  intro z6 ez6
  intro q7 eq7
  have wq7 := rd_w nS (by decide) ez6 eq7
  refine ⟨by grind [k_ii, k_ir, k_ri, k_rr, k_ai, k_ar, k_li, k_lr, k_qi, k_qr, ar_ci, ar_cl, ar_cq, la_ci, la_ca, la_cq, qa_ci, qa_ca, qa_cl, tk_link, kn12, kn460, kn8064], ?_⟩
  intro z8 ez8
  replace ez8 := ez8.trans (ar_rd nS (by decide) (by decide) wq7)
  have d8 : -1 ≤ z8.toInt ∧ z8.toInt ≤ 1379 := by rw [ez8]; exact hR.2.1 (ix a1)
  intro z9 ez9
  refine ⟨pg, ob_e nS (by decide) hO55_t0 ez9, ?_⟩
  intro z11 ez11
  intro q12 eq12
  have wq12 := rd_w nS (by decide) ez11 eq12
  refine ⟨by grind [k_ii, k_ir, k_ri, k_rr, k_ai, k_ar, k_li, k_lr, k_qi, k_qr, ar_ci, ar_cl, ar_cq, la_ci, la_ca, la_cq, qa_ci, qa_ca, qa_cl, tk_link, kn12, kn460, kn8064], ?_⟩
  intro z13 ez13
  replace ez13 := ez13.trans (ar_rd nS (by decide) (by decide) wq12)
  intro z14 ez14
  refine ⟨pg, ob_e nS (by decide) hO55_t0 ez14, ?_⟩
  intro z16 ez16
  intro q17 eq17
  have wq17 := rd_w nS (by decide) ez16 eq17
  refine ⟨by grind [k_ii, k_ir, k_ri, k_rr, k_ai, k_ar, k_li, k_lr, k_qi, k_qr, ar_ci, ar_cl, ar_cq, la_ci, la_ca, la_cq, qa_ci, qa_ca, qa_cl, tk_link, kn12, kn460, kn8064], ?_⟩
  intro z18 ez18
  replace ez18 := ez18.trans (ar_rd nS (by decide) (by decide) wq17)
  intro z19 ez19
  refine ⟨pg, ob_e nS (by decide) hO55_t0 ez19, ?_⟩
  intro z21 ez21
  intro q22 eq22
  have wq22 := rd_w nS (by decide) ez21 eq22
  refine ⟨by grind [k_ii, k_ir, k_ri, k_rr, k_ai, k_ar, k_li, k_lr, k_qi, k_qr, ar_ci, ar_cl, ar_cq, la_ci, la_ca, la_cq, qa_ci, qa_ca, qa_cl, tk_link, kn12, kn460, kn8064], ?_⟩
  intro z23 ez23
  replace ez23 := ez23.trans (ar_rd nS (by decide) (by decide) wq22)
  have hA2 : (z23 = 17 ∨ z23 = 18 ∨ z23 = 21 ∨ z23 = 23) → 0 ≤ z13.toInt ∧ z13.toInt < 460 := by rw [ez23, ez13]; exact hA
  refine ⟨fun c1 => ?_, fun c1 => ?_⟩
  · intro q25 eq25
    obtain rfl := ob_q nS (by decide) hO31_pg ez3 eq25
    refine kmT_X7_failureTo _ _ _ _ _ _ (fun S26 r26 hF2 pS26 => ?_) (sk_X7_failureTo _ _ _ (INJ_x nS (by decide) hI) rS.1 d8)
    obtain ⟨rfl, pS26⟩ := pS26
    clear hF2
    refine kmT_X8_reach _ _ _ _ _ (fun S27 hF3 pS27 => ?_) (sk_X8_reach (pg := pg) _ _ (INJ_x nS (by decide) hI) (ob_h nS (by decide) hO55_t0) hT)
    have nS27 : FX [] S S27 := FX_k hF3 (by decide) nS
    have fS27 := HF_k hF3 (INJ_x nS (by decide) hI) (by decide) (by decide) (by decide)
    have rS27 : PRR pg sc S27 := PRR_f rS fS27 (by decide)
    clear hF3
    intro z28 ez28
    have hrz28 : -2147483648 ≤ a1.toInt + 1 ∧ a1.toInt + 1 < 2147483648 := by grind [k_ii, k_ir, k_ri, k_rr, k_ai, k_ar, k_li, k_lr, k_qi, k_qr, ar_ci, ar_cl, ar_cq, la_ci, la_ca, la_cq, qa_ci, qa_ca, qa_cl, tk_link, kn12, kn460, kn8064]
    replace ez28 : z28.toInt = a1.toInt + 1 := w_add ez28 hrz28
    clear hrz28
    refine kmT_X8_reach _ _ _ _ _ (fun S29 hF4 pS29 => ?_) (sk_X8_reach (pg := pg) _ _ (INJ_x nS27 (by decide) hI) (ob_h nS27 (by decide) hO55_t0) pS27)
    have nS29 : FX [] S S29 := FX_k hF4 (by decide) nS27
    have fS29 := HF_k hF4 (INJ_x nS27 (by decide) hI) (by decide) (by decide) (by decide)
    have rS29 : PRR pg sc S29 := PRR_f rS27 fS29 (by decide)
    clear hF4
    exact pS29
  · refine ⟨fun c5 => ?_, fun c5 => ?_⟩
    · intro q31 eq31
      obtain rfl := ob_q nS (by decide) hO31_pg ez3 eq31
      refine kmT_X7_failureTo _ _ _ _ _ _ (fun S32 r32 hF6 pS32 => ?_) (sk_X7_failureTo _ _ _ (INJ_x nS (by decide) hI) rS.1 d8)
      obtain ⟨rfl, pS32⟩ := pS32
      clear hF6
      refine kmT_X8_reach _ _ _ _ _ (fun S33 hF7 pS33 => ?_) (sk_X8_reach (pg := pg) _ _ (INJ_x nS (by decide) hI) (ob_h nS (by decide) hO55_t0) hT)
      have nS33 : FX [] S S33 := FX_k hF7 (by decide) nS
      have fS33 := HF_k hF7 (INJ_x nS (by decide) hI) (by decide) (by decide) (by decide)
      have rS33 : PRR pg sc S33 := PRR_f rS fS33 (by decide)
      clear hF7
      intro z34 ez34
      have hrz34 : -2147483648 ≤ a1.toInt + 1 ∧ a1.toInt + 1 < 2147483648 := by grind [k_ii, k_ir, k_ri, k_rr, k_ai, k_ar, k_li, k_lr, k_qi, k_qr, ar_ci, ar_cl, ar_cq, la_ci, la_ca, la_cq, qa_ci, qa_ca, qa_cl, tk_link, kn12, kn460, kn8064]
      replace ez34 : z34.toInt = a1.toInt + 1 := w_add ez34 hrz34
      clear hrz34
      refine kmT_X8_reach _ _ _ _ _ (fun S35 hF8 pS35 => ?_) (sk_X8_reach (pg := pg) _ _ (INJ_x nS33 (by decide) hI) (ob_h nS33 (by decide) hO55_t0) pS33)
      have nS35 : FX [] S S35 := FX_k hF8 (by decide) nS33
      have fS35 := HF_k hF8 (INJ_x nS33 (by decide) hI) (by decide) (by decide) (by decide)
      have rS35 : PRR pg sc S35 := PRR_f rS33 fS35 (by decide)
      clear hF8
      exact pS35
    · refine ⟨fun c9 => ?_, fun c9 => ?_⟩
      · intro z37 ez37
        have hrz37 : -2147483648 ≤ a1.toInt + 1 ∧ a1.toInt + 1 < 2147483648 := by grind [k_ii, k_ir, k_ri, k_rr, k_ai, k_ar, k_li, k_lr, k_qi, k_qr, ar_ci, ar_cl, ar_cq, la_ci, la_ca, la_cq, qa_ci, qa_ca, qa_cl, tk_link, kn12, kn460, kn8064]
        replace ez37 : z37.toInt = a1.toInt + 1 := w_add ez37 hrz37
        clear hrz37
        refine kmT_X8_reach _ _ _ _ _ (fun S38 hF10 pS38 => ?_) (sk_X8_reach (pg := pg) _ _ (INJ_x nS (by decide) hI) (ob_h nS (by decide) hO55_t0) hT)
        have nS38 : FX [] S S38 := FX_k hF10 (by decide) nS
        have fS38 := HF_k hF10 (INJ_x nS (by decide) hI) (by decide) (by decide) (by decide)
        have rS38 : PRR pg sc S38 := PRR_f rS fS38 (by decide)
        clear hF10
        exact pS38
      · refine ⟨fun c11 => ?_, fun c11 => ?_⟩
        · intro z40 ez40
          have hrz40 : -2147483648 ≤ a1.toInt + 1 ∧ a1.toInt + 1 < 2147483648 := by grind [k_ii, k_ir, k_ri, k_rr, k_ai, k_ar, k_li, k_lr, k_qi, k_qr, ar_ci, ar_cl, ar_cq, la_ci, la_ca, la_cq, qa_ci, qa_ca, qa_cl, tk_link, kn12, kn460, kn8064]
          replace ez40 : z40.toInt = a1.toInt + 1 := w_add ez40 hrz40
          clear hrz40
          refine kmT_X8_reach _ _ _ _ _ (fun S41 hF12 pS41 => ?_) (sk_X8_reach (pg := pg) _ _ (INJ_x nS (by decide) hI) (ob_h nS (by decide) hO55_t0) hT)
          have nS41 : FX [] S S41 := FX_k hF12 (by decide) nS
          have fS41 := HF_k hF12 (INJ_x nS (by decide) hI) (by decide) (by decide) (by decide)
          have rS41 : PRR pg sc S41 := PRR_f rS fS41 (by decide)
          clear hF12
          exact pS41
        · refine ⟨fun c13 => ?_, fun c13 => ?_⟩
          · intro z43 ez43
            have hrz43 : -2147483648 ≤ a1.toInt + 1 ∧ a1.toInt + 1 < 2147483648 := by grind [k_ii, k_ir, k_ri, k_rr, k_ai, k_ar, k_li, k_lr, k_qi, k_qr, ar_ci, ar_cl, ar_cq, la_ci, la_ca, la_cq, qa_ci, qa_ca, qa_cl, tk_link, kn12, kn460, kn8064]
            replace ez43 : z43.toInt = a1.toInt + 1 := w_add ez43 hrz43
            clear hrz43
            refine kmT_X8_reach _ _ _ _ _ (fun S44 hF14 pS44 => ?_) (sk_X8_reach (pg := pg) _ _ (INJ_x nS (by decide) hI) (ob_h nS (by decide) hO55_t0) hT)
            have nS44 : FX [] S S44 := FX_k hF14 (by decide) nS
            have fS44 := HF_k hF14 (INJ_x nS (by decide) hI) (by decide) (by decide) (by decide)
            have rS44 : PRR pg sc S44 := PRR_f rS fS44 (by decide)
            clear hF14
            exact pS44
          · refine ⟨fun c15 => ?_, fun c15 => ?_⟩
            · intro z46 ez46
              have hrz46 : -2147483648 ≤ a1.toInt + 1 ∧ a1.toInt + 1 < 2147483648 := by grind [k_ii, k_ir, k_ri, k_rr, k_ai, k_ar, k_li, k_lr, k_qi, k_qr, ar_ci, ar_cl, ar_cq, la_ci, la_ca, la_cq, qa_ci, qa_ca, qa_cl, tk_link, kn12, kn460, kn8064]
              replace ez46 : z46.toInt = a1.toInt + 1 := w_add ez46 hrz46
              clear hrz46
              refine kmT_X8_reach _ _ _ _ _ (fun S47 hF16 pS47 => ?_) (sk_X8_reach (pg := pg) _ _ (INJ_x nS (by decide) hI) (ob_h nS (by decide) hO55_t0) hT)
              have nS47 : FX [] S S47 := FX_k hF16 (by decide) nS
              have fS47 := HF_k hF16 (INJ_x nS (by decide) hI) (by decide) (by decide) (by decide)
              have rS47 : PRR pg sc S47 := PRR_f rS fS47 (by decide)
              clear hF16
              exact pS47
            · refine ⟨fun c17 => ?_, fun c17 => ?_⟩
              · refine kmT_X8_reach _ _ _ _ _ (fun S49 hF18 pS49 => ?_) (sk_X8_reach (pg := pg) _ _ (INJ_x nS (by decide) hI) (ob_h nS (by decide) hO55_t0) hT)
                have nS49 : FX [] S S49 := FX_k hF18 (by decide) nS
                have fS49 := HF_k hF18 (INJ_x nS (by decide) hI) (by decide) (by decide) (by decide)
                have rS49 : PRR pg sc S49 := PRR_f rS fS49 (by decide)
                clear hF18
                intro z50 ez50
                have hrz50 : -2147483648 ≤ a1.toInt + 1 ∧ a1.toInt + 1 < 2147483648 := by grind [k_ii, k_ir, k_ri, k_rr, k_ai, k_ar, k_li, k_lr, k_qi, k_qr, ar_ci, ar_cl, ar_cq, la_ci, la_ca, la_cq, qa_ci, qa_ca, qa_cl, tk_link, kn12, kn460, kn8064]
                replace ez50 : z50.toInt = a1.toInt + 1 := w_add ez50 hrz50
                clear hrz50
                refine kmT_X8_reach _ _ _ _ _ (fun S51 hF19 pS51 => ?_) (sk_X8_reach (pg := pg) _ _ (INJ_x nS49 (by decide) hI) (ob_h nS49 (by decide) hO55_t0) pS49)
                have nS51 : FX [] S S51 := FX_k hF19 (by decide) nS49
                have fS51 := HF_k hF19 (INJ_x nS49 (by decide) hI) (by decide) (by decide) (by decide)
                have rS51 : PRR pg sc S51 := PRR_f rS49 fS51 (by decide)
                clear hF19
                exact pS51
              · refine ⟨fun c20 => ?_, fun c20 => ?_⟩
                · refine kmT_X8_reach _ _ _ _ _ (fun S53 hF21 pS53 => ?_) (sk_X8_reach (pg := pg) _ _ (INJ_x nS (by decide) hI) (ob_h nS (by decide) hO55_t0) hT)
                  have nS53 : FX [] S S53 := FX_k hF21 (by decide) nS
                  have fS53 := HF_k hF21 (INJ_x nS (by decide) hI) (by decide) (by decide) (by decide)
                  have rS53 : PRR pg sc S53 := PRR_f rS fS53 (by decide)
                  clear hF21
                  exact pS53
                · refine ⟨fun c22 => ?_, fun c22 => ?_⟩
                  · intro q55 eq55
                    obtain rfl := ob_q nS (by decide) hO31_pg ez3 eq55
                    refine kmT_X7_breakTo _ _ _ _ _ _ (fun S56 r56 hF23 pS56 => ?_) (sk_X7_breakTo _ _ _ (INJ_x nS (by decide) hI) rS.1 d8 (hA2 (by grind [k_ii, k_ir, k_ri, k_rr, k_ai, k_ar, k_li, k_lr, k_qi, k_qr, ar_ci, ar_cl, ar_cq, la_ci, la_ca, la_cq, qa_ci, qa_ca, qa_cl, tk_link, kn12, kn460, kn8064])))
                    obtain ⟨rfl, pS56⟩ := pS56
                    clear hF23
                    refine kmT_X8_reach _ _ _ _ _ (fun S57 hF24 pS57 => ?_) (sk_X8_reach (pg := pg) _ _ (INJ_x nS (by decide) hI) (ob_h nS (by decide) hO55_t0) hT)
                    have nS57 : FX [] S S57 := FX_k hF24 (by decide) nS
                    have fS57 := HF_k hF24 (INJ_x nS (by decide) hI) (by decide) (by decide) (by decide)
                    have rS57 : PRR pg sc S57 := PRR_f rS fS57 (by decide)
                    clear hF24
                    exact pS57
                  · refine ⟨fun c25 => ?_, fun c25 => ?_⟩
                    · intro q59 eq59
                      obtain rfl := ob_q nS (by decide) hO31_pg ez3 eq59
                      refine kmT_X7_continueTo _ _ _ _ _ _ (fun S60 r60 hF26 pS60 => ?_) (sk_X7_continueTo _ _ _ (INJ_x nS (by decide) hI) rS.1 d8 (hA2 (by grind [k_ii, k_ir, k_ri, k_rr, k_ai, k_ar, k_li, k_lr, k_qi, k_qr, ar_ci, ar_cl, ar_cq, la_ci, la_ca, la_cq, qa_ci, qa_ca, qa_cl, tk_link, kn12, kn460, kn8064])))
                      obtain ⟨rfl, pS60⟩ := pS60
                      clear hF26
                      refine kmT_X8_reach _ _ _ _ _ (fun S61 hF27 pS61 => ?_) (sk_X8_reach (pg := pg) _ _ (INJ_x nS (by decide) hI) (ob_h nS (by decide) hO55_t0) hT)
                      have nS61 : FX [] S S61 := FX_k hF27 (by decide) nS
                      have fS61 := HF_k hF27 (INJ_x nS (by decide) hI) (by decide) (by decide) (by decide)
                      have rS61 : PRR pg sc S61 := PRR_f rS fS61 (by decide)
                      clear hF27
                      exact pS61
                    · refine ⟨fun c28 => ?_, fun c28 => ?_⟩
                      · intro q63 eq63
                        obtain rfl := ob_q nS (by decide) hO31_pg ez3 eq63
                        refine kmT_X7_cancelTo _ _ _ _ _ _ (fun S64 r64 hF29 pS64 => ?_) (sk_X7_cancelTo _ _ _ (INJ_x nS (by decide) hI) rS.1 d8)
                        obtain ⟨rfl, pS64⟩ := pS64
                        clear hF29
                        refine kmT_X8_reach _ _ _ _ _ (fun S65 hF30 pS65 => ?_) (sk_X8_reach (pg := pg) _ _ (INJ_x nS (by decide) hI) (ob_h nS (by decide) hO55_t0) hT)
                        have nS65 : FX [] S S65 := FX_k hF30 (by decide) nS
                        have fS65 := HF_k hF30 (INJ_x nS (by decide) hI) (by decide) (by decide) (by decide)
                        have rS65 : PRR pg sc S65 := PRR_f rS fS65 (by decide)
                        clear hF30
                        exact pS65
                      · refine ⟨fun c31 => ?_, fun c31 => ?_⟩
                        · intro q67 eq67
                          obtain rfl := ob_q nS (by decide) hO31_pg ez3 eq67
                          refine kmT_X7_failureTo _ _ _ _ _ _ (fun S68 r68 hF32 pS68 => ?_) (sk_X7_failureTo _ _ _ (INJ_x nS (by decide) hI) rS.1 d8)
                          obtain ⟨rfl, pS68⟩ := pS68
                          clear hF32
                          refine kmT_X8_reach _ _ _ _ _ (fun S69 hF33 pS69 => ?_) (sk_X8_reach (pg := pg) _ _ (INJ_x nS (by decide) hI) (ob_h nS (by decide) hO55_t0) hT)
                          have nS69 : FX [] S S69 := FX_k hF33 (by decide) nS
                          have fS69 := HF_k hF33 (INJ_x nS (by decide) hI) (by decide) (by decide) (by decide)
                          have rS69 : PRR pg sc S69 := PRR_f rS fS69 (by decide)
                          clear hF33
                          exact pS69
                        · refine ⟨fun c34 => ?_, fun c34 => ?_⟩
                          · intro q71 eq71
                            obtain rfl := ob_q nS (by decide) hO31_pg ez3 eq71
                            refine kmT_X7_is _ _ _ _ _ _ (fun S72 r72 hF35 pS72 => ?_) (sk_X7_is _ _ _ (INJ_x nS (by decide) hI) (hA2 (by grind [k_ii, k_ir, k_ri, k_rr, k_ai, k_ar, k_li, k_lr, k_qi, k_qr, ar_ci, ar_cl, ar_cq, la_ci, la_ca, la_cq, qa_ci, qa_ca, qa_cl, tk_link, kn12, kn460, kn8064])))
                            obtain ⟨rfl, pS72⟩ := pS72
                            clear hF35
                            refine ⟨fun c36 => ?_, fun c36 => ?_⟩
                            · intro z74 ez74
                              intro q75 eq75
                              have wq75 := rd_w nS (by decide) ez74 eq75
                              refine ⟨by grind [k_ii, k_ir, k_ri, k_rr, k_ai, k_ar, k_li, k_lr, k_qi, k_qr, ar_ci, ar_cl, ar_cq, la_ci, la_ca, la_cq, qa_ci, qa_ca, qa_cl, tk_link, kn12, kn460, kn8064], ?_⟩
                              intro z76 ez76
                              replace ez76 := ez76.trans (ar_rd nS (by decide) (by decide) wq75)
                              unfold wT_X8_follow_341
                              refine kmT_X8_reach _ _ _ _ _ (fun S126 hF37 pS126 => ?_) (sk_X8_reach (pg := pg) _ _ (INJ_x nS (by decide) hI) (ob_h nS (by decide) hO55_t0) hT)
                              have nS126 : FX [] S S126 := FX_k hF37 (by decide) nS
                              have fS126 := HF_k hF37 (INJ_x nS (by decide) hI) (by decide) (by decide) (by decide)
                              have rS126 : PRR pg sc S126 := PRR_f rS fS126 (by decide)
                              clear hF37
                              exact pS126
                            · intro z77 ez77
                              intro q78 eq78
                              have wq78 := rd_w nS (by decide) ez77 eq78
                              refine ⟨by grind [k_ii, k_ir, k_ri, k_rr, k_ai, k_ar, k_li, k_lr, k_qi, k_qr, ar_ci, ar_cl, ar_cq, la_ci, la_ca, la_cq, qa_ci, qa_ca, qa_cl, tk_link, kn12, kn460, kn8064], ?_⟩
                              intro z79 ez79
                              replace ez79 := ez79.trans (ar_rd nS (by decide) (by decide) wq78)
                              unfold wT_X8_follow_341
                              refine kmT_X8_reach _ _ _ _ _ (fun S126 hF38 pS126 => ?_) (sk_X8_reach (pg := pg) _ _ (INJ_x nS (by decide) hI) (ob_h nS (by decide) hO55_t0) hT)
                              have nS126 : FX [] S S126 := FX_k hF38 (by decide) nS
                              have fS126 := HF_k hF38 (INJ_x nS (by decide) hI) (by decide) (by decide) (by decide)
                              have rS126 : PRR pg sc S126 := PRR_f rS fS126 (by decide)
                              clear hF38
                              exact pS126
                          · refine ⟨fun c39 => ?_, fun c39 => ?_⟩
                            · intro z81 ez81
                              have hrz81 : -2147483648 ≤ a1.toInt + 1 ∧ a1.toInt + 1 < 2147483648 := by grind [k_ii, k_ir, k_ri, k_rr, k_ai, k_ar, k_li, k_lr, k_qi, k_qr, ar_ci, ar_cl, ar_cq, la_ci, la_ca, la_cq, qa_ci, qa_ca, qa_cl, tk_link, kn12, kn460, kn8064]
                              replace ez81 : z81.toInt = a1.toInt + 1 := w_add ez81 hrz81
                              clear hrz81
                              refine kmT_X8_reach _ _ _ _ _ (fun S82 hF40 pS82 => ?_) (sk_X8_reach (pg := pg) _ _ (INJ_x nS (by decide) hI) (ob_h nS (by decide) hO55_t0) hT)
                              have nS82 : FX [] S S82 := FX_k hF40 (by decide) nS
                              have fS82 := HF_k hF40 (INJ_x nS (by decide) hI) (by decide) (by decide) (by decide)
                              have rS82 : PRR pg sc S82 := PRR_f rS fS82 (by decide)
                              clear hF40
                              exact pS82
                            · refine ⟨fun c41 => ?_, fun c41 => ?_⟩
                              · refine kmT_X8_followFinish _ _ _ _ _ _ (fun S84 hF42 pS84 => ?_) (sk_X8_followFinish (pg := pg) (sc := sc) _ _ _ (INJ_x nS (by decide) hI) (ob_h nS (by decide) hO55_t0) (ob_h nS (by decide) hO31_pg) hT hR (hA2 (by grind [k_ii, k_ir, k_ri, k_rr, k_ai, k_ar, k_li, k_lr, k_qi, k_qr, ar_ci, ar_cl, ar_cq, la_ci, la_ca, la_cq, qa_ci, qa_ca, qa_cl, tk_link, kn12, kn460, kn8064])))
                                have nS84 : FX [] S S84 := FX_k hF42 (by decide) nS
                                have fS84 := HF_k hF42 (INJ_x nS (by decide) hI) (by decide) (by decide) (by decide)
                                have rS84 : PRR pg sc S84 := PRR_f rS fS84 (by decide)
                                clear hF42
                                exact pS84
                              · refine ⟨fun c43 => ?_, fun c43 => ?_⟩
                                · exact hT
                                · refine ⟨fun c44 => ?_, fun c44 => ?_⟩
                                  · intro z87 ez87
                                    have hrz87 : -2147483648 ≤ a1.toInt + 1 ∧ a1.toInt + 1 < 2147483648 := by grind [k_ii, k_ir, k_ri, k_rr, k_ai, k_ar, k_li, k_lr, k_qi, k_qr, ar_ci, ar_cl, ar_cq, la_ci, la_ca, la_cq, qa_ci, qa_ca, qa_cl, tk_link, kn12, kn460, kn8064]
                                    replace ez87 : z87.toInt = a1.toInt + 1 := w_add ez87 hrz87
                                    clear hrz87
                                    refine kmT_X8_reach _ _ _ _ _ (fun S88 hF45 pS88 => ?_) (sk_X8_reach (pg := pg) _ _ (INJ_x nS (by decide) hI) (ob_h nS (by decide) hO55_t0) hT)
                                    have nS88 : FX [] S S88 := FX_k hF45 (by decide) nS
                                    have fS88 := HF_k hF45 (INJ_x nS (by decide) hI) (by decide) (by decide) (by decide)
                                    have rS88 : PRR pg sc S88 := PRR_f rS fS88 (by decide)
                                    clear hF45
                                    exact pS88
                                  · refine ⟨fun c46 => ?_, fun c46 => ?_⟩
                                    · intro z90 ez90
                                      have hrz90 : -2147483648 ≤ a1.toInt + 1 ∧ a1.toInt + 1 < 2147483648 := by grind [k_ii, k_ir, k_ri, k_rr, k_ai, k_ar, k_li, k_lr, k_qi, k_qr, ar_ci, ar_cl, ar_cq, la_ci, la_ca, la_cq, qa_ci, qa_ca, qa_cl, tk_link, kn12, kn460, kn8064]
                                      replace ez90 : z90.toInt = a1.toInt + 1 := w_add ez90 hrz90
                                      clear hrz90
                                      refine kmT_X8_reach _ _ _ _ _ (fun S91 hF47 pS91 => ?_) (sk_X8_reach (pg := pg) _ _ (INJ_x nS (by decide) hI) (ob_h nS (by decide) hO55_t0) hT)
                                      have nS91 : FX [] S S91 := FX_k hF47 (by decide) nS
                                      have fS91 := HF_k hF47 (INJ_x nS (by decide) hI) (by decide) (by decide) (by decide)
                                      have rS91 : PRR pg sc S91 := PRR_f rS fS91 (by decide)
                                      clear hF47
                                      exact pS91
                                    · refine ⟨fun c48 => ?_, fun c48 => ?_⟩
                                      · intro z93 ez93
                                        have hrz93 : -2147483648 ≤ a1.toInt + 1 ∧ a1.toInt + 1 < 2147483648 := by grind [k_ii, k_ir, k_ri, k_rr, k_ai, k_ar, k_li, k_lr, k_qi, k_qr, ar_ci, ar_cl, ar_cq, la_ci, la_ca, la_cq, qa_ci, qa_ca, qa_cl, tk_link, kn12, kn460, kn8064]
                                        replace ez93 : z93.toInt = a1.toInt + 1 := w_add ez93 hrz93
                                        clear hrz93
                                        refine kmT_X8_reach _ _ _ _ _ (fun S94 hF49 pS94 => ?_) (sk_X8_reach (pg := pg) _ _ (INJ_x nS (by decide) hI) (ob_h nS (by decide) hO55_t0) hT)
                                        have nS94 : FX [] S S94 := FX_k hF49 (by decide) nS
                                        have fS94 := HF_k hF49 (INJ_x nS (by decide) hI) (by decide) (by decide) (by decide)
                                        have rS94 : PRR pg sc S94 := PRR_f rS fS94 (by decide)
                                        clear hF49
                                        exact pS94
                                      · refine ⟨fun c50 => ?_, fun c50 => ?_⟩
                                        · intro z96 ez96
                                          have hrz96 : -2147483648 ≤ a1.toInt + 1 ∧ a1.toInt + 1 < 2147483648 := by grind [k_ii, k_ir, k_ri, k_rr, k_ai, k_ar, k_li, k_lr, k_qi, k_qr, ar_ci, ar_cl, ar_cq, la_ci, la_ca, la_cq, qa_ci, qa_ca, qa_cl, tk_link, kn12, kn460, kn8064]
                                          replace ez96 : z96.toInt = a1.toInt + 1 := w_add ez96 hrz96
                                          clear hrz96
                                          refine kmT_X8_reach _ _ _ _ _ (fun S97 hF51 pS97 => ?_) (sk_X8_reach (pg := pg) _ _ (INJ_x nS (by decide) hI) (ob_h nS (by decide) hO55_t0) hT)
                                          have nS97 : FX [] S S97 := FX_k hF51 (by decide) nS
                                          have fS97 := HF_k hF51 (INJ_x nS (by decide) hI) (by decide) (by decide) (by decide)
                                          have rS97 : PRR pg sc S97 := PRR_f rS fS97 (by decide)
                                          clear hF51
                                          exact pS97
                                        · refine ⟨fun c52 => ?_, fun c52 => ?_⟩
                                          · intro z99 ez99
                                            have hrz99 : -2147483648 ≤ a1.toInt + 1 ∧ a1.toInt + 1 < 2147483648 := by grind [k_ii, k_ir, k_ri, k_rr, k_ai, k_ar, k_li, k_lr, k_qi, k_qr, ar_ci, ar_cl, ar_cq, la_ci, la_ca, la_cq, qa_ci, qa_ca, qa_cl, tk_link, kn12, kn460, kn8064]
                                            replace ez99 : z99.toInt = a1.toInt + 1 := w_add ez99 hrz99
                                            clear hrz99
                                            refine kmT_X8_reach _ _ _ _ _ (fun S100 hF53 pS100 => ?_) (sk_X8_reach (pg := pg) _ _ (INJ_x nS (by decide) hI) (ob_h nS (by decide) hO55_t0) hT)
                                            have nS100 : FX [] S S100 := FX_k hF53 (by decide) nS
                                            have fS100 := HF_k hF53 (INJ_x nS (by decide) hI) (by decide) (by decide) (by decide)
                                            have rS100 : PRR pg sc S100 := PRR_f rS fS100 (by decide)
                                            clear hF53
                                            exact pS100
                                          · refine ⟨fun c54 => ?_, fun c54 => ?_⟩
                                            · intro z102 ez102
                                              have hrz102 : -2147483648 ≤ a1.toInt + 1 ∧ a1.toInt + 1 < 2147483648 := by grind [k_ii, k_ir, k_ri, k_rr, k_ai, k_ar, k_li, k_lr, k_qi, k_qr, ar_ci, ar_cl, ar_cq, la_ci, la_ca, la_cq, qa_ci, qa_ca, qa_cl, tk_link, kn12, kn460, kn8064]
                                              replace ez102 : z102.toInt = a1.toInt + 1 := w_add ez102 hrz102
                                              clear hrz102
                                              refine kmT_X8_reach _ _ _ _ _ (fun S103 hF55 pS103 => ?_) (sk_X8_reach (pg := pg) _ _ (INJ_x nS (by decide) hI) (ob_h nS (by decide) hO55_t0) hT)
                                              have nS103 : FX [] S S103 := FX_k hF55 (by decide) nS
                                              have fS103 := HF_k hF55 (INJ_x nS (by decide) hI) (by decide) (by decide) (by decide)
                                              have rS103 : PRR pg sc S103 := PRR_f rS fS103 (by decide)
                                              clear hF55
                                              exact pS103
                                            · refine ⟨fun c56 => ?_, fun c56 => ?_⟩
                                              · intro z105 ez105
                                                have hrz105 : -2147483648 ≤ a1.toInt + 1 ∧ a1.toInt + 1 < 2147483648 := by grind [k_ii, k_ir, k_ri, k_rr, k_ai, k_ar, k_li, k_lr, k_qi, k_qr, ar_ci, ar_cl, ar_cq, la_ci, la_ca, la_cq, qa_ci, qa_ca, qa_cl, tk_link, kn12, kn460, kn8064]
                                                replace ez105 : z105.toInt = a1.toInt + 1 := w_add ez105 hrz105
                                                clear hrz105
                                                refine kmT_X8_reach _ _ _ _ _ (fun S106 hF57 pS106 => ?_) (sk_X8_reach (pg := pg) _ _ (INJ_x nS (by decide) hI) (ob_h nS (by decide) hO55_t0) hT)
                                                have nS106 : FX [] S S106 := FX_k hF57 (by decide) nS
                                                have fS106 := HF_k hF57 (INJ_x nS (by decide) hI) (by decide) (by decide) (by decide)
                                                have rS106 : PRR pg sc S106 := PRR_f rS fS106 (by decide)
                                                clear hF57
                                                exact pS106
                                              · refine ⟨fun c58 => ?_, fun c58 => ?_⟩
                                                · intro z108 ez108
                                                  have hrz108 : -2147483648 ≤ a1.toInt + 1 ∧ a1.toInt + 1 < 2147483648 := by grind [k_ii, k_ir, k_ri, k_rr, k_ai, k_ar, k_li, k_lr, k_qi, k_qr, ar_ci, ar_cl, ar_cq, la_ci, la_ca, la_cq, qa_ci, qa_ca, qa_cl, tk_link, kn12, kn460, kn8064]
                                                  replace ez108 : z108.toInt = a1.toInt + 1 := w_add ez108 hrz108
                                                  clear hrz108
                                                  refine kmT_X8_reach _ _ _ _ _ (fun S109 hF59 pS109 => ?_) (sk_X8_reach (pg := pg) _ _ (INJ_x nS (by decide) hI) (ob_h nS (by decide) hO55_t0) hT)
                                                  have nS109 : FX [] S S109 := FX_k hF59 (by decide) nS
                                                  have fS109 := HF_k hF59 (INJ_x nS (by decide) hI) (by decide) (by decide) (by decide)
                                                  have rS109 : PRR pg sc S109 := PRR_f rS fS109 (by decide)
                                                  clear hF59
                                                  exact pS109
                                                · refine ⟨fun c60 => ?_, fun c60 => ?_⟩
                                                  · intro z111 ez111
                                                    have hrz111 : -2147483648 ≤ a1.toInt + 1 ∧ a1.toInt + 1 < 2147483648 := by grind [k_ii, k_ir, k_ri, k_rr, k_ai, k_ar, k_li, k_lr, k_qi, k_qr, ar_ci, ar_cl, ar_cq, la_ci, la_ca, la_cq, qa_ci, qa_ca, qa_cl, tk_link, kn12, kn460, kn8064]
                                                    replace ez111 : z111.toInt = a1.toInt + 1 := w_add ez111 hrz111
                                                    clear hrz111
                                                    refine kmT_X8_reach _ _ _ _ _ (fun S112 hF61 pS112 => ?_) (sk_X8_reach (pg := pg) _ _ (INJ_x nS (by decide) hI) (ob_h nS (by decide) hO55_t0) hT)
                                                    have nS112 : FX [] S S112 := FX_k hF61 (by decide) nS
                                                    have fS112 := HF_k hF61 (INJ_x nS (by decide) hI) (by decide) (by decide) (by decide)
                                                    have rS112 : PRR pg sc S112 := PRR_f rS fS112 (by decide)
                                                    clear hF61
                                                    exact pS112
                                                  · refine ⟨fun c62 => ?_, fun c62 => ?_⟩
                                                    · intro z114 ez114
                                                      have hrz114 : -2147483648 ≤ a1.toInt + 1 ∧ a1.toInt + 1 < 2147483648 := by grind [k_ii, k_ir, k_ri, k_rr, k_ai, k_ar, k_li, k_lr, k_qi, k_qr, ar_ci, ar_cl, ar_cq, la_ci, la_ca, la_cq, qa_ci, qa_ca, qa_cl, tk_link, kn12, kn460, kn8064]
                                                      replace ez114 : z114.toInt = a1.toInt + 1 := w_add ez114 hrz114
                                                      clear hrz114
                                                      refine kmT_X8_reach _ _ _ _ _ (fun S115 hF63 pS115 => ?_) (sk_X8_reach (pg := pg) _ _ (INJ_x nS (by decide) hI) (ob_h nS (by decide) hO55_t0) hT)
                                                      have nS115 : FX [] S S115 := FX_k hF63 (by decide) nS
                                                      have fS115 := HF_k hF63 (INJ_x nS (by decide) hI) (by decide) (by decide) (by decide)
                                                      have rS115 : PRR pg sc S115 := PRR_f rS fS115 (by decide)
                                                      clear hF63
                                                      exact pS115
                                                    · refine ⟨fun c64 => ?_, fun c64 => ?_⟩
                                                      · intro q117 eq117
                                                        obtain rfl := ob_q nS (by decide) hO31_pg ez3 eq117
                                                        refine kmT_X7_cancelTo _ _ _ _ _ _ (fun S118 r118 hF65 pS118 => ?_) (sk_X7_cancelTo _ _ _ (INJ_x nS (by decide) hI) rS.1 d8)
                                                        obtain ⟨rfl, pS118⟩ := pS118
                                                        clear hF65
                                                        refine kmT_X8_reach _ _ _ _ _ (fun S119 hF66 pS119 => ?_) (sk_X8_reach (pg := pg) _ _ (INJ_x nS (by decide) hI) (ob_h nS (by decide) hO55_t0) hT)
                                                        have nS119 : FX [] S S119 := FX_k hF66 (by decide) nS
                                                        have fS119 := HF_k hF66 (INJ_x nS (by decide) hI) (by decide) (by decide) (by decide)
                                                        have rS119 : PRR pg sc S119 := PRR_f rS fS119 (by decide)
                                                        clear hF66
                                                        refine kmT_X7_failureTo _ _ _ _ _ _ (fun S120 r120 hF67 pS120 => ?_) (sk_X7_failureTo _ _ _ (INJ_x nS119 (by decide) hI) rS119.1 d8)
                                                        obtain ⟨rfl, pS120⟩ := pS120
                                                        clear hF67
                                                        refine kmT_X8_reach _ _ _ _ _ (fun S121 hF68 pS121 => ?_) (sk_X8_reach (pg := pg) _ _ (INJ_x nS119 (by decide) hI) (ob_h nS119 (by decide) hO55_t0) pS119)
                                                        have nS121 : FX [] S S121 := FX_k hF68 (by decide) nS119
                                                        have fS121 := HF_k hF68 (INJ_x nS119 (by decide) hI) (by decide) (by decide) (by decide)
                                                        have rS121 : PRR pg sc S121 := PRR_f rS119 fS121 (by decide)
                                                        clear hF68
                                                        intro z122 ez122
                                                        have hrz122 : -2147483648 ≤ a1.toInt + 1 ∧ a1.toInt + 1 < 2147483648 := by grind [k_ii, k_ir, k_ri, k_rr, k_ai, k_ar, k_li, k_lr, k_qi, k_qr, ar_ci, ar_cl, ar_cq, la_ci, la_ca, la_cq, qa_ci, qa_ca, qa_cl, tk_link, kn12, kn460, kn8064]
                                                        replace ez122 : z122.toInt = a1.toInt + 1 := w_add ez122 hrz122
                                                        clear hrz122
                                                        refine kmT_X8_reach _ _ _ _ _ (fun S123 hF69 pS123 => ?_) (sk_X8_reach (pg := pg) _ _ (INJ_x nS121 (by decide) hI) (ob_h nS121 (by decide) hO55_t0) pS121)
                                                        have nS123 : FX [] S S123 := FX_k hF69 (by decide) nS121
                                                        have fS123 := HF_k hF69 (INJ_x nS121 (by decide) hI) (by decide) (by decide) (by decide)
                                                        have rS123 : PRR pg sc S123 := PRR_f rS121 fS123 (by decide)
                                                        clear hF69
                                                        exact pS123
                                                      · intro z124 ez124
                                                        have hrz124 : -2147483648 ≤ a1.toInt + 1 ∧ a1.toInt + 1 < 2147483648 := by grind [k_ii, k_ir, k_ri, k_rr, k_ai, k_ar, k_li, k_lr, k_qi, k_qr, ar_ci, ar_cl, ar_cq, la_ci, la_ca, la_cq, qa_ci, qa_ca, qa_cl, tk_link, kn12, kn460, kn8064]
                                                        replace ez124 : z124.toInt = a1.toInt + 1 := w_add ez124 hrz124
                                                        clear hrz124
                                                        refine kmT_X8_reach _ _ _ _ _ (fun S125 hF70 pS125 => ?_) (sk_X8_reach (pg := pg) _ _ (INJ_x nS (by decide) hI) (ob_h nS (by decide) hO55_t0) hT)
                                                        have nS125 : FX [] S S125 := FX_k hF70 (by decide) nS
                                                        have fS125 := HF_k hF70 (INJ_x nS (by decide) hI) (by decide) (by decide) (by decide)
                                                        have rS125 : PRR pg sc S125 := PRR_f rS fS125 (by decide)
                                                        clear hF70
                                                        exact pS125
