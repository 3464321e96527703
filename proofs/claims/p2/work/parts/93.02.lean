
theorem km_X8_follow_341 {K K' : kS → Prop} {S0 : kS} (hk : ∀ S1, KF [26] [] [53, 54] [] [] S0 S1 → K S1 → K' S1) {y0 : Nat} {y1 : Int32} {S : kS} (hF : KF [26] [] [53, 54] [] [] S0 S) (h : wp_X8_follow_341 K y0 y1 S) : wp_X8_follow_341 K' y0 y1 S := by
  unfold wp_X8_follow_341 at h ⊢
  refine ⟨h.1, ?_⟩
  replace h := h.2
  refine km_X8_reach _ _ _ _ _ (fun S126 hG h => ?_) h
  replace hF := KF_t hF hG (by decide) (by decide) (by decide) (by decide) (by decide) (by decide) (by decide) (by decide)
  exact hk _ hF h
theorem km_X8_follow (t0 : Nat) (a0 : Int32) (a1 : Int32) : KmV [26] [] [53, 54] [] [] (wp_X8_follow t0 a0 a1) := by
  intro S0 K K' hk h
  have hF : KF [26] [] [53, 54] [] [] S0 S0 := KF_rf
  unfold wp_X8_follow at h ⊢
  refine ⟨h.1, ?_⟩
  replace h := h.2
  intro z1 ez1
  replace h := h z1 ez1
  obtain ⟨q2, eq2, h9⟩ := h
  replace h := h9
  clear h9
  refine ⟨q2, eq2, ?_⟩
  refine ⟨h.1, ?_⟩
  replace h := h.2
  intro z3 ez3
  replace h := h z3 ez3
  refine ⟨h.1, ?_⟩
  replace h := h.2
  intro z4 ez4
  replace h := h z4 ez4
  obtain ⟨q5, eq5, h9⟩ := h
  replace h := h9
  clear h9
  refine ⟨q5, eq5, ?_⟩
  refine ⟨h.1, ?_⟩
  replace h := h.2
  intro z6 ez6
  replace h := h z6 ez6
  obtain ⟨q7, eq7, h9⟩ := h
  replace h := h9
  clear h9
  refine ⟨q7, eq7, ?_⟩
  refine ⟨h.1, ?_⟩
  replace h := h.2
  refine ⟨h.1, ?_⟩
  replace h := h.2
  intro z8 ez8
  replace h := h z8 ez8
  refine ⟨h.1, ?_⟩
  replace h := h.2
  intro z9 ez9
  replace h := h z9 ez9
  obtain ⟨q10, eq10, h9⟩ := h
  replace h := h9
  clear h9
  refine ⟨q10, eq10, ?_⟩
  refine ⟨h.1, ?_⟩
  replace h := h.2
  intro z11 ez11
  replace h := h z11 ez11
  obtain ⟨q12, eq12, h9⟩ := h
  replace h := h9
  clear h9
  refine ⟨q12, eq12, ?_⟩
  refine ⟨h.1, ?_⟩
  replace h := h.2
  refine ⟨h.1, ?_⟩
  replace h := h.2
  intro z13 ez13
  replace h := h z13 ez13
  refine ⟨h.1, ?_⟩
  replace h := h.2
  intro z14 ez14
  replace h := h z14 ez14
  obtain ⟨q15, eq15, h9⟩ := h
  replace h := h9
  clear h9
  refine ⟨q15, eq15, ?_⟩
  refine ⟨h.1, ?_⟩
  replace h := h.2
  intro z16 ez16
  replace h := h z16 ez16
  obtain ⟨q17, eq17, h9⟩ := h
  replace h := h9
  clear h9
  refine ⟨q17, eq17, ?_⟩
  refine ⟨h.1, ?_⟩
  replace h := h.2
  refine ⟨h.1, ?_⟩
  replace h := h.2
  intro z18 ez18
  replace h := h z18 ez18
  refine ⟨h.1, ?_⟩
  replace h := h.2
  intro z19 ez19
  replace h := h z19 ez19
  obtain ⟨q20, eq20, h9⟩ := h
  replace h := h9
  clear h9
  refine ⟨q20, eq20, ?_⟩
  refine ⟨h.1, ?_⟩
  replace h := h.2
  intro z21 ez21
  replace h := h z21 ez21
  obtain ⟨q22, eq22, h9⟩ := h
  replace h := h9
  clear h9
  refine ⟨q22, eq22, ?_⟩
  refine ⟨h.1, ?_⟩
  replace h := h.2
  refine ⟨h.1, ?_⟩
  replace h := h.2
  intro z23 ez23
  replace h := h z23 ez23
  refine ⟨fun c => ?_, fun c => ?_⟩
  · replace h := h.1 c
    obtain ⟨q25, eq25, h9⟩ := h
    replace h := h9
    clear h9
    refine ⟨q25, eq25, ?_⟩
    refine ⟨h.1, ?_⟩
    replace h := h.2
    refine km_X7_failureTo _ _ _ _ _ _ (fun S26 r26 hG h => ?_) h
    replace hF := KF_t hF hG (by decide) (by decide) (by decide) (by decide) (by decide) (by decide) (by decide) (by decide)
    refine ⟨h.1, ?_⟩
    replace h := h.2
    refine km_X8_reach _ _ _ _ _ (fun S27 hG h => ?_) h
    replace hF := KF_t hF hG (by decide) (by decide) (by decide) (by decide) (by decide) (by decide) (by decide) (by decide)
    intro z28 ez28
    replace h := h z28 ez28
    refine ⟨h.1, ?_⟩
    replace h := h.2
    refine km_X8_reach _ _ _ _ _ (fun S29 hG h => ?_) h
    replace hF := KF_t hF hG (by decide) (by decide) (by decide) (by decide) (by decide) (by decide) (by decide) (by decide)
    exact hk _ hF h
  · replace h := h.2 c
    refine ⟨fun c => ?_, fun c => ?_⟩
    · replace h := h.1 c
      obtain ⟨q31, eq31, h9⟩ := h
      replace h := h9
      clear h9
      refine ⟨q31, eq31, ?_⟩
      refine ⟨h.1, ?_⟩
      replace h := h.2
      refine km_X7_failureTo _ _ _ _ _ _ (fun S32 r32 hG h => ?_) h
      replace hF := KF_t hF hG (by decide) (by decide) (by decide) (by decide) (by decide) (by decide) (by decide) (by decide)
      refine ⟨h.1, ?_⟩
      replace h := h.2
      refine km_X8_reach _ _ _ _ _ (fun S33 hG h => ?_) h
      replace hF := KF_t hF hG (by decide) (by decide) (by decide) (by decide) (by decide) (by decide) (by decide) (by decide)
      intro z34 ez34
      replace h := h z34 ez34
      refine ⟨h.1, ?_⟩
      replace h := h.2
      refine km_X8_reach _ _ _ _ _ (fun S35 hG h => ?_) h
      replace hF := KF_t hF hG (by decide) (by decide) (by decide) (by decide) (by decide) (by decide) (by decide) (by decide)
      exact hk _ hF h
    · replace h := h.2 c
      refine ⟨fun c => ?_, fun c => ?_⟩
      · replace h := h.1 c
        intro z37 ez37
        replace h := h z37 ez37
        refine ⟨h.1, ?_⟩
        replace h := h.2
        refine km_X8_reach _ _ _ _ _ (fun S38 hG h => ?_) h
        replace hF := KF_t hF hG (by decide) (by decide) (by decide) (by decide) (by decide) (by decide) (by decide) (by decide)
        exact hk _ hF h
      · replace h := h.2 c
        refine ⟨fun c => ?_, fun c => ?_⟩
        · replace h := h.1 c
          intro z40 ez40
          replace h := h z40 ez40
          refine ⟨h.1, ?_⟩
          replace h := h.2
          refine km_X8_reach _ _ _ _ _ (fun S41 hG h => ?_) h
          replace hF := KF_t hF hG (by decide) (by decide) (by decide) (by decide) (by decide) (by decide) (by decide) (by decide)
          exact hk _ hF h
        · replace h := h.2 c
          refine ⟨fun c => ?_, fun c => ?_⟩
          · replace h := h.1 c
            intro z43 ez43
            replace h := h z43 ez43
            refine ⟨h.1, ?_⟩
            replace h := h.2
            refine km_X8_reach _ _ _ _ _ (fun S44 hG h => ?_) h
            replace hF := KF_t hF hG (by decide) (by decide) (by decide) (by decide) (by decide) (by decide) (by decide) (by decide)
            exact hk _ hF h
          · replace h := h.2 c
            refine ⟨fun c => ?_, fun c => ?_⟩
            · replace h := h.1 c
              intro z46 ez46
              replace h := h z46 ez46
              refine ⟨h.1, ?_⟩
              replace h := h.2
              refine km_X8_reach _ _ _ _ _ (fun S47 hG h => ?_) h
              replace hF := KF_t hF hG (by decide) (by decide) (by decide) (by decide) (by decide) (by decide) (by decide) (by decide)
              exact hk _ hF h
            · replace h := h.2 c
              refine ⟨fun c => ?_, fun c => ?_⟩
              · replace h := h.1 c
                refine ⟨h.1, ?_⟩
                replace h := h.2
                refine km_X8_reach _ _ _ _ _ (fun S49 hG h => ?_) h
                replace hF := KF_t hF hG (by decide) (by decide) (by decide) (by decide) (by decide) (by decide) (by decide) (by decide)
                intro z50 ez50
                replace h := h z50 ez50
                refine ⟨h.1, ?_⟩
                replace h := h.2
                refine km_X8_reach _ _ _ _ _ (fun S51 hG h => ?_) h
                replace hF := KF_t hF hG (by decide) (by decide) (by decide) (by decide) (by decide) (by decide) (by decide) (by decide)
                exact hk _ hF h
              · replace h := h.2 c
                refine ⟨fun c => ?_, fun c => ?_⟩
                · replace h := h.1 c
                  refine ⟨h.1, ?_⟩
                  replace h := h.2
                  refine km_X8_reach _ _ _ _ _ (fun S53 hG h => ?_) h
                  replace hF := KF_t hF hG (by decide) (by decide) (by decide) (by decide) (by decide) (by decide) (by decide) (by decide)
                  exact hk _ hF h
                · replace h := h.2 c
                  refine ⟨fun c => ?_, fun c => ?_⟩
                  · replace h := h.1 c
                    obtain ⟨q55, eq55, h9⟩ := h
                    replace h := h9
                    clear h9
                    refine ⟨q55, eq55, ?_⟩
                    refine ⟨h.1, ?_⟩
                    replace h := h.2
                    refine km_X7_breakTo _ _ _ _ _ _ (fun S56 r56 hG h => ?_) h
                    replace hF := KF_t hF hG (by decide) (by decide) (by decide) (by decide) (by decide) (by decide) (by decide) (by decide)
                    refine ⟨h.1, ?_⟩
                    replace h := h.2
                    refine km_X8_reach _ _ _ _ _ (fun S57 hG h => ?_) h
                    replace hF := KF_t hF hG (by decide) (by decide) (by decide) (by decide) (by decide) (by decide) (by decide) (by decide)
                    exact hk _ hF h
                  · replace h := h.2 c
                    refine ⟨fun c => ?_, fun c => ?_⟩
                    · replace h := h.1 c
                      obtain ⟨q59, eq59, h9⟩ := h
                      replace h := h9
                      clear h9
                      refine ⟨q59, eq59, ?_⟩
                      refine ⟨h.1, ?_⟩
                      replace h := h.2
                      refine km_X7_continueTo _ _ _ _ _ _ (fun S60 r60 hG h => ?_) h
                      replace hF := KF_t hF hG (by decide) (by decide) (by decide) (by decide) (by decide) (by decide) (by decide) (by decide)
                      refine ⟨h.1, ?_⟩
                      replace h := h.2
                      refine km_X8_reach _ _ _ _ _ (fun S61 hG h => ?_) h
                      replace hF := KF_t hF hG (by decide) (by decide) (by decide) (by decide) (by decide) (by decide) (by decide) (by decide)
                      exact hk _ hF h
                    · replace h := h.2 c
                      refine ⟨fun c => ?_, fun c => ?_⟩
                      · replace h := h.1 c
                        obtain ⟨q63, eq63, h9⟩ := h
                        replace h := h9
                        clear h9
                        refine ⟨q63, eq63, ?_⟩
                        refine ⟨h.1, ?_⟩
                        replace h := h.2
                        refine km_X7_cancelTo _ _ _ _ _ _ (fun S64 r64 hG h => ?_) h
                        replace hF := KF_t hF hG (by decide) (by decide) (by decide) (by decide) (by decide) (by decide) (by decide) (by decide)
                        refine ⟨h.1, ?_⟩
                        replace h := h.2
                        refine km_X8_reach _ _ _ _ _ (fun S65 hG h => ?_) h
                        replace hF := KF_t hF hG (by decide) (by decide) (by decide) (by decide) (by decide) (by decide) (by decide) (by decide)
                        exact hk _ hF h
                      · replace h := h.2 c
                        refine ⟨fun c => ?_, fun c => ?_⟩
                        · replace h := h.1 c
                          obtain ⟨q67, eq67, h9⟩ := h
                          replace h := h9
                          clear h9
                          refine ⟨q67, eq67, ?_⟩
                          refine ⟨h.1, ?_⟩
                          replace h := h.2
                          refine km_X7_failureTo _ _ _ _ _ _ (fun S68 r68 hG h => ?_) h
                          replace hF := KF_t hF hG (by decide) (by decide) (by decide) (by decide) (by decide) (by decide) (by decide) (by decide)
                          refine ⟨h.1, ?_⟩
                          replace h := h.2
                          refine km_X8_reach _ _ _ _ _ (fun S69 hG h => ?_) h
                          replace hF := KF_t hF hG (by decide) (by decide) (by decide) (by decide) (by decide) (by decide) (by decide) (by decide)
                          exact hk _ hF h
                        · replace h := h.2 c
                          refine ⟨fun c => ?_, fun c => ?_⟩
                          · replace h := h.1 c
                            obtain ⟨q71, eq71, h9⟩ := h
                            replace h := h9
                            clear h9
                            refine ⟨q71, eq71, ?_⟩
                            refine ⟨h.1, ?_⟩
                            replace h := h.2
                            refine km_X7_is _ _ _ _ _ _ (fun S72 r72 hG h => ?_) h
                            replace hF := KF_t hF hG (by decide) (by decide) (by decide) (by decide) (by decide) (by decide) (by decide) (by decide)
                            refine ⟨fun c => ?_, fun c => ?_⟩
                            · replace h := h.1 c
                              refine ⟨h.1, ?_⟩
                              replace h := h.2
                              intro z74 ez74
                              replace h := h z74 ez74
                              obtain ⟨q75, eq75, h9⟩ := h
                              replace h := h9
                              clear h9
                              refine ⟨q75, eq75, ?_⟩
                              refine ⟨h.1, ?_⟩
                              replace h := h.2
                              refine ⟨h.1, ?_⟩
                              replace h := h.2
                              intro z76 ez76
                              replace h := h z76 ez76
                              exact km_X8_follow_341 hk hF h
                            · replace h := h.2 c
                              refine ⟨h.1, ?_⟩
                              replace h := h.2
                              intro z77 ez77
                              replace h := h z77 ez77
                              obtain ⟨q78, eq78, h9⟩ := h
                              replace h := h9
                              clear h9
                              refine ⟨q78, eq78, ?_⟩
                              refine ⟨h.1, ?_⟩
                              replace h := h.2
                              refine ⟨h.1, ?_⟩
                              replace h := h.2
                              intro z79 ez79
                              replace h := h z79 ez79
                              exact km_X8_follow_341 hk hF h
                          · replace h := h.2 c
                            refine ⟨fun c => ?_, fun c => ?_⟩
                            · replace h := h.1 c
                              intro z81 ez81
                              replace h := h z81 ez81
                              refine ⟨h.1, ?_⟩
                              replace h := h.2
                              refine km_X8_reach _ _ _ _ _ (fun S82 hG h => ?_) h
                              replace hF := KF_t hF hG (by decide) (by decide) (by decide) (by decide) (by decide) (by decide) (by decide) (by decide)
                              exact hk _ hF h
                            · replace h := h.2 c
                              refine ⟨fun c => ?_, fun c => ?_⟩
                              · replace h := h.1 c
                                refine ⟨h.1, ?_⟩
                                replace h := h.2
                                refine km_X8_followFinish _ _ _ _ _ _ (fun S84 hG h => ?_) h
                                replace hF := KF_t hF hG (by decide) (by decide) (by decide) (by decide) (by decide) (by decide) (by decide) (by decide)
                                exact hk _ hF h
                              · replace h := h.2 c
                                refine ⟨fun c => ?_, fun c => ?_⟩
                                · replace h := h.1 c
                                  exact hk _ hF h
                                · replace h := h.2 c
                                  refine ⟨fun c => ?_, fun c => ?_⟩
                                  · replace h := h.1 c
                                    intro z87 ez87
                                    replace h := h z87 ez87
                                    refine ⟨h.1, ?_⟩
                                    replace h := h.2
                                    refine km_X8_reach _ _ _ _ _ (fun S88 hG h => ?_) h
                                    replace hF := KF_t hF hG (by decide) (by decide) (by decide) (by decide) (by decide) (by decide) (by decide) (by decide)
                                    exact hk _ hF h
                                  · replace h := h.2 c
                                    refine ⟨fun c => ?_, fun c => ?_⟩
                                    · replace h := h.1 c
                                      intro z90 ez90
                                      replace h := h z90 ez90
                                      refine ⟨h.1, ?_⟩
                                      replace h := h.2
                                      refine km_X8_reach _ _ _ _ _ (fun S91 hG h => ?_) h
                                      replace hF := KF_t hF hG (by decide) (by decide) (by decide) (by decide) (by decide) (by decide) (by decide) (by decide)
                                      exact hk _ hF h
                                    · replace h := h.2 c
                                      refine ⟨fun c => ?_, fun c => ?_⟩
                                      · replace h := h.1 c
                                        intro z93 ez93
                                        replace h := h z93 ez93
                                        refine ⟨h.1, ?_⟩
                                        replace h := h.2
                                        refine km_X8_reach _ _ _ _ _ (fun S94 hG h => ?_) h
                                        replace hF := KF_t hF hG (by decide) (by decide) (by decide) (by decide) (by decide) (by decide) (by decide) (by decide)
                                        exact hk _ hF h
                                      · replace h := h.2 c
                                        refine ⟨fun c => ?_, fun c => ?_⟩
                                        · replace h := h.1 c
                                          intro z96 ez96
                                          replace h := h z96 ez96
                                          refine ⟨h.1, ?_⟩
                                          replace h := h.2
                                          refine km_X8_reach _ _ _ _ _ (fun S97 hG h => ?_) h
                                          replace hF := KF_t hF hG (by decide) (by decide) (by decide) (by decide) (by decide) (by decide) (by decide) (by decide)
                                          exact hk _ hF h
                                        · replace h := h.2 c
                                          refine ⟨fun c => ?_, fun c => ?_⟩
                                          · replace h := h.1 c
                                            intro z99 ez99
                                            replace h := h z99 ez99
                                            refine ⟨h.1, ?_⟩
                                            replace h := h.2
                                            refine km_X8_reach _ _ _ _ _ (fun S100 hG h => ?_) h
                                            replace hF := KF_t hF hG (by decide) (by decide) (by decide) (by decide) (by decide) (by decide) (by decide) (by decide)
                                            exact hk _ hF h
                                          · replace h := h.2 c
                                            refine ⟨fun c => ?_, fun c => ?_⟩
                                            · replace h := h.1 c
                                              intro z102 ez102
                                              replace h := h z102 ez102
                                              refine ⟨h.1, ?_⟩
                                              replace h := h.2
                                              refine km_X8_reach _ _ _ _ _ (fun S103 hG h => ?_) h
                                              replace hF := KF_t hF hG (by decide) (by decide) (by decide) (by decide) (by decide) (by decide) (by decide) (by decide)
                                              exact hk _ hF h
                                            · replace h := h.2 c
                                              refine ⟨fun c => ?_, fun c => ?_⟩
                                              · replace h := h.1 c
                                                intro z105 ez105
                                                replace h := h z105 ez105
                                                refine ⟨h.1, ?_⟩
                                                replace h := h.2
                                                refine km_X8_reach _ _ _ _ _ (fun S106 hG h => ?_) h
                                                replace hF := KF_t hF hG (by decide) (by decide) (by decide) (by decide) (by decide) (by decide) (by decide) (by decide)
                                                exact hk _ hF h
                                              · replace h := h.2 c
                                                refine ⟨fun c => ?_, fun c => ?_⟩
                                                · replace h := h.1 c
                                                  intro z108 ez108
                                                  replace h := h z108 ez108
                                                  refine ⟨h.1, ?_⟩
                                                  replace h := h.2
                                                  refine km_X8_reach _ _ _ _ _ (fun S109 hG h => ?_) h
                                                  replace hF := KF_t hF hG (by decide) (by decide) (by decide) (by decide) (by decide) (by decide) (by decide) (by decide)
                                                  exact hk _ hF h
                                                · replace h := h.2 c
                                                  refine ⟨fun c => ?_, fun c => ?_⟩
                                                  · replace h := h.1 c
                                                    intro z111 ez111
                                                    replace h := h z111 ez111
                                                    refine ⟨h.1, ?_⟩
                                                    replace h := h.2
                                                    refine km_X8_reach _ _ _ _ _ (fun S112 hG h => ?_) h
                                                    replace hF := KF_t hF hG (by decide) (by decide) (by decide) (by decide) (by decide) (by decide) (by decide) (by decide)
                                                    exact hk _ hF h
                                                  · replace h := h.2 c
                                                    refine ⟨fun c => ?_, fun c => ?_⟩
                                                    · replace h := h.1 c
                                                      intro z114 ez114
                                                      replace h := h z114 ez114
                                                      refine ⟨h.1, ?_⟩
                                                      replace h := h.2
                                                      refine km_X8_reach _ _ _ _ _ (fun S115 hG h => ?_) h
                                                      replace hF := KF_t hF hG (by decide) (by decide) (by decide) (by decide) (by decide) (by decide) (by decide) (by decide)
                                                      exact hk _ hF h
                                                    · replace h := h.2 c
                                                      refine ⟨fun c => ?_, fun c => ?_⟩
                                                      · replace h := h.1 c
                                                        obtain ⟨q117, eq117, h9⟩ := h
                                                        replace h := h9
                                                        clear h9
                                                        refine ⟨q117, eq117, ?_⟩
                                                        refine ⟨h.1, ?_⟩
                                                        replace h := h.2
                                                        refine km_X7_cancelTo _ _ _ _ _ _ (fun S118 r118 hG h => ?_) h
                                                        replace hF := KF_t hF hG (by decide) (by decide) (by decide) (by decide) (by decide) (by decide) (by decide) (by decide)
                                                        refine ⟨h.1, ?_⟩
                                                        replace h := h.2
                                                        refine km_X8_reach _ _ _ _ _ (fun S119 hG h => ?_) h
                                                        replace hF := KF_t hF hG (by decide) (by decide) (by decide) (by decide) (by decide) (by decide) (by decide) (by decide)
                                                        refine ⟨h.1, ?_⟩
                                                        replace h := h.2
                                                        refine km_X7_failureTo _ _ _ _ _ _ (fun S120 r120 hG h => ?_) h
                                                        replace hF := KF_t hF hG (by decide) (by decide) (by decide) (by decide) (by decide) (by decide) (by decide) (by decide)
                                                        refine ⟨h.1, ?_⟩
                                                        replace h := h.2
                                                        refine km_X8_reach _ _ _ _ _ (fun S121 hG h => ?_) h
                                                        replace hF := KF_t hF hG (by decide) (by decide) (by decide) (by decide) (by decide) (by decide) (by decide) (by decide)
                                                        intro z122 ez122
                                                        replace h := h z122 ez122
                                                        refine ⟨h.1, ?_⟩
                                                        replace h := h.2
                                                        refine km_X8_reach _ _ _ _ _ (fun S123 hG h => ?_) h
                                                        replace hF := KF_t hF hG (by decide) (by decide) (by decide) (by decide) (by decide) (by decide) (by decide) (by decide)
                                                        exact hk _ hF h
                                                      · replace h := h.2 c
                                                        intro z124 ez124
                                                        replace h := h z124 ez124
                                                        refine ⟨h.1, ?_⟩
                                                        replace h := h.2
                                                        refine km_X8_reach _ _ _ _ _ (fun S125 hG h => ?_) h
                                                        replace hF := KF_t hF hG (by decide) (by decide) (by decide) (by decide) (by decide) (by decide) (by decide) (by decide)
                                                        exact hk _ hF h
theorem km_X8_set (t0 : Nat) (a0 : Nat) (a1 : Int32) (a2 : Int32) : KmV [26, 27] [55] [53, 54] [] [] (wp_X8_set t0 a0 a1 a2) := by
  intro S0 K K' hk h
  have hF : KF [26, 27] [55] [53, 54] [] [] S0 S0 := KF_rf
  unfold wp_X8_set at h ⊢
  refine ⟨h.1, ?_⟩
  replace h := h.2
  intro S1 eS1
  replace h := h S1 eS1
  replace hF := KF_r hF eS1 (by decide)
  refine ⟨h.1, ?_⟩
  replace h := h.2
  intro z2 ez2
  replace h := h z2 ez2
  intro z3 ez3
  replace h := h z3 ez3
  refine ⟨h.1, ?_⟩
  replace h := h.2
  intro S4 eS4
  replace h := h S4 eS4
  replace hF := KF_i hF eS4 (by decide)
  refine ⟨h.1, ?_⟩
  replace h := h.2
  intro S5 eS5
  replace h := h S5 eS5
  replace hF := KF_i hF eS5 (by decide)
  refine ⟨fun c => ?_, fun c => ?_⟩
  · replace h := h.1 c
    refine ⟨h.1, ?_⟩
    replace h := h.2
    intro z7 ez7
    replace h := h z7 ez7
    obtain ⟨q8, eq8, h9⟩ := h
    replace h := h9
    clear h9
    refine ⟨q8, eq8, ?_⟩
    refine ⟨h.1, ?_⟩
    replace h := h.2
    intro z9 ez9
    replace h := h z9 ez9
    intro z10 ez10
    replace h := h z10 ez10
    intro z11 ez11
    replace h := h z11 ez11
    intro z12 ez12
    replace h := h z12 ez12
    obtain ⟨q13, eq13, h9⟩ := h
    replace h := h9
    clear h9
    refine ⟨q13, eq13, ?_⟩
    refine ⟨h.1, ?_⟩
    replace h := h.2
    refine ⟨h.1, ?_⟩
    replace h := h.2
    intro z14 ez14
    replace h := h z14 ez14
    refine ⟨h.1, ?_⟩
    replace h := h.2
    refine km_X8_follow _ _ _ _ _ _ (fun S15 hG h => ?_) h
    replace hF := KF_t hF hG (by decide) (by decide) (by decide) (by decide) (by decide) (by decide) (by decide) (by decide)
    exact hk _ hF h
  · replace h := h.2 c
    refine ⟨h.1, ?_⟩
    replace h := h.2
    intro z16 ez16
    replace h := h z16 ez16
    obtain ⟨q17, eq17, h9⟩ := h
    replace h := h9
    clear h9
    refine ⟨q17, eq17, ?_⟩
    refine ⟨h.1, ?_⟩
    replace h := h.2
    intro z18 ez18
    replace h := h z18 ez18
    obtain ⟨q19, eq19, h9⟩ := h
    replace h := h9
    clear h9
    refine ⟨q19, eq19, ?_⟩
    refine ⟨h.1, ?_⟩
    replace h := h.2
    refine ⟨h.1, ?_⟩
    replace h := h.2
    intro z20 ez20
    replace h := h z20 ez20
    refine ⟨h.1, ?_⟩
    replace h := h.2
    refine km_X8_reach _ _ _ _ _ (fun S21 hG h => ?_) h
    replace hF := KF_t hF hG (by decide) (by decide) (by decide) (by decide) (by decide) (by decide) (by decide) (by decide)
    exact hk _ hF h
theorem km_X8_readsFirst_119 {K K' : kS → Int32 → Prop} {k10 k10' : Nat × Int32 × Int32 × Int32 × kS → Prop} {S0 : kS} (hk : ∀ S1 r1, KF [26, 27] [55] [53, 54] [] [] S0 S1 → K S1 r1 → K' S1 r1) (hk10 : ∀ u : Nat × Int32 × Int32 × Int32 × kS, KF [26, 27] [55] [53, 54] [] [] S0 u.2.2.2.2 → k10 u → k10' u) {x0 : Nat} {x2 : Int32} {x4 : Int32} {x5 : Int32} {S : kS} (hF : KF [26, 27] [55] [53, 54] [] [] S0 S) (h : wp_X8_readsFirst_119 K k10 x0 x2 x4 x5 S) : wp_X8_readsFirst_119 K' k10' x0 x2 x4 x5 S := by
  unfold wp_X8_readsFirst_119 at h ⊢
  intro z28 ez28
  replace h := h z28 ez28
  exact hk10 _ hF h
theorem km_X8_readsFirst_112 {K K' : kS → Int32 → Prop} {k10 k10' : Nat × Int32 × Int32 × Int32 × kS → Prop} {S0 : kS} (hk : ∀ S1 r1, KF [26, 27] [55] [53, 54] [] [] S0 S1 → K S1 r1 → K' S1 r1) (hk10 : ∀ u : Nat × Int32 × Int32 × Int32 × kS, KF [26, 27] [55] [53, 54] [] [] S0 u.2.2.2.2 → k10 u → k10' u) {x0 : Nat} {x2 : Int32} {x4 : Int32} {x5 : Int32} {x6 : Int32} {S : kS} (hF : KF [26, 27] [55] [53, 54] [] [] S0 S) (h : wp_X8_readsFirst_112 K k10 x0 x2 x4 x5 x6 S) : wp_X8_readsFirst_112 K' k10' x0 x2 x4 x5 x6 S := by
  unfold wp_X8_readsFirst_112 at h ⊢
  refine ⟨h.1, ?_⟩
  replace h := h.2
  refine km_X8_follow _ _ _ _ _ _ (fun S29 hG h => ?_) h
  replace hF := KF_t hF hG (by decide) (by decide) (by decide) (by decide) (by decide) (by decide) (by decide) (by decide)
  exact km_X8_readsFirst_119 hk hk10 hF h
theorem km_X8_readsFirst_93 {K K' : kS → Int32 → Prop} {k10 k10' : Nat × Int32 × Int32 × Int32 × kS → Prop} {S0 : kS} (hk : ∀ S1 r1, KF [26, 27] [55] [53, 54] [] [] S0 S1 → K S1 r1 → K' S1 r1) (hk10 : ∀ u : Nat × Int32 × Int32 × Int32 × kS, KF [26, 27] [55] [53, 54] [] [] S0 u.2.2.2.2 → k10 u → k10' u) {x0 : Nat} {x2 : Int32} {x4 : Int32} {x5 : Int32} {x6 : Int32} {x7 : Int32} {x8 : Int32} {S : kS} (hF : KF [26, 27] [55] [53, 54] [] [] S0 S) (h : wp_X8_readsFirst_93 K k10 x0 x2 x4 x5 x6 x7 x8 S) : wp_X8_readsFirst_93 K' k10' x0 x2 x4 x5 x6 x7 x8 S := by
  unfold wp_X8_readsFirst_93 at h ⊢
  refine ⟨fun c => ?_, fun c => ?_⟩
  · replace h := h.1 c
    exact km_X8_readsFirst_112 hk hk10 hF h
  · replace h := h.2 c
    refine ⟨fun c => ?_, fun c => ?_⟩
    · replace h := h.1 c
      exact km_X8_readsFirst_119 hk hk10 hF h
    · replace h := h.2 c
      refine ⟨fun c => ?_, fun c => ?_⟩
      · replace h := h.1 c
        exact km_X8_readsFirst_119 hk hk10 hF h
      · replace h := h.2 c
        exact km_X8_readsFirst_112 hk hk10 hF h
theorem km_X8_readsFirst_78 {K K' : kS → Int32 → Prop} {k10 k10' : Nat × Int32 × Int32 × Int32 × kS → Prop} {S0 : kS} (hk : ∀ S1 r1, KF [26, 27] [55] [53, 54] [] [] S0 S1 → K S1 r1 → K' S1 r1) (hk10 : ∀ u : Nat × Int32 × Int32 × Int32 × kS, KF [26, 27] [55] [53, 54] [] [] S0 u.2.2.2.2 → k10 u → k10' u) {x0 : Nat} {x2 : Int32} {x4 : Int32} {x5 : Int32} {x6 : Int32} {x7 : Int32} {y0 : Int32} {S : kS} (hF : KF [26, 27] [55] [53, 54] [] [] S0 S) (h : wp_X8_readsFirst_78 K k10 x0 x2 x4 x5 x6 x7 y0 S) : wp_X8_readsFirst_78 K' k10' x0 x2 x4 x5 x6 x7 y0 S := by
  unfold wp_X8_readsFirst_78 at h ⊢
  refine ⟨fun c => ?_, fun c => ?_⟩
  · replace h := h.1 c
    exact km_X8_readsFirst_93 hk hk10 hF h
  · replace h := h.2 c
    refine ⟨fun c => ?_, fun c => ?_⟩
    · replace h := h.1 c
      exact km_X8_readsFirst_93 hk hk10 hF h
    · replace h := h.2 c
      exact hk _ _ hF h
theorem km_X8_readsFirst_10 {K K' : kS → Int32 → Prop} {k10 k10' : Nat × Int32 × Int32 × Int32 × kS → Prop} {S0 : kS} (hk : ∀ S1 r1, KF [26, 27] [55] [53, 54] [] [] S0 S1 → K S1 r1 → K' S1 r1) (hk10 : ∀ u : Nat × Int32 × Int32 × Int32 × kS, KF [26, 27] [55] [53, 54] [] [] S0 u.2.2.2.2 → k10 u → k10' u) {x0 : Nat} {x2 : Int32} {x4 : Int32} {x5 : Int32} {S : kS} (hF : KF [26, 27] [55] [53, 54] [] [] S0 S) (h : wp_X8_readsFirst_10 K k10 x0 x2 x4 x5 S) : wp_X8_readsFirst_10 K' k10' x0 x2 x4 x5 S := by
  unfold wp_X8_readsFirst_10 at h ⊢
  refine ⟨fun c => ?_, fun c => ?_⟩
  · replace h := h.1 c
    exact hk _ _ hF h
  · replace h := h.2 c
    refine ⟨h.1, ?_⟩
    replace h := h.2
    intro z3 ez3
    replace h := h z3 ez3
    refine ⟨fun c => ?_, fun c => ?_⟩
    · replace h := h.1 c
      exact hk _ _ hF h
    · replace h := h.2 c
      refine ⟨h.1, ?_⟩
      replace h := h.2
      intro z5 ez5
      replace h := h z5 ez5
      intro z6 ez6
      replace h := h z6 ez6
      refine ⟨h.1, ?_⟩
      replace h := h.2
      intro S7 eS7
      replace h := h S7 eS7
      replace hF := KF_i hF eS7 (by decide)
      refine ⟨h.1, ?_⟩
      replace h := h.2
      intro z8 ez8
      replace h := h z8 ez8
      refine ⟨h.1, ?_⟩
      replace h := h.2
      intro z9 ez9
      replace h := h z9 ez9
      obtain ⟨q10, eq10, h9⟩ := h
      replace h := h9
      clear h9
      refine ⟨q10, eq10, ?_⟩
      refine ⟨h.1, ?_⟩
      replace h := h.2
      refine ⟨h.1, ?_⟩
      replace h := h.2
      intro z11 ez11
      replace h := h z11 ez11
      refine ⟨h.1, ?_⟩
      replace h := h.2
      intro z12 ez12
      replace h := h z12 ez12
      obtain ⟨q13, eq13, h9⟩ := h
      replace h := h9
      clear h9
      refine ⟨q13, eq13, ?_⟩
      refine ⟨h.1, ?_⟩
      replace h := h.2
      intro z14 ez14
      replace h := h z14 ez14
      obtain ⟨q15, eq15, h9⟩ := h
      replace h := h9
      clear h9
      refine ⟨q15, eq15, ?_⟩
      refine ⟨h.1, ?_⟩
      replace h := h.2
      refine ⟨h.1, ?_⟩
      replace h := h.2
      intro z16 ez16
      replace h := h z16 ez16
      refine ⟨h.1, ?_⟩
      replace h := h.2
      intro z17 ez17
      replace h := h z17 ez17
      obtain ⟨q18, eq18, h9⟩ := h
      replace h := h9
      clear h9
      refine ⟨q18, eq18, ?_⟩
      refine ⟨h.1, ?_⟩
      replace h := h.2
      intro z19 ez19
      replace h := h z19 ez19
      obtain ⟨q20, eq20, h9⟩ := h
      replace h := h9
      clear h9
      refine ⟨q20, eq20, ?_⟩
      refine ⟨h.1, ?_⟩
      replace h := h.2
      refine ⟨h.1, ?_⟩
      replace h := h.2
      intro z21 ez21
      replace h := h z21 ez21
      refine ⟨fun c => ?_, fun c => ?_⟩
      · replace h := h.1 c
        exact km_X8_readsFirst_78 hk hk10 hF h
      · replace h := h.2 c
        exact km_X8_readsFirst_78 hk hk10 hF h
theorem kml_X8_readsFirst_10 {K K' : kS → Int32 → Prop} {S0 : kS} (hk : ∀ S1 r1, KF [26, 27] [55] [53, 54] [] [] S0 S1 → K S1 r1 → K' S1 r1) : ∀ (n : Nat) (u : Nat × Int32 × Int32 × Int32 × kS), KF [26, 27] [55] [53, 54] [] [] S0 u.2.2.2.2 → it (ls_X8_readsFirst_10 K) n u → it (ls_X8_readsFirst_10 K') n u := by
  intro n
  induction n with
  | zero => exact fun _ _ h => h
  | succ n ih => exact fun u hF h => km_X8_readsFirst_10 hk ih hF h
theorem km_X8_readsFirst (t0 : Nat) (a0 : Nat) (a1 : Int32) (a2 : Int32) (a3 : Int32) : KmI [26, 27] [55] [53, 54] [] [] (wp_X8_readsFirst t0 a0 a1 a2 a3) := by
  intro S0 K K' hk h
  have hF : KF [26, 27] [55] [53, 54] [] [] S0 S0 := KF_rf
  unfold wp_X8_readsFirst at h ⊢
  refine ⟨h.1, ?_⟩
  replace h := h.2
  refine km_X8_set _ _ _ _ _ _ _ (fun S1 hG h => ?_) h
  replace hF := KF_t hF hG (by decide) (by decide) (by decide) (by decide) (by decide) (by decide) (by decide) (by decide)
  obtain ⟨n9, h⟩ := h
  exact ⟨n9, kml_X8_readsFirst_10 hk n9 _ hF h⟩
theorem km_X11_live (t0 : Nat) (a0 : Int32) (a1 : Int32) (a2 : Int32) : KmI [26, 27] [55] [53, 54] [] [] (wp_X11_live t0 a0 a1 a2) := by
  intro S0 K K' hk h
  have hF : KF [26, 27] [55] [53, 54] [] [] S0 S0 := KF_rf
  unfold wp_X11_live at h ⊢
  refine ⟨h.1, ?_⟩
  replace h := h.2
  intro z1 ez1
  replace h := h z1 ez1
  obtain ⟨q2, eq2, h9⟩ := h
  replace h := h9
  clear h9
  refine ⟨q2, eq2, ?_⟩
  refine ⟨h.1, ?_⟩
  replace h := h.2
  refine km_X5_hasState _ _ _ _ _ _ (fun S3 r3 hG h => ?_) h
  replace hF := KF_t hF hG (by decide) (by decide) (by decide) (by decide) (by decide) (by decide) (by decide) (by decide)
  refine ⟨fun c => ?_, fun c => ?_⟩
  · replace h := h.1 c
    exact hk _ _ hF h
  · replace h := h.2 c
    refine ⟨fun c => ?_, fun c => ?_⟩
    · replace h := h.1 c
      exact hk _ _ hF h
    · replace h := h.2 c
      refine ⟨h.1, ?_⟩
      replace h := h.2
      intro z6 ez6
      replace h := h z6 ez6
      obtain ⟨q7, eq7, h9⟩ := h
      replace h := h9
      clear h9
      refine ⟨q7, eq7, ?_⟩
      refine ⟨h.1, ?_⟩
      replace h := h.2
      intro z8 ez8
      replace h := h z8 ez8
      obtain ⟨q9, eq9, h9⟩ := h
      replace h := h9
      clear h9
      refine ⟨q9, eq9, ?_⟩
      refine ⟨h.1, ?_⟩
      replace h := h.2
      refine ⟨h.1, ?_⟩
      replace h := h.2
      intro z10 ez10
      replace h := h z10 ez10
      refine ⟨fun c => ?_, fun c => ?_⟩
      · replace h := h.1 c
        refine ⟨h.1, ?_⟩
        replace h := h.2
        intro z12 ez12
        replace h := h z12 ez12
        refine ⟨h.1, ?_⟩
        replace h := h.2
        intro z13 ez13
        replace h := h z13 ez13
        obtain ⟨q14, eq14, h9⟩ := h
        replace h := h9
        clear h9
        refine ⟨q14, eq14, ?_⟩
        obtain ⟨q15, eq15, h9⟩ := h
        replace h := h9
        clear h9
        refine ⟨q15, eq15, ?_⟩
        refine ⟨h.1, ?_⟩
        replace h := h.2
        refine km_X8_readsFirst _ _ _ _ _ _ _ _ (fun S16 r16 hG h => ?_) h
        replace hF := KF_t hF hG (by decide) (by decide) (by decide) (by decide) (by decide) (by decide) (by decide) (by decide)
        refine ⟨fun c => ?_, fun c => ?_⟩
        · replace h := h.1 c
          exact hk _ _ hF h
        · replace h := h.2 c
          exact hk _ _ hF h
      · replace h := h.2 c
        exact hk _ _ hF h
theorem km_X11_lost (t0 : Nat) (a0 : Int32) (a1 : Int32) : KmI [] [] [] [] [] (wp_X11_lost t0 a0 a1) := by
  intro S0 K K' hk h
  have hF : KF [] [] [] [] [] S0 S0 := KF_rf
  unfold wp_X11_lost at h ⊢
  refine ⟨h.1, ?_⟩
  replace h := h.2
  intro z1 ez1
  replace h := h z1 ez1
  obtain ⟨q2, eq2, h9⟩ := h
  replace h := h9
  clear h9
  refine ⟨q2, eq2, ?_⟩
  refine ⟨h.1, ?_⟩
  replace h := h.2
  intro z3 ez3
  replace h := h z3 ez3
  obtain ⟨q4, eq4, h9⟩ := h
  replace h := h9
  clear h9
  refine ⟨q4, eq4, ?_⟩
  refine ⟨h.1, ?_⟩
  replace h := h.2
  refine km_X0_tell _ _ _ _ _ _ (fun S5 r5 hG h => ?_) h
  replace hF := KF_t hF hG (by decide) (by decide) (by decide) (by decide) (by decide) (by decide) (by decide) (by decide)
  exact hk _ _ hF h
theorem km_X8_leadsTo_110 {K K' : kS → Int32 → Prop} {k10 k10' : Nat × Int32 × Int32 × Int32 × kS → Prop} {S0 : kS} (hk : ∀ S1 r1, KF [26, 27] [55] [53, 54] [] [] S0 S1 → K S1 r1 → K' S1 r1) (hk10 : ∀ u : Nat × Int32 × Int32 × Int32 × kS, KF [26, 27] [55] [53, 54] [] [] S0 u.2.2.2.2 → k10 u → k10' u) {x0 : Nat} {x2 : Int32} {x4 : Int32} {x5 : Int32} {S : kS} (hF : KF [26, 27] [55] [53, 54] [] [] S0 S) (h : wp_X8_leadsTo_110 K k10 x0 x2 x4 x5 S) : wp_X8_leadsTo_110 K' k10' x0 x2 x4 x5 S := by
  unfold wp_X8_leadsTo_110 at h ⊢
  intro z20 ez20
  replace h := h z20 ez20
  exact hk10 _ hF h
theorem km_X8_leadsTo_105 {K K' : kS → Int32 → Prop} {k10 k10' : Nat × Int32 × Int32 × Int32 × kS → Prop} {S0 : kS} (hk : ∀ S1 r1, KF [26, 27] [55] [53, 54] [] [] S0 S1 → K S1 r1 → K' S1 r1) (hk10 : ∀ u : Nat × Int32 × Int32 × Int32 × kS, KF [26, 27] [55] [53, 54] [] [] S0 u.2.2.2.2 → k10 u → k10' u) {x0 : Nat} {x2 : Int32} {x4 : Int32} {x5 : Int32} {y0 : Int32} {y1 : Int32} {S : kS} (hF : KF [26, 27] [55] [53, 54] [] [] S0 S) (h : wp_X8_leadsTo_105 K k10 x0 x2 x4 x5 y0 y1 S) : wp_X8_leadsTo_105 K' k10' x0 x2 x4 x5 y0 y1 S := by
  unfold wp_X8_leadsTo_105 at h ⊢
  refine ⟨fun c => ?_, fun c => ?_⟩
  · replace h := h.1 c
    exact km_X8_leadsTo_110 hk hk10 hF h
  · replace h := h.2 c
    exact hk _ _ hF h
theorem km_X8_leadsTo_82 {K K' : kS → Int32 → Prop} {k10 k10' : Nat × Int32 × Int32 × Int32 × kS → Prop} {S0 : kS} (hk : ∀ S1 r1, KF [26, 27] [55] [53, 54] [] [] S0 S1 → K S1 r1 → K' S1 r1) (hk10 : ∀ u : Nat × Int32 × Int32 × Int32 × kS, KF [26, 27] [55] [53, 54] [] [] S0 u.2.2.2.2 → k10 u → k10' u) {x0 : Nat} {x2 : Int32} {x4 : Int32} {x5 : Int32} {x6 : Int32} {x7 : Int32} {S : kS} (hF : KF [26, 27] [55] [53, 54] [] [] S0 S) (h : wp_X8_leadsTo_82 K k10 x0 x2 x4 x5 x6 x7 S) : wp_X8_leadsTo_82 K' k10' x0 x2 x4 x5 x6 x7 S := by
  unfold wp_X8_leadsTo_82 at h ⊢
  refine ⟨fun c => ?_, fun c => ?_⟩
  · replace h := h.1 c
    refine ⟨h.1, ?_⟩
    replace h := h.2
    intro z22 ez22
    replace h := h z22 ez22
    obtain ⟨q23, eq23, h9⟩ := h
    replace h := h9
    clear h9
    refine ⟨q23, eq23, ?_⟩
    refine ⟨h.1, ?_⟩
    replace h := h.2
    intro z24 ez24
    replace h := h z24 ez24
    obtain ⟨q25, eq25, h9⟩ := h
    replace h := h9
    clear h9
    refine ⟨q25, eq25, ?_⟩
    refine ⟨h.1, ?_⟩
    replace h := h.2
    refine ⟨h.1, ?_⟩
    replace h := h.2
    intro z26 ez26
    replace h := h z26 ez26
    exact km_X8_leadsTo_105 hk hk10 hF h
  · replace h := h.2 c
    exact km_X8_leadsTo_105 hk hk10 hF h
theorem km_X8_leadsTo_10 {K K' : kS → Int32 → Prop} {k10 k10' : Nat × Int32 × Int32 × Int32 × kS → Prop} {S0 : kS} (hk : ∀ S1 r1, KF [26, 27] [55] [53, 54] [] [] S0 S1 → K S1 r1 → K' S1 r1) (hk10 : ∀ u : Nat × Int32 × Int32 × Int32 × kS, KF [26, 27] [55] [53, 54] [] [] S0 u.2.2.2.2 → k10 u → k10' u) {x0 : Nat} {x2 : Int32} {x4 : Int32} {x5 : Int32} {S : kS} (hF : KF [26, 27] [55] [53, 54] [] [] S0 S) (h : wp_X8_leadsTo_10 K k10 x0 x2 x4 x5 S) : wp_X8_leadsTo_10 K' k10' x0 x2 x4 x5 S := by
  unfold wp_X8_leadsTo_10 at h ⊢
  refine ⟨fun c => ?_, fun c => ?_⟩
  · replace h := h.1 c
    exact hk _ _ hF h
  · replace h := h.2 c
    refine ⟨h.1, ?_⟩
    replace h := h.2
    intro z3 ez3
    replace h := h z3 ez3
    refine ⟨fun c => ?_, fun c => ?_⟩
    · replace h := h.1 c
      exact hk _ _ hF h
    · replace h := h.2 c
      refine ⟨h.1, ?_⟩
      replace h := h.2
      intro z5 ez5
      replace h := h z5 ez5
      intro z6 ez6
      replace h := h z6 ez6
      refine ⟨h.1, ?_⟩
      replace h := h.2
      intro S7 eS7
      replace h := h S7 eS7
      replace hF := KF_i hF eS7 (by decide)
      refine ⟨h.1, ?_⟩
      replace h := h.2
      intro z8 ez8
      replace h := h z8 ez8
      refine ⟨h.1, ?_⟩
      replace h := h.2
      intro z9 ez9
      replace h := h z9 ez9
      obtain ⟨q10, eq10, h9⟩ := h
      replace h := h9
      clear h9
      refine ⟨q10, eq10, ?_⟩
      refine ⟨h.1, ?_⟩
      replace h := h.2
      refine ⟨h.1, ?_⟩
      replace h := h.2
      intro z11 ez11
      replace h := h z11 ez11
      refine ⟨h.1, ?_⟩
      replace h := h.2
      intro z12 ez12
      replace h := h z12 ez12
      obtain ⟨q13, eq13, h9⟩ := h
      replace h := h9
      clear h9
      refine ⟨q13, eq13, ?_⟩
      refine ⟨h.1, ?_⟩
      replace h := h.2
      intro z14 ez14
      replace h := h z14 ez14
      obtain ⟨q15, eq15, h9⟩ := h
      replace h := h9
      clear h9
      refine ⟨q15, eq15, ?_⟩
      refine ⟨h.1, ?_⟩
      replace h := h.2
      refine ⟨h.1, ?_⟩
      replace h := h.2
      intro z16 ez16
      replace h := h z16 ez16
      refine ⟨fun c => ?_, fun c => ?_⟩
      · replace h := h.1 c
        exact km_X8_leadsTo_82 hk hk10 hF h
      · replace h := h.2 c
        refine ⟨fun c => ?_, fun c => ?_⟩
        · replace h := h.1 c
          exact km_X8_leadsTo_82 hk hk10 hF h
        · replace h := h.2 c
          refine ⟨h.1, ?_⟩
          replace h := h.2
          refine km_X8_follow _ _ _ _ _ _ (fun S19 hG h => ?_) h
          replace hF := KF_t hF hG (by decide) (by decide) (by decide) (by decide) (by decide) (by decide) (by decide) (by decide)
          exact km_X8_leadsTo_110 hk hk10 hF h
theorem kml_X8_leadsTo_10 {K K' : kS → Int32 → Prop} {S0 : kS} (hk : ∀ S1 r1, KF [26, 27] [55] [53, 54] [] [] S0 S1 → K S1 r1 → K' S1 r1) : ∀ (n : Nat) (u : Nat × Int32 × Int32 × Int32 × kS), KF [26, 27] [55] [53, 54] [] [] S0 u.2.2.2.2 → it (ls_X8_leadsTo_10 K) n u → it (ls_X8_leadsTo_10 K') n u := by
  intro n
  induction n with
  | zero => exact fun _ _ h => h
  | succ n ih => exact fun u hF h => km_X8_leadsTo_10 hk ih hF h
theorem km_X8_leadsTo (t0 : Nat) (a0 : Nat) (a1 : Int32) (a2 : Int32) (a3 : Int32) : KmI [26, 27] [55] [53, 54] [] [] (wp_X8_leadsTo t0 a0 a1 a2 a3) := by
  intro S0 K K' hk h
  have hF : KF [26, 27] [55] [53, 54] [] [] S0 S0 := KF_rf
  unfold wp_X8_leadsTo at h ⊢
  refine ⟨h.1, ?_⟩
  replace h := h.2
  refine km_X8_set _ _ _ _ _ _ _ (fun S1 hG h => ?_) h
  replace hF := KF_t hF hG (by decide) (by decide) (by decide) (by decide) (by decide) (by decide) (by decide) (by decide)
  obtain ⟨n9, h⟩ := h
  exact ⟨n9, kml_X8_leadsTo_10 hk n9 _ hF h⟩
theorem km_X11_next (t0 : Nat) (a0 : Int32) (a1 : Int32) (a2 : Int32) : KmI [26, 27] [55] [53, 54] [] [] (wp_X11_next t0 a0 a1 a2) := by
  intro S0 K K' hk h
  have hF : KF [26, 27] [55] [53, 54] [] [] S0 S0 := KF_rf
  unfold wp_X11_next at h ⊢
  refine ⟨h.1, ?_⟩
  replace h := h.2
  intro z1 ez1
  replace h := h z1 ez1
  obtain ⟨q2, eq2, h9⟩ := h
  replace h := h9
  clear h9
  refine ⟨q2, eq2, ?_⟩
  refine ⟨h.1, ?_⟩
  replace h := h.2
  refine km_X5_hasState _ _ _ _ _ _ (fun S3 r3 hG h => ?_) h
  replace hF := KF_t hF hG (by decide) (by decide) (by decide) (by decide) (by decide) (by decide) (by decide) (by decide)
  refine ⟨fun c => ?_, fun c => ?_⟩
  · replace h := h.1 c
    exact hk _ _ hF h
  · replace h := h.2 c
    refine ⟨h.1, ?_⟩
    replace h := h.2
    intro z5 ez5
    replace h := h z5 ez5
    obtain ⟨q6, eq6, h9⟩ := h
    replace h := h9
    clear h9
    refine ⟨q6, eq6, ?_⟩
    refine ⟨h.1, ?_⟩
    replace h := h.2
    refine km_X5_hasState _ _ _ _ _ _ (fun S7 r7 hG h => ?_) h
    replace hF := KF_t hF hG (by decide) (by decide) (by decide) (by decide) (by decide) (by decide) (by decide) (by decide)
    refine ⟨fun c => ?_, fun c => ?_⟩
    · replace h := h.1 c
      refine ⟨h.1, ?_⟩
      replace h := h.2
      intro z9 ez9
      replace h := h z9 ez9
      refine ⟨h.1, ?_⟩
      replace h := h.2
      intro z10 ez10
      replace h := h z10 ez10
      obtain ⟨q11, eq11, h9⟩ := h
      replace h := h9
      clear h9
      refine ⟨q11, eq11, ?_⟩
      obtain ⟨q12, eq12, h9⟩ := h
      replace h := h9
      clear h9
      refine ⟨q12, eq12, ?_⟩
      refine ⟨h.1, ?_⟩
      replace h := h.2
      refine km_X8_leadsTo _ _ _ _ _ _ _ _ (fun S13 r13 hG h => ?_) h
      replace hF := KF_t hF hG (by decide) (by decide) (by decide) (by decide) (by decide) (by decide) (by decide) (by decide)
      refine ⟨fun c => ?_, fun c => ?_⟩
      · replace h := h.1 c
        exact hk _ _ hF h
      · replace h := h.2 c
        exact hk _ _ hF h
    · replace h := h.2 c
      exact hk _ _ hF h
theorem km_X11_put (t0 : Nat) (a0 : Int32) (a1 : Int32) : KmI [] [] [] [] [] (wp_X11_put t0 a0 a1) := by
  intro S0 K K' hk h
  have hF : KF [] [] [] [] [] S0 S0 := KF_rf
  unfold wp_X11_put at h ⊢
  refine ⟨h.1, ?_⟩
  replace h := h.2
  intro z1 ez1
  replace h := h z1 ez1
  obtain ⟨q2, eq2, h9⟩ := h
  replace h := h9
  clear h9
  refine ⟨q2, eq2, ?_⟩
  refine ⟨h.1, ?_⟩
  replace h := h.2
  intro z3 ez3
  replace h := h z3 ez3
  obtain ⟨q4, eq4, h9⟩ := h
  replace h := h9
  clear h9
  refine ⟨q4, eq4, ?_⟩
  refine ⟨h.1, ?_⟩
  replace h := h.2
  refine km_X0_tell _ _ _ _ _ _ (fun S5 r5 hG h => ?_) h
  replace hF := KF_t hF hG (by decide) (by decide) (by decide) (by decide) (by decide) (by decide) (by decide) (by decide)
  exact hk _ _ hF h
theorem km_X11_row (t0 : Nat) (a0 : Int32) : KmI [] [] [] [] [] (wp_X11_row t0 a0) := by
  intro S0 K K' hk h
  have hF : KF [] [] [] [] [] S0 S0 := KF_rf
  unfold wp_X11_row at h ⊢
  refine ⟨fun c => ?_, fun c => ?_⟩
  · replace h := h.1 c
    exact hk _ _ hF h
  · replace h := h.2 c
    refine ⟨h.1, ?_⟩
    replace h := h.2
    intro z2 ez2
    replace h := h z2 ez2
    obtain ⟨q3, eq3, h9⟩ := h
    replace h := h9
    clear h9
    refine ⟨q3, eq3, ?_⟩
    refine ⟨h.1, ?_⟩
    replace h := h.2
    intro z4 ez4
    replace h := h z4 ez4
    refine ⟨fun c => ?_, fun c => ?_⟩
    · replace h := h.1 c
      refine ⟨h.1, ?_⟩
      replace h := h.2
      intro z6 ez6
      replace h := h z6 ez6
      obtain ⟨q7, eq7, h9⟩ := h
      replace h := h9
      clear h9
      refine ⟨q7, eq7, ?_⟩
      refine ⟨h.1, ?_⟩
      replace h := h.2
      intro z8 ez8
      replace h := h z8 ez8
      obtain ⟨q9, eq9, h9⟩ := h
      replace h := h9
      clear h9
      refine ⟨q9, eq9, ?_⟩
      refine ⟨h.1, ?_⟩
      replace h := h.2
      refine ⟨h.1, ?_⟩
      replace h := h.2
      intro z10 ez10
      replace h := h z10 ez10
      exact hk _ _ hF h
    · replace h := h.2 c
      exact hk _ _ hF h
theorem km_X2_taskAt_35 {K K' : kS → Int32 → Prop} {S0 : kS} (hk : ∀ S1 r1, KF [] [] [] [] [] S0 S1 → K S1 r1 → K' S1 r1) {x2 : Option Nat} {S : kS} (hF : KF [] [] [] [] [] S0 S) (h : wp_X2_taskAt_35 K x2 S) : wp_X2_taskAt_35 K' x2 S := by
  unfold wp_X2_taskAt_35 at h ⊢
  refine ⟨fun c => ?_, fun q7 c => ?_⟩
  · replace h := h.1 c
    exact hk _ _ hF h
  · replace h := h.2 q7 c
    refine ⟨h.1, ?_⟩
    replace h := h.2
    intro z8 ez8
    replace h := h z8 ez8
    obtain ⟨q9, eq9, h9⟩ := h
    replace h := h9
    clear h9
    refine ⟨q9, eq9, ?_⟩
    refine ⟨h.1, ?_⟩
    replace h := h.2
    intro z10 ez10
    replace h := h z10 ez10
    exact hk _ _ hF h
theorem km_X2_taskAt_15 {K K' : kS → Int32 → Prop} {k15 k15' : Int32 × Option Nat × Int32 × kS → Prop} {S0 : kS} (hk : ∀ S1 r1, KF [] [] [] [] [] S0 S1 → K S1 r1 → K' S1 r1) (hk15 : ∀ u : Int32 × Option Nat × Int32 × kS, KF [] [] [] [] [] S0 u.2.2.2 → k15 u → k15' u) {x1 : Int32} {x2 : Option Nat} {x3 : Int32} {S : kS} (hF : KF [] [] [] [] [] S0 S) (h : wp_X2_taskAt_15 K k15 x1 x2 x3 S) : wp_X2_taskAt_15 K' k15' x1 x2 x3 S := by
  unfold wp_X2_taskAt_15 at h ⊢
  refine ⟨fun c => ?_, fun c => ?_⟩
  · replace h := h.1 c
    exact km_X2_taskAt_35 hk hF h
  · replace h := h.2 c
    refine ⟨fun c => ?_, fun q4 c => ?_⟩
    · replace h := h.1 c
      exact km_X2_taskAt_35 hk hF h
    · replace h := h.2 q4 c
      refine ⟨h.1, ?_⟩
      replace h := h.2
      intro z5 ez5
      replace h := h z5 ez5
      intro z6 ez6
      replace h := h z6 ez6
      exact hk15 _ hF h
theorem kml_X2_taskAt_15 {K K' : kS → Int32 → Prop} {S0 : kS} (hk : ∀ S1 r1, KF [] [] [] [] [] S0 S1 → K S1 r1 → K' S1 r1) : ∀ (n : Nat) (u : Int32 × Option Nat × Int32 × kS), KF [] [] [] [] [] S0 u.2.2.2 → it (ls_X2_taskAt_15 K) n u → it (ls_X2_taskAt_15 K') n u := by
  intro n
  induction n with
  | zero => exact fun _ _ h => h
  | succ n ih => exact fun u hF h => km_X2_taskAt_15 hk ih hF h
theorem km_X2_taskAt_12 {K K' : kS → Int32 → Prop} {S0 : kS} (hk : ∀ S1 r1, KF [] [] [] [] [] S0 S1 → K S1 r1 → K' S1 r1) {x1 : Int32} {y0 : Option Nat} {S : kS} (hF : KF [] [] [] [] [] S0 S) (h : wp_X2_taskAt_12 K x1 y0 S) : wp_X2_taskAt_12 K' x1 y0 S := by
  unfold wp_X2_taskAt_12 at h ⊢
  obtain ⟨n9, h⟩ := h
  exact ⟨n9, kml_X2_taskAt_15 hk n9 _ hF h⟩
theorem km_X2_taskAt (t0 : Nat) (a0 : Int32) : KmI [] [] [] [] [] (wp_X2_taskAt t0 a0) := by
  intro S0 K K' hk h
  have hF : KF [] [] [] [] [] S0 S0 := KF_rf
  unfold wp_X2_taskAt at h ⊢
  refine ⟨fun c => ?_, fun c => ?_⟩
  · replace h := h.1 c
    refine ⟨h.1, ?_⟩
    replace h := h.2
    intro z2 ez2
    replace h := h z2 ez2
    exact km_X2_taskAt_12 hk hF h
  · replace h := h.2 c
    exact km_X2_taskAt_12 hk hF h
theorem km_X11_stands (t0 : Nat) (a0 : Int32) (a1 : Int32) : KmI [] [] [] [] [] (wp_X11_stands t0 a0 a1) := by
  intro S0 K K' hk h
  have hF : KF [] [] [] [] [] S0 S0 := KF_rf
  unfold wp_X11_stands at h ⊢
  refine ⟨fun c => ?_, fun c => ?_⟩
  · replace h := h.1 c
    exact hk _ _ hF h
  · replace h := h.2 c
    refine ⟨fun c => ?_, fun c => ?_⟩
    · replace h := h.1 c
      refine ⟨h.1, ?_⟩
      replace h := h.2
      intro z3 ez3
      replace h := h z3 ez3
      obtain ⟨q4, eq4, h9⟩ := h
      replace h := h9
      clear h9
      refine ⟨q4, eq4, ?_⟩
      refine ⟨h.1, ?_⟩
      replace h := h.2
      intro z5 ez5
      replace h := h z5 ez5
      obtain ⟨q6, eq6, h9⟩ := h
      replace h := h9
      clear h9
      refine ⟨q6, eq6, ?_⟩
      refine ⟨h.1, ?_⟩
      replace h := h.2
      refine ⟨h.1, ?_⟩
      replace h := h.2
      intro z7 ez7
      replace h := h z7 ez7
      obtain ⟨q8, eq8, h9⟩ := h
      replace h := h9
      clear h9
      refine ⟨q8, eq8, ?_⟩
      refine ⟨h.1, ?_⟩
      replace h := h.2
      refine km_X2_taskAt _ _ _ _ _ (fun S9 r9 hG h => ?_) h
      replace hF := KF_t hF hG (by decide) (by decide) (by decide) (by decide) (by decide) (by decide) (by decide) (by decide)
      exact hk _ _ hF h
    · replace h := h.2 c
      exact hk _ _ hF h
theorem km_X1_pass_80 {K K' : kS → Prop} {k9 k9' : Nat × Int32 × Int32 × kS → Prop} {S0 : kS} (hk : ∀ S1, KF [0, 2, 3, 4, 5, 13, 14, 15, 30, 31, 35, 37, 38, 39] [12, 13, 25, 26, 27] [0, 1, 4, 10] [] [] S0 S1 → K S1 → K' S1) (hk9 : ∀ u : Nat × Int32 × Int32 × kS, KF [0, 2, 3, 4, 5, 13, 14, 15, 30, 31, 35, 37, 38, 39] [12, 13, 25, 26, 27] [0, 1, 4, 10] [] [] S0 u.2.2.2 → k9 u → k9' u) {x0 : Nat} {x2 : Int32} {x3 : Int32} {S : kS} (hF : KF [0, 2, 3, 4, 5, 13, 14, 15, 30, 31, 35, 37, 38, 39] [12, 13, 25, 26, 27] [0, 1, 4, 10] [] [] S0 S) (h : wp_X1_pass_80 K k9 x0 x2 x3 S) : wp_X1_pass_80 K' k9' x0 x2 x3 S := by
  unfold wp_X1_pass_80 at h ⊢
  refine ⟨h.1, ?_⟩
  replace h := h.2
  refine km_X1_work _ _ _ _ (fun S19 hG h => ?_) h
  replace hF := KF_t hF hG (by decide) (by decide) (by decide) (by decide) (by decide) (by decide) (by decide) (by decide)
  intro z20 ez20
  replace h := h z20 ez20
  exact hk9 _ hF h
theorem km_X1_pass_9 {K K' : kS → Prop} {k9 k9' : Nat × Int32 × Int32 × kS → Prop} {S0 : kS} (hk : ∀ S1, KF [0, 2, 3, 4, 5, 13, 14, 15, 30, 31, 35, 37, 38, 39] [12, 13, 25, 26, 27] [0, 1, 4, 10] [] [] S0 S1 → K S1 → K' S1) (hk9 : ∀ u : Nat × Int32 × Int32 × kS, KF [0, 2, 3, 4, 5, 13, 14, 15, 30, 31, 35, 37, 38, 39] [12, 13, 25, 26, 27] [0, 1, 4, 10] [] [] S0 u.2.2.2 → k9 u → k9' u) {x0 : Nat} {x2 : Int32} {x3 : Int32} {S : kS} (hF : KF [0, 2, 3, 4, 5, 13, 14, 15, 30, 31, 35, 37, 38, 39] [12, 13, 25, 26, 27] [0, 1, 4, 10] [] [] S0 S) (h : wp_X1_pass_9 K k9 x0 x2 x3 S) : wp_X1_pass_9 K' k9' x0 x2 x3 S := by
  unfold wp_X1_pass_9 at h ⊢
  refine ⟨fun c => ?_, fun c => ?_⟩
  · replace h := h.1 c
    refine ⟨h.1, ?_⟩
    replace h := h.2
    intro S4 eS4
    replace h := h S4 eS4
    replace hF := KF_i hF eS4 (by decide)
    exact hk _ hF h
  · replace h := h.2 c
    refine ⟨h.1, ?_⟩
    replace h := h.2
    intro z5 ez5
    replace h := h z5 ez5
    obtain ⟨q6, eq6, h9⟩ := h
    replace h := h9
    clear h9
    refine ⟨q6, eq6, ?_⟩
    refine ⟨h.1, ?_⟩
    replace h := h.2
    intro z7 ez7
    replace h := h z7 ez7
    refine ⟨fun c => ?_, fun q8 c => ?_⟩
    · replace h := h.1 c
      refine ⟨h.1, ?_⟩
      replace h := h.2
      intro S9 eS9
      replace h := h S9 eS9
      replace hF := KF_i hF eS9 (by decide)
      exact hk _ hF h
    · replace h := h.2 q8 c
      refine ⟨h.1, ?_⟩
      replace h := h.2
      intro z10 ez10
      replace h := h z10 ez10
      refine ⟨fun c => ?_, fun c => ?_⟩
      · replace h := h.1 c
        refine ⟨h.1, ?_⟩
        replace h := h.2
        intro z12 ez12
        replace h := h z12 ez12
        refine ⟨h.1, ?_⟩
        replace h := h.2
        intro S13 eS13
        replace h := h S13 eS13
        replace hF := KF_i hF eS13 (by decide)
        refine ⟨h.1, ?_⟩
        replace h := h.2
        intro z14 ez14
        replace h := h z14 ez14
        refine ⟨fun c => ?_, fun c => ?_⟩
        · replace h := h.1 c
          refine ⟨h.1, ?_⟩
          replace h := h.2
          refine km_X1_report _ _ _ _ _ _ _ (fun S16 hG h => ?_) h
          replace hF := KF_t hF hG (by decide) (by decide) (by decide) (by decide) (by decide) (by decide) (by decide) (by decide)
          exact km_X1_pass_80 hk hk9 hF h
        · replace h := h.2 c
          refine ⟨h.1, ?_⟩
          replace h := h.2
          refine km_X1_report _ _ _ _ _ _ _ (fun S17 hG h => ?_) h
          replace hF := KF_t hF hG (by decide) (by decide) (by decide) (by decide) (by decide) (by decide) (by decide) (by decide)
          exact km_X1_pass_80 hk hk9 hF h
      · replace h := h.2 c
        refine ⟨h.1, ?_⟩
        replace h := h.2
        intro S18 eS18
        replace h := h S18 eS18
        replace hF := KF_i hF eS18 (by decide)
        exact hk _ hF h
theorem kml_X1_pass_9 {K K' : kS → Prop} {S0 : kS} (hk : ∀ S1, KF [0, 2, 3, 4, 5, 13, 14, 15, 30, 31, 35, 37, 38, 39] [12, 13, 25, 26, 27] [0, 1, 4, 10] [] [] S0 S1 → K S1 → K' S1) : ∀ (n : Nat) (u : Nat × Int32 × Int32 × kS), KF [0, 2, 3, 4, 5, 13, 14, 15, 30, 31, 35, 37, 38, 39] [12, 13, 25, 26, 27] [0, 1, 4, 10] [] [] S0 u.2.2.2 → it (ls_X1_pass_9 K) n u → it (ls_X1_pass_9 K') n u := by
  intro n
  induction n with
  | zero => exact fun _ _ h => h
  | succ n ih => exact fun u hF h => km_X1_pass_9 hk ih hF h
theorem km_X1_pass (t0 : Nat) (a0 : Int32) : KmV [0, 2, 3, 4, 5, 13, 14, 15, 30, 31, 35, 37, 38, 39] [12, 13, 25, 26, 27] [0, 1, 4, 10] [] [] (wp_X1_pass t0 a0) := by
  intro S0 K K' hk h
  have hF : KF [0, 2, 3, 4, 5, 13, 14, 15, 30, 31, 35, 37, 38, 39] [12, 13, 25, 26, 27] [0, 1, 4, 10] [] [] S0 S0 := KF_rf
  unfold wp_X1_pass at h ⊢
  refine ⟨h.1, ?_⟩
  replace h := h.2
  intro z1 ez1
  replace h := h z1 ez1
  intro z2 ez2
  replace h := h z2 ez2
  obtain ⟨n9, h⟩ := h
  exact ⟨n9, kml_X1_pass_9 hk n9 _ hF h⟩
theorem km_X11_tick (t0 : Nat) (a0 : Int32) : KmI [0, 2, 3, 4, 5, 13, 14, 15, 30, 31, 35, 37, 38, 39] [12, 13, 25, 26, 27] [0, 1, 4, 10] [] [] (wp_X11_tick t0 a0) := by
  intro S0 K K' hk h
  have hF : KF [0, 2, 3, 4, 5, 13, 14, 15, 30, 31, 35, 37, 38, 39] [12, 13, 25, 26, 27] [0, 1, 4, 10] [] [] S0 S0 := KF_rf
  unfold wp_X11_tick at h ⊢
  refine ⟨fun c => ?_, fun c => ?_⟩
  · replace h := h.1 c
    exact hk _ _ hF h
  · replace h := h.2 c
    refine ⟨fun c => ?_, fun c => ?_⟩
    · replace h := h.1 c
      refine ⟨h.1, ?_⟩
      replace h := h.2
      intro z3 ez3
      replace h := h z3 ez3
      obtain ⟨q4, eq4, h9⟩ := h
      replace h := h9
      clear h9
      refine ⟨q4, eq4, ?_⟩
      refine ⟨h.1, ?_⟩
      replace h := h.2
      refine km_X1_pass _ _ _ _ _ (fun S5 hG h => ?_) h
      replace hF := KF_t hF hG (by decide) (by decide) (by decide) (by decide) (by decide) (by decide) (by decide) (by decide)
      refine ⟨h.1, ?_⟩
      replace h := h.2
      intro z6 ez6
      replace h := h z6 ez6
      obtain ⟨q7, eq7, h9⟩ := h
      replace h := h9
      clear h9
      refine ⟨q7, eq7, ?_⟩
      refine ⟨h.1, ?_⟩
      replace h := h.2
      intro z8 ez8
      replace h := h z8 ez8
      exact hk _ _ hF h
    · replace h := h.2 c
      exact hk _ _ hF h
theorem km_X1_breakOff (t0 : Nat) (a0 : Nat) (a1 : Int32) : KmV [0, 2, 3, 5, 13, 30, 31, 35, 37, 38, 39] [12, 13, 25, 26, 27] [0, 1, 4, 10] [] [] (wp_X1_breakOff t0 a0 a1) := by
  intro S0 K K' hk h
  have hF : KF [0, 2, 3, 5, 13, 30, 31, 35, 37, 38, 39] [12, 13, 25, 26, 27] [0, 1, 4, 10] [] [] S0 S0 := KF_rf
  unfold wp_X1_breakOff at h ⊢
  refine ⟨h.1, ?_⟩
  replace h := h.2
  intro S1 eS1
  replace h := h S1 eS1
  replace hF := KF_i hF eS1 (by decide)
  refine ⟨h.1, ?_⟩
  replace h := h.2
  intro z2 ez2
  replace h := h z2 ez2
  intro z3 ez3
  replace h := h z3 ez3
  refine ⟨h.1, ?_⟩
  replace h := h.2
  refine km_X1_plan _ _ _ _ _ (fun S4 hG h => ?_) h
  replace hF := KF_t hF hG (by decide) (by decide) (by decide) (by decide) (by decide) (by decide) (by decide) (by decide)
  refine ⟨h.1, ?_⟩
  replace h := h.2
  refine km_X1_letGo _ _ _ _ _ _ (fun S5 hG h => ?_) h
  replace hF := KF_t hF hG (by decide) (by decide) (by decide) (by decide) (by decide) (by decide) (by decide) (by decide)
  refine ⟨h.1, ?_⟩
  replace h := h.2
  intro S6 eS6
  replace h := h S6 eS6
  replace hF := KF_i hF eS6 (by decide)
  refine ⟨h.1, ?_⟩
  replace h := h.2
  intro S7 eS7
  replace h := h S7 eS7
  replace hF := KF_i hF eS7 (by decide)
  refine ⟨h.1, ?_⟩
  replace h := h.2
  refine km_X1_work _ _ _ _ (fun S8 hG h => ?_) h
  replace hF := KF_t hF hG (by decide) (by decide) (by decide) (by decide) (by decide) (by decide) (by decide) (by decide)
  exact hk _ hF h
theorem km_X1_end (t0 : Nat) (a0 : Nat) : KmV [0, 2, 3, 5, 13, 14, 15, 30, 31, 35, 37, 38, 39] [12, 13, 25, 26, 27] [0, 1, 4, 10] [] [] (wp_X1_end t0 a0) := by
  intro S0 K K' hk h
  have hF : KF [0, 2, 3, 5, 13, 14, 15, 30, 31, 35, 37, 38, 39] [12, 13, 25, 26, 27] [0, 1, 4, 10] [] [] S0 S0 := KF_rf
  unfold wp_X1_end at h ⊢
  refine ⟨h.1, ?_⟩
  replace h := h.2
  refine km_X1_letGo _ _ _ _ _ _ (fun S1 hG h => ?_) h
  replace hF := KF_t hF hG (by decide) (by decide) (by decide) (by decide) (by decide) (by decide) (by decide) (by decide)
  refine ⟨h.1, ?_⟩
  replace h := h.2
  refine km_X1_work _ _ _ _ (fun S2 hG h => ?_) h
  replace hF := KF_t hF hG (by decide) (by decide) (by decide) (by decide) (by decide) (by decide) (by decide) (by decide)
  refine ⟨h.1, ?_⟩
  replace h := h.2
  refine km_X1_close _ _ _ _ _ (fun S3 hG h => ?_) h
  replace hF := KF_t hF hG (by decide) (by decide) (by decide) (by decide) (by decide) (by decide) (by decide) (by decide)
  refine ⟨h.1, ?_⟩
  replace h := h.2
  refine km_X1_tellParent _ _ _ _ _ (fun S4 hG h => ?_) h
  replace hF := KF_t hF hG (by decide) (by decide) (by decide) (by decide) (by decide) (by decide) (by decide) (by decide)
  refine ⟨h.1, ?_⟩
  replace h := h.2
  refine km_X1_work _ _ _ _ (fun S5 hG h => ?_) h
  replace hF := KF_t hF hG (by decide) (by decide) (by decide) (by decide) (by decide) (by decide) (by decide) (by decide)
  exact hk _ hF h
theorem km_X1_takeBack_5 {K K' : kS → Prop} {k5 k5' : Nat × Nat × Option Nat × kS → Prop} {S0 : kS} (hk : ∀ S1, KF [] [11, 24, 61, 62, 63] [] [] [] S0 S1 → K S1 → K' S1) (hk5 : ∀ u : Nat × Nat × Option Nat × kS, KF [] [11, 24, 61, 62, 63] [] [] [] S0 u.2.2.2 → k5 u → k5' u) {x0 : Nat} {x1 : Nat} {x2 : Option Nat} {S : kS} (hF : KF [] [11, 24, 61, 62, 63] [] [] [] S0 S) (h : wp_X1_takeBack_5 K k5 x0 x1 x2 S) : wp_X1_takeBack_5 K' k5' x0 x1 x2 S := by
  unfold wp_X1_takeBack_5 at h ⊢
  refine ⟨fun c => ?_, fun q2 c => ?_⟩
  · replace h := h.1 c
    refine ⟨h.1, ?_⟩
    replace h := h.2
    intro S3 eS3
    replace h := h S3 eS3
    replace hF := KF_r hF eS3 (by decide)
    refine ⟨h.1, ?_⟩
    replace h := h.2
    intro S4 eS4
    replace h := h S4 eS4
    replace hF := KF_r hF eS4 (by decide)
    refine ⟨h.1, ?_⟩
    replace h := h.2
    intro S5 eS5
    replace h := h S5 eS5
    replace hF := KF_r hF eS5 (by decide)
    exact hk _ hF h
  · replace h := h.2 q2 c
    refine ⟨h.1, ?_⟩
    replace h := h.2
    intro z6 ez6
    replace h := h z6 ez6
    refine ⟨h.1, ?_⟩
    replace h := h.2
    intro z7 ez7
    replace h := h z7 ez7
    refine ⟨h.1, ?_⟩
    replace h := h.2
    intro S8 eS8
    replace h := h S8 eS8
    replace hF := KF_r hF eS8 (by decide)
    refine ⟨h.1, ?_⟩
    replace h := h.2
    intro S9 eS9
    replace h := h S9 eS9
    replace hF := KF_r hF eS9 (by decide)
    exact hk5 _ hF h
theorem kml_X1_takeBack_5 {K K' : kS → Prop} {S0 : kS} (hk : ∀ S1, KF [] [11, 24, 61, 62, 63] [] [] [] S0 S1 → K S1 → K' S1) : ∀ (n : Nat) (u : Nat × Nat × Option Nat × kS), KF [] [11, 24, 61, 62, 63] [] [] [] S0 u.2.2.2 → it (ls_X1_takeBack_5 K) n u → it (ls_X1_takeBack_5 K') n u := by
  intro n
  induction n with
  | zero => exact fun _ _ h => h
  | succ n ih => exact fun u hF h => km_X1_takeBack_5 hk ih hF h
theorem km_X1_takeBack (t0 : Nat) (a0 : Nat) : KmV [] [11, 24, 61, 62, 63] [] [] [] (wp_X1_takeBack t0 a0) := by
  intro S0 K K' hk h
  have hF : KF [] [11, 24, 61, 62, 63] [] [] [] S0 S0 := KF_rf
  unfold wp_X1_takeBack at h ⊢
  refine ⟨h.1, ?_⟩
  replace h := h.2
  intro z1 ez1
  replace h := h z1 ez1
  obtain ⟨n9, h⟩ := h
  exact ⟨n9, kml_X1_takeBack_5 hk n9 _ hF h⟩
theorem km_X2_clear (t0 : Nat) : KmV [] [12, 13] [] [] [] (wp_X2_clear t0) := by
  intro S0 K K' hk h
  have hF : KF [] [12, 13] [] [] [] S0 S0 := KF_rf
  unfold wp_X2_clear at h ⊢
  refine ⟨h.1, ?_⟩
  replace h := h.2
  intro S1 eS1
  replace h := h S1 eS1
  replace hF := KF_r hF eS1 (by decide)
  refine ⟨h.1, ?_⟩
  replace h := h.2
  intro S2 eS2
  replace h := h S2 eS2
  replace hF := KF_r hF eS2 (by decide)
  exact hk _ hF h
