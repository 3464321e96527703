
theorem kmT_X6_join_166 {K K' : kS → Prop} {S0 : kS} (hk : ∀ S1, KF [21, 22, 23, 31, 32, 36] [] [42, 59, 60] [] [] S0 S1 → K S1 → K' S1) {y0 : Nat} {y1 : Int32} {S : kS} (hF : KF [21, 22, 23, 31, 32, 36] [] [42, 59, 60] [] [] S0 S) (h : wT_X6_join_166 K y0 y1 S) : wT_X6_join_166 K' y0 y1 S := by
  unfold wT_X6_join_166 at h ⊢
  refine kmT_X6_push _ _ _ _ _ (fun S35 hG h => ?_) h
  replace hF := KF_t hF hG (by decide) (by decide) (by decide) (by decide) (by decide) (by decide) (by decide) (by decide)
  exact hk _ hF h
theorem kmT_X6_join_124 {K K' : kS → Prop} {S0 : kS} (hk : ∀ S1, KF [21, 22, 23, 31, 32, 36] [] [42, 59, 60] [] [] S0 S1 → K S1 → K' S1) {y0 : Nat} {y1 : Int32} {S : kS} (hF : KF [21, 22, 23, 31, 32, 36] [] [42, 59, 60] [] [] S0 S) (h : wT_X6_join_124 K y0 y1 S) : wT_X6_join_124 K' y0 y1 S := by
  unfold wT_X6_join_124 at h ⊢
  refine kmT_X6_push _ _ _ _ _ (fun S33 hG h => ?_) h
  replace hF := KF_t hF hG (by decide) (by decide) (by decide) (by decide) (by decide) (by decide) (by decide) (by decide)
  exact hk _ hF h
theorem kmT_X6_join_105 {K K' : kS → Prop} {S0 : kS} (hk : ∀ S1, KF [21, 22, 23, 31, 32, 36] [] [42, 59, 60] [] [] S0 S1 → K S1 → K' S1) {y0 : Nat} {y1 : Int32} {S : kS} (hF : KF [21, 22, 23, 31, 32, 36] [] [42, 59, 60] [] [] S0 S) (h : wT_X6_join_105 K y0 y1 S) : wT_X6_join_105 K' y0 y1 S := by
  unfold wT_X6_join_105 at h ⊢
  refine kmT_X6_push _ _ _ _ _ (fun S34 hG h => ?_) h
  replace hF := KF_t hF hG (by decide) (by decide) (by decide) (by decide) (by decide) (by decide) (by decide) (by decide)
  exact hk _ hF h
theorem kmT_X6_join (t0 : Nat) (a0 : Nat) (a1 : Int32) (a2 : Int32) : KmV [21, 22, 23, 31, 32, 36] [] [42, 59, 60] [] [] (wT_X6_join t0 a0 a1 a2) := by
  intro S0 K K' hk h
  have hF : KF [21, 22, 23, 31, 32, 36] [] [42, 59, 60] [] [] S0 S0 := KF_rf
  unfold wT_X6_join at h ⊢
  refine kmT_X6_pop _ _ _ _ (fun S1 r1 hG h => ?_) h
  replace hF := KF_t hF hG (by decide) (by decide) (by decide) (by decide) (by decide) (by decide) (by decide) (by decide)
  refine kmT_X6_pop _ _ _ _ (fun S2 r2 hG h => ?_) h
  replace hF := KF_t hF hG (by decide) (by decide) (by decide) (by decide) (by decide) (by decide) (by decide) (by decide)
  refine ⟨fun c => ?_, fun c => ?_⟩
  · replace h := h.1 c
    intro z4 ez4
    replace h := h z4 ez4
    refine kmT_X6_push _ _ _ _ _ (fun S5 hG h => ?_) h
    replace hF := KF_t hF hG (by decide) (by decide) (by decide) (by decide) (by decide) (by decide) (by decide) (by decide)
    exact hk _ hF h
  · replace h := h.2 c
    refine ⟨fun c => ?_, fun c => ?_⟩
    · replace h := h.1 c
      intro z7 ez7
      replace h := h z7 ez7
      refine kmT_X6_push _ _ _ _ _ (fun S8 hG h => ?_) h
      replace hF := KF_t hF hG (by decide) (by decide) (by decide) (by decide) (by decide) (by decide) (by decide) (by decide)
      exact hk _ hF h
    · replace h := h.2 c
      refine ⟨fun c => ?_, fun c => ?_⟩
      · replace h := h.1 c
        intro z10 ez10
        replace h := h z10 ez10
        refine kmT_X6_push _ _ _ _ _ (fun S11 hG h => ?_) h
        replace hF := KF_t hF hG (by decide) (by decide) (by decide) (by decide) (by decide) (by decide) (by decide) (by decide)
        exact hk _ hF h
      · replace h := h.2 c
        refine ⟨fun c => ?_, fun c => ?_⟩
        · replace h := h.1 c
          refine ⟨fun c => ?_, fun c => ?_⟩
          · replace h := h.1 c
            refine ⟨fun c => ?_, fun c => ?_⟩
            · replace h := h.1 c
              refine ⟨h.1, ?_⟩
              replace h := h.2
              intro z15 ez15
              replace h := h z15 ez15
              exact kmT_X6_join_166 hk hF h
            · replace h := h.2 c
              refine ⟨h.1, ?_⟩
              replace h := h.2
              intro z16 ez16
              replace h := h z16 ez16
              exact kmT_X6_join_166 hk hF h
          · replace h := h.2 c
            refine kmT_X6_fail _ _ _ _ _ _ _ (fun S17 hG h => ?_) h
            replace hF := KF_t hF hG (by decide) (by decide) (by decide) (by decide) (by decide) (by decide) (by decide) (by decide)
            exact hk _ hF h
        · replace h := h.2 c
          refine ⟨fun c => ?_, fun c => ?_⟩
          · replace h := h.1 c
            refine ⟨fun c => ?_, fun c => ?_⟩
            · replace h := h.1 c
              refine ⟨fun c => ?_, fun c => ?_⟩
              · replace h := h.1 c
                refine ⟨h.1, ?_⟩
                replace h := h.2
                intro z21 ez21
                replace h := h z21 ez21
                exact kmT_X6_join_166 hk hF h
              · replace h := h.2 c
                refine ⟨h.1, ?_⟩
                replace h := h.2
                intro z22 ez22
                replace h := h z22 ez22
                exact kmT_X6_join_166 hk hF h
            · replace h := h.2 c
              refine kmT_X6_fail _ _ _ _ _ _ _ (fun S23 hG h => ?_) h
              replace hF := KF_t hF hG (by decide) (by decide) (by decide) (by decide) (by decide) (by decide) (by decide) (by decide)
              exact hk _ hF h
          · replace h := h.2 c
            refine ⟨fun c => ?_, fun c => ?_⟩
            · replace h := h.1 c
              refine ⟨fun c => ?_, fun c => ?_⟩
              · replace h := h.1 c
                exact kmT_X6_join_105 hk hF h
              · replace h := h.2 c
                exact kmT_X6_join_105 hk hF h
            · replace h := h.2 c
              refine ⟨fun c => ?_, fun c => ?_⟩
              · replace h := h.1 c
                refine ⟨fun c => ?_, fun c => ?_⟩
                · replace h := h.1 c
                  exact kmT_X6_join_124 hk hF h
                · replace h := h.2 c
                  exact kmT_X6_join_124 hk hF h
              · replace h := h.2 c
                refine ⟨fun c => ?_, fun c => ?_⟩
                · replace h := h.1 c
                  refine ⟨fun c => ?_, fun c => ?_⟩
                  · replace h := h.1 c
                    refine ⟨h.1, ?_⟩
                    replace h := h.2
                    intro z30 ez30
                    replace h := h z30 ez30
                    exact kmT_X6_join_166 hk hF h
                  · replace h := h.2 c
                    refine ⟨h.1, ?_⟩
                    replace h := h.2
                    intro z31 ez31
                    replace h := h z31 ez31
                    exact kmT_X6_join_166 hk hF h
                · replace h := h.2 c
                  refine kmT_X6_fail _ _ _ _ _ _ _ (fun S32 hG h => ?_) h
                  replace hF := KF_t hF hG (by decide) (by decide) (by decide) (by decide) (by decide) (by decide) (by decide) (by decide)
                  exact hk _ hF h
theorem kmT_X9_look (t0 : Nat) (a0 : Int32) : KmI [] [] [] [] [] (wT_X9_look t0 a0) := by
  intro S0 K K' hk h
  have hF : KF [] [] [] [] [] S0 S0 := KF_rf
  unfold wT_X9_look at h ⊢
  refine ⟨fun c => ?_, fun c => ?_⟩
  · replace h := h.1 c
    exact hk _ _ hF h
  · replace h := h.2 c
    refine ⟨fun c => ?_, fun c => ?_⟩
    · replace h := h.1 c
      exact hk _ _ hF h
    · replace h := h.2 c
      intro z3 ez3
      replace h := h z3 ez3
      intro q4 eq4
      replace h := h q4 eq4
      refine ⟨h.1, ?_⟩
      replace h := h.2
      intro z5 ez5
      replace h := h z5 ez5
      exact hk _ _ hF h
theorem kmT_X6_reckon (t0 : Nat) (a0 : Nat) (a1 : Int32) (a2 : Int32) : KmV [21, 22, 23, 31, 32, 36] [] [42, 59, 60] [] [] (wT_X6_reckon t0 a0 a1 a2) := by
  intro S0 K K' hk h
  have hF : KF [21, 22, 23, 31, 32, 36] [] [42, 59, 60] [] [] S0 S0 := KF_rf
  unfold wT_X6_reckon at h ⊢
  intro z1 ez1
  replace h := h z1 ez1
  intro q2 eq2
  replace h := h q2 eq2
  intro z3 ez3
  replace h := h z3 ez3
  obtain ⟨q4, eq4, h9⟩ := h
  replace h := h9
  clear h9
  refine ⟨q4, eq4, ?_⟩
  intro z5 ez5
  replace h := h z5 ez5
  intro q6 eq6
  replace h := h q6 eq6
  refine ⟨h.1, ?_⟩
  replace h := h.2
  intro z7 ez7
  replace h := h z7 ez7
  refine ⟨fun c => ?_, fun c => ?_⟩
  · replace h := h.1 c
    intro S9 eS9
    replace h := h S9 eS9
    replace hF := KF_i hF eS9 (by decide)
    exact hk _ hF h
  · replace h := h.2 c
    refine ⟨fun c => ?_, fun c => ?_⟩
    · replace h := h.1 c
      exact hk _ hF h
    · replace h := h.2 c
      refine ⟨fun c => ?_, fun c => ?_⟩
      · replace h := h.1 c
        refine kmT_X6_push _ _ _ _ _ (fun S12 hG h => ?_) h
        replace hF := KF_t hF hG (by decide) (by decide) (by decide) (by decide) (by decide) (by decide) (by decide) (by decide)
        exact hk _ hF h
      · replace h := h.2 c
        refine ⟨fun c => ?_, fun c => ?_⟩
        · replace h := h.1 c
          refine kmT_X9_look _ _ _ _ _ (fun S14 r14 hG h => ?_) h
          replace hF := KF_t hF hG (by decide) (by decide) (by decide) (by decide) (by decide) (by decide) (by decide) (by decide)
          refine kmT_X6_push _ _ _ _ _ (fun S15 hG h => ?_) h
          replace hF := KF_t hF hG (by decide) (by decide) (by decide) (by decide) (by decide) (by decide) (by decide) (by decide)
          exact hk _ hF h
        · replace h := h.2 c
          refine ⟨fun c => ?_, fun c => ?_⟩
          · replace h := h.1 c
            intro z17 ez17
            replace h := h z17 ez17
            intro q18 eq18
            replace h := h q18 eq18
            intro z19 ez19
            replace h := h z19 ez19
            refine kmT_X6_push _ _ _ _ _ (fun S20 hG h => ?_) h
            replace hF := KF_t hF hG (by decide) (by decide) (by decide) (by decide) (by decide) (by decide) (by decide) (by decide)
            exact hk _ hF h
          · replace h := h.2 c
            refine ⟨fun c => ?_, fun c => ?_⟩
            · replace h := h.1 c
              refine kmT_X6_pop _ _ _ _ (fun S22 r22 hG h => ?_) h
              replace hF := KF_t hF hG (by decide) (by decide) (by decide) (by decide) (by decide) (by decide) (by decide) (by decide)
              intro z23 ez23
              replace h := h z23 ez23
              refine kmT_X6_push _ _ _ _ _ (fun S24 hG h => ?_) h
              replace hF := KF_t hF hG (by decide) (by decide) (by decide) (by decide) (by decide) (by decide) (by decide) (by decide)
              exact hk _ hF h
            · replace h := h.2 c
              refine kmT_X6_join _ _ _ _ _ _ _ (fun S25 hG h => ?_) h
              replace hF := KF_t hF hG (by decide) (by decide) (by decide) (by decide) (by decide) (by decide) (by decide) (by decide)
              exact hk _ hF h
theorem kmT_X6_step (t0 : Nat) : KmI [19, 20] [] [] [] [] (wT_X6_step t0) := by
  intro S0 K K' hk h
  have hF : KF [19, 20] [] [] [] [] S0 S0 := KF_rf
  unfold wT_X6_step at h ⊢
  intro z1 ez1
  replace h := h z1 ez1
  refine ⟨fun c => ?_, fun c => ?_⟩
  · replace h := h.1 c
    exact hk _ _ hF h
  · replace h := h.2 c
    intro z3 ez3
    replace h := h z3 ez3
    refine ⟨fun c => ?_, fun c => ?_⟩
    · replace h := h.1 c
      intro z5 ez5
      replace h := h z5 ez5
      intro z6 ez6
      replace h := h z6 ez6
      intro S7 eS7
      replace h := h S7 eS7
      replace hF := KF_i hF eS7 (by decide)
      intro z8 ez8
      replace h := h z8 ez8
      intro z9 ez9
      replace h := h z9 ez9
      intro S10 eS10
      replace h := h S10 eS10
      replace hF := KF_i hF eS10 (by decide)
      exact hk _ _ hF h
    · replace h := h.2 c
      exact hk _ _ hF h
theorem kmT_X6_wake (t0 : Nat) (a0 : Nat) : KmV [21, 22, 23, 30, 31, 32, 34, 36, 38] [11, 24, 61, 62, 63] [42, 59, 60] [] [] (wT_X6_wake t0 a0) := by
  intro S0 K K' hk h
  have hF : KF [21, 22, 23, 30, 31, 32, 34, 36, 38] [11, 24, 61, 62, 63] [42, 59, 60] [] [] S0 S0 := KF_rf
  unfold wT_X6_wake at h ⊢
  intro z1 ez1
  replace h := h z1 ez1
  intro z2 ez2
  replace h := h z2 ez2
  intro q3 eq3
  replace h := h q3 eq3
  refine kmT_X1_takeBack _ _ _ _ _ (fun S4 hG h => ?_) h
  replace hF := KF_t hF hG (by decide) (by decide) (by decide) (by decide) (by decide) (by decide) (by decide) (by decide)
  intro S5 eS5
  replace h := h S5 eS5
  replace hF := KF_i hF eS5 (by decide)
  intro S6 eS6
  replace h := h S6 eS6
  replace hF := KF_i hF eS6 (by decide)
  intro z7 ez7
  replace h := h z7 ez7
  intro z8 ez8
  replace h := h z8 ez8
  intro S9 eS9
  replace h := h S9 eS9
  replace hF := KF_i hF eS9 (by decide)
  intro z10 ez10
  replace h := h z10 ez10
  refine ⟨fun c => ?_, fun c => ?_⟩
  · replace h := h.1 c
    intro z12 ez12
    replace h := h z12 ez12
    intro q13 eq13
    replace h := h q13 eq13
    intro z14 ez14
    replace h := h z14 ez14
    intro z15 ez15
    replace h := h z15 ez15
    obtain ⟨q16, eq16, h9⟩ := h
    replace h := h9
    clear h9
    refine ⟨q16, eq16, ?_⟩
    refine kmT_X5_scopeAt _ _ _ _ _ (fun S17 r17 hG h => ?_) h
    replace hF := KF_t hF hG (by decide) (by decide) (by decide) (by decide) (by decide) (by decide) (by decide) (by decide)
    refine ⟨fun c => ?_, fun c => ?_⟩
    · replace h := h.1 c
      refine ⟨fun c => ?_, fun c => ?_⟩
      · replace h := h.1 c
        refine kmT_X6_leave _ _ _ _ _ _ _ _ (fun S20 hG h => ?_) h
        replace hF := KF_t hF hG (by decide) (by decide) (by decide) (by decide) (by decide) (by decide) (by decide) (by decide)
        exact hk _ hF h
      · replace h := h.2 c
        intro z21 ez21
        replace h := h z21 ez21
        refine kmT_X6_leave _ _ _ _ _ _ _ _ (fun S22 hG h => ?_) h
        replace hF := KF_t hF hG (by decide) (by decide) (by decide) (by decide) (by decide) (by decide) (by decide) (by decide)
        exact hk _ hF h
    · replace h := h.2 c
      intro z23 ez23
      replace h := h z23 ez23
      refine kmT_X6_push _ _ _ _ _ (fun S24 hG h => ?_) h
      replace hF := KF_t hF hG (by decide) (by decide) (by decide) (by decide) (by decide) (by decide) (by decide) (by decide)
      intro z25 ez25
      replace h := h z25 ez25
      intro z26 ez26
      replace h := h z26 ez26
      intro S27 eS27
      replace h := h S27 eS27
      replace hF := KF_i hF eS27 (by decide)
      exact hk _ hF h
  · replace h := h.2 c
    exact hk _ hF h
theorem kmT_X9_tell (t0 : Nat) (a0 : Int32) : KmI [] [] [] [] [] (wT_X9_tell t0 a0) := by
  intro S0 K K' hk h
  have hF : KF [] [] [] [] [] S0 S0 := KF_rf
  unfold wT_X9_tell at h ⊢
  refine ⟨fun c => ?_, fun c => ?_⟩
  · replace h := h.1 c
    intro z2 ez2
    replace h := h z2 ez2
    exact hk _ _ hF h
  · replace h := h.2 c
    refine ⟨fun c => ?_, fun c => ?_⟩
    · replace h := h.1 c
      intro z4 ez4
      replace h := h z4 ez4
      exact hk _ _ hF h
    · replace h := h.2 c
      refine ⟨fun c => ?_, fun c => ?_⟩
      · replace h := h.1 c
        intro z6 ez6
        replace h := h z6 ez6
        exact hk _ _ hF h
      · replace h := h.2 c
        refine ⟨fun c => ?_, fun c => ?_⟩
        · replace h := h.1 c
          intro z8 ez8
          replace h := h z8 ez8
          refine ⟨fun c => ?_, fun q9 c => ?_⟩
          · replace h := h.1 c
            exact hk _ _ hF h
          · replace h := h.2 q9 c
            intro z10 ez10
            replace h := h z10 ez10
            obtain ⟨q11, eq11, h9⟩ := h
            replace h := h9
            clear h9
            refine ⟨q11, eq11, ?_⟩
            intro z12 ez12
            replace h := h z12 ez12
            exact hk _ _ hF h
        · replace h := h.2 c
          refine ⟨fun c => ?_, fun c => ?_⟩
          · replace h := h.1 c
            intro z14 ez14
            replace h := h z14 ez14
            exact hk _ _ hF h
          · replace h := h.2 c
            refine ⟨fun c => ?_, fun c => ?_⟩
            · replace h := h.1 c
              intro z16 ez16
              replace h := h z16 ez16
              exact hk _ _ hF h
            · replace h := h.2 c
              refine ⟨fun c => ?_, fun c => ?_⟩
              · replace h := h.1 c
                intro z18 ez18
                replace h := h z18 ez18
                exact hk _ _ hF h
              · replace h := h.2 c
                intro z19 ez19
                replace h := h z19 ez19
                refine ⟨fun c => ?_, fun c => ?_⟩
                · replace h := h.1 c
                  exact hk _ _ hF h
                · replace h := h.2 c
                  exact hk _ _ hF h
