
theorem kmT_X11_count (t0 : Nat) (a0 : Int32) : KmI [] [] [] [] [] (wT_X11_count t0 a0) := by
  intro S0 K K' hk h
  have hF : KF [] [] [] [] [] S0 S0 := KF_rf
  unfold wT_X11_count at h ⊢
  refine ⟨fun c => ?_, fun c => ?_⟩
  · replace h := h.1 c
    intro z2 ez2
    replace h := h z2 ez2
    obtain ⟨q3, eq3, h9⟩ := h
    replace h := h9
    clear h9
    refine ⟨q3, eq3, ?_⟩
    intro z4 ez4
    replace h := h z4 ez4
    exact hk _ _ hF h
  · replace h := h.2 c
    refine ⟨fun c => ?_, fun c => ?_⟩
    · replace h := h.1 c
      intro z6 ez6
      replace h := h z6 ez6
      intro q7 eq7
      replace h := h q7 eq7
      intro z8 ez8
      replace h := h z8 ez8
      exact hk _ _ hF h
    · replace h := h.2 c
      refine ⟨fun c => ?_, fun c => ?_⟩
      · replace h := h.1 c
        intro z10 ez10
        replace h := h z10 ez10
        intro q11 eq11
        replace h := h q11 eq11
        intro z12 ez12
        replace h := h z12 ez12
        exact hk _ _ hF h
      · replace h := h.2 c
        refine ⟨fun c => ?_, fun c => ?_⟩
        · replace h := h.1 c
          intro z14 ez14
          replace h := h z14 ez14
          intro q15 eq15
          replace h := h q15 eq15
          intro z16 ez16
          replace h := h z16 ez16
          exact hk _ _ hF h
        · replace h := h.2 c
          refine ⟨fun c => ?_, fun c => ?_⟩
          · replace h := h.1 c
            intro z18 ez18
            replace h := h z18 ez18
            intro q19 eq19
            replace h := h q19 eq19
            intro z20 ez20
            replace h := h z20 ez20
            intro z21 ez21
            replace h := h z21 ez21
            intro q22 eq22
            replace h := h q22 eq22
            intro z23 ez23
            replace h := h z23 ez23
            intro z24 ez24
            replace h := h z24 ez24
            intro z25 ez25
            replace h := h z25 ez25
            intro q26 eq26
            replace h := h q26 eq26
            intro z27 ez27
            replace h := h z27 ez27
            intro z28 ez28
            replace h := h z28 ez28
            exact hk _ _ hF h
          · replace h := h.2 c
            refine ⟨fun c => ?_, fun c => ?_⟩
            · replace h := h.1 c
              intro z30 ez30
              replace h := h z30 ez30
              intro q31 eq31
              replace h := h q31 eq31
              intro z32 ez32
              replace h := h z32 ez32
              intro q33 eq33
              replace h := h q33 eq33
              intro z34 ez34
              replace h := h z34 ez34
              exact hk _ _ hF h
            · replace h := h.2 c
              refine ⟨fun c => ?_, fun c => ?_⟩
              · replace h := h.1 c
                intro z36 ez36
                replace h := h z36 ez36
                intro q37 eq37
                replace h := h q37 eq37
                intro z38 ez38
                replace h := h z38 ez38
                intro q39 eq39
                replace h := h q39 eq39
                intro z40 ez40
                replace h := h z40 ez40
                exact hk _ _ hF h
              · replace h := h.2 c
                refine ⟨fun c => ?_, fun c => ?_⟩
                · replace h := h.1 c
                  intro z42 ez42
                  replace h := h z42 ez42
                  intro q43 eq43
                  replace h := h q43 eq43
                  intro z44 ez44
                  replace h := h z44 ez44
                  exact hk _ _ hF h
                · replace h := h.2 c
                  refine ⟨fun c => ?_, fun c => ?_⟩
                  · replace h := h.1 c
                    intro z46 ez46
                    replace h := h z46 ez46
                    intro q47 eq47
                    replace h := h q47 eq47
                    intro z48 ez48
                    replace h := h z48 ez48
                    exact hk _ _ hF h
                  · replace h := h.2 c
                    refine ⟨fun c => ?_, fun c => ?_⟩
                    · replace h := h.1 c
                      intro z50 ez50
                      replace h := h z50 ez50
                      intro q51 eq51
                      replace h := h q51 eq51
                      intro z52 ez52
                      replace h := h z52 ez52
                      exact hk _ _ hF h
                    · replace h := h.2 c
                      refine ⟨fun c => ?_, fun c => ?_⟩
                      · replace h := h.1 c
                        intro z54 ez54
                        replace h := h z54 ez54
                        intro q55 eq55
                        replace h := h q55 eq55
                        refine kmT_X1_lettersLying _ _ _ _ (fun S56 r56 hG h => ?_) h
                        replace hF := KF_t hF hG (by decide) (by decide) (by decide) (by decide) (by decide) (by decide) (by decide) (by decide)
                        exact hk _ _ hF h
                      · replace h := h.2 c
                        refine ⟨fun c => ?_, fun c => ?_⟩
                        · replace h := h.1 c
                          intro z58 ez58
                          replace h := h z58 ez58
                          intro q59 eq59
                          replace h := h q59 eq59
                          intro z60 ez60
                          replace h := h z60 ez60
                          exact hk _ _ hF h
                        · replace h := h.2 c
                          exact hk _ _ hF h
theorem kmT_X11_feed (t0 : Nat) (a0 : Int64) (a1 : Int64) (a2 : Int64) : KmI [41] [] [67] [] [] (wT_X11_feed t0 a0 a1 a2) := by
  intro S0 K K' hk h
  have hF : KF [41] [] [67] [] [] S0 S0 := KF_rf
  unfold wT_X11_feed at h ⊢
  intro z1 ez1
  replace h := h z1 ez1
  intro q2 eq2
  replace h := h q2 eq2
  refine kmT_X10_add _ _ _ _ _ (fun S3 hG h => ?_) h
  replace hF := KF_t hF hG (by decide) (by decide) (by decide) (by decide) (by decide) (by decide) (by decide) (by decide)
  intro z4 ez4
  replace h := h z4 ez4
  intro q5 eq5
  replace h := h q5 eq5
  refine kmT_X10_add _ _ _ _ _ (fun S6 hG h => ?_) h
  replace hF := KF_t hF hG (by decide) (by decide) (by decide) (by decide) (by decide) (by decide) (by decide) (by decide)
  intro z7 ez7
  replace h := h z7 ez7
  intro q8 eq8
  replace h := h q8 eq8
  refine kmT_X10_add _ _ _ _ _ (fun S9 hG h => ?_) h
  replace hF := KF_t hF hG (by decide) (by decide) (by decide) (by decide) (by decide) (by decide) (by decide) (by decide)
  intro z10 ez10
  replace h := h z10 ez10
  intro q11 eq11
  replace h := h q11 eq11
  intro z12 ez12
  replace h := h z12 ez12
  exact hk _ _ hF h
theorem kmT_X1_deliver (t0 : Nat) (a0 : Int32) (a1 : Int32) : KmI [0, 2, 3, 5, 13, 14, 15, 30, 31, 35, 37, 38, 39] [12, 13, 25, 26, 27] [0, 1, 4, 5, 6, 10] [] [] (wT_X1_deliver t0 a0 a1) := by
  intro S0 K K' hk h
  have hF : KF [0, 2, 3, 5, 13, 14, 15, 30, 31, 35, 37, 38, 39] [12, 13, 25, 26, 27] [0, 1, 4, 5, 6, 10] [] [] S0 S0 := KF_rf
  unfold wT_X1_deliver at h ⊢
  refine ⟨fun c => ?_, fun c => ?_⟩
  · replace h := h.1 c
    exact hk _ _ hF h
  · replace h := h.2 c
    refine ⟨fun c => ?_, fun c => ?_⟩
    · replace h := h.1 c
      exact hk _ _ hF h
    · replace h := h.2 c
      intro z3 ez3
      replace h := h z3 ez3
      intro q4 eq4
      replace h := h q4 eq4
      refine ⟨h.1, ?_⟩
      replace h := h.2
      intro z5 ez5
      replace h := h z5 ez5
      refine ⟨fun c => ?_, fun c => ?_⟩
      · replace h := h.1 c
        intro z7 ez7
        replace h := h z7 ez7
        intro q8 eq8
        replace h := h q8 eq8
        refine ⟨h.1, ?_⟩
        replace h := h.2
        intro z9 ez9
        replace h := h z9 ez9
        intro q10 eq10
        replace h := h q10 eq10
        intro z11 ez11
        replace h := h z11 ez11
        refine ⟨fun c => ?_, fun q12 c => ?_⟩
        · replace h := h.1 c
          intro z13 ez13
          replace h := h z13 ez13
          have pz13 : ∃ o, S0.2.1 5 o = z13 := ⟨_, by rw [ez13, hF.2.1 5 (by decide)]⟩
          intro z14 ez14
          replace h := h z14 ez14
          intro z15 ez15
          replace h := h z15 ez15
          intro q16 eq16
          replace h := h q16 eq16
          refine ⟨h.1, ?_⟩
          replace h := h.2
          intro z17 ez17
          replace h := h z17 ez17
          intro z18 ez18
          replace h := h z18 ez18
          intro q19 eq19
          replace h := h q19 eq19
          refine ⟨h.1, ?_⟩
          replace h := h.2
          intro S20 eS20
          replace h := h S20 eS20
          replace hF := KF_a (fid := 5) hF eS20 (by decide) (by rw [← eq19]; exact pz13)
          intro z21 ez21
          replace h := h z21 ez21
          have pz21 : ∃ o, S0.2.1 6 o = z21 := ⟨_, by rw [ez21, hF.2.1 6 (by decide)]⟩
          intro q22 eq22
          replace h := h q22 eq22
          refine ⟨h.1, ?_⟩
          replace h := h.2
          intro z23 ez23
          replace h := h z23 ez23
          intro z24 ez24
          replace h := h z24 ez24
          refine ⟨h.1, ?_⟩
          replace h := h.2
          intro S25 eS25
          replace h := h S25 eS25
          replace hF := KF_a (fid := 6) hF eS25 (by decide) (by rw [← eq22]; exact pz21)
          exact hk _ _ hF h
        · replace h := h.2 q12 c
          refine kmT_X1_report _ _ _ _ _ _ _ (fun S26 hG h => ?_) h
          replace hF := KF_t hF hG (by decide) (by decide) (by decide) (by decide) (by decide) (by decide) (by decide) (by decide)
          refine kmT_X1_work _ _ _ _ (fun S27 hG h => ?_) h
          replace hF := KF_t hF hG (by decide) (by decide) (by decide) (by decide) (by decide) (by decide) (by decide) (by decide)
          intro z28 ez28
          replace h := h z28 ez28
          obtain ⟨q29, eq29, h9⟩ := h
          replace h := h9
          clear h9
          refine ⟨q29, eq29, ?_⟩
          intro z30 ez30
          replace h := h z30 ez30
          exact hk _ _ hF h
      · replace h := h.2 c
        exact hk _ _ hF h
theorem kmT_X11_letter (t0 : Nat) (a0 : Int32) (a1 : Int32) : KmI [0, 2, 3, 5, 13, 14, 15, 30, 31, 35, 37, 38, 39] [12, 13, 25, 26, 27] [0, 1, 4, 5, 6, 10] [] [] (wT_X11_letter t0 a0 a1) := by
  intro S0 K K' hk h
  have hF : KF [0, 2, 3, 5, 13, 14, 15, 30, 31, 35, 37, 38, 39] [12, 13, 25, 26, 27] [0, 1, 4, 5, 6, 10] [] [] S0 S0 := KF_rf
  unfold wT_X11_letter at h ⊢
  intro z1 ez1
  replace h := h z1 ez1
  intro q2 eq2
  replace h := h q2 eq2
  refine kmT_X1_deliver _ _ _ _ _ _ (fun S3 r3 hG h => ?_) h
  replace hF := KF_t hF hG (by decide) (by decide) (by decide) (by decide) (by decide) (by decide) (by decide) (by decide)
  exact hk _ _ hF h
theorem kmT_X5_has (t0 : Nat) (a0 : Int32) : KmI [] [] [] [] [] (wT_X5_has t0 a0) := by
  intro S0 K K' hk h
  have hF : KF [] [] [] [] [] S0 S0 := KF_rf
  unfold wT_X5_has at h ⊢
  refine ⟨fun c => ?_, fun c => ?_⟩
  · replace h := h.1 c
    exact hk _ _ hF h
  · replace h := h.2 c
    intro z2 ez2
    replace h := h z2 ez2
    refine ⟨fun c => ?_, fun c => ?_⟩
    · replace h := h.1 c
      exact hk _ _ hF h
    · replace h := h.2 c
      exact hk _ _ hF h
theorem kmT_X5_hasState (t0 : Nat) (a0 : Int32) (a1 : Int32) : KmI [] [] [] [] [] (wT_X5_hasState t0 a0 a1) := by
  intro S0 K K' hk h
  have hF : KF [] [] [] [] [] S0 S0 := KF_rf
  unfold wT_X5_hasState at h ⊢
  refine kmT_X5_has _ _ _ _ _ (fun S1 r1 hG h => ?_) h
  replace hF := KF_t hF hG (by decide) (by decide) (by decide) (by decide) (by decide) (by decide) (by decide) (by decide)
  refine ⟨fun c => ?_, fun c => ?_⟩
  · replace h := h.1 c
    exact hk _ _ hF h
  · replace h := h.2 c
    refine ⟨fun c => ?_, fun c => ?_⟩
    · replace h := h.1 c
      exact hk _ _ hF h
    · replace h := h.2 c
      intro z4 ez4
      replace h := h z4 ez4
      intro q5 eq5
      replace h := h q5 eq5
      refine ⟨h.1, ?_⟩
      replace h := h.2
      intro z6 ez6
      replace h := h z6 ez6
      refine ⟨fun c => ?_, fun c => ?_⟩
      · replace h := h.1 c
        exact hk _ _ hF h
      · replace h := h.2 c
        exact hk _ _ hF h
theorem kmT_X7_is (t0 : Nat) (a0 : Int32) (a1 : Int32) : KmI [] [] [] [] [] (wT_X7_is t0 a0 a1) := by
  intro S0 K K' hk h
  have hF : KF [] [] [] [] [] S0 S0 := KF_rf
  unfold wT_X7_is at h ⊢
  intro z1 ez1
  replace h := h z1 ez1
  intro q2 eq2
  replace h := h q2 eq2
  refine ⟨h.1, ?_⟩
  replace h := h.2
  intro z3 ez3
  replace h := h z3 ez3
  intro z4 ez4
  replace h := h z4 ez4
  refine ⟨fun c => ?_, fun c => ?_⟩
  · replace h := h.1 c
    exact hk _ _ hF h
  · replace h := h.2 c
    exact hk _ _ hF h
theorem kmT_X7_leaveTo_57 {K K' : kS → Int32 → Prop} {k6 k6' : Nat × Int32 × Int32 × Int32 × Int32 × kS → Prop} {S0 : kS} (hk : ∀ S1 r1, KF [] [] [] [] [] S0 S1 → K S1 r1 → K' S1 r1) (hk6 : ∀ u : Nat × Int32 × Int32 × Int32 × Int32 × kS, KF [] [] [] [] [] S0 u.2.2.2.2.2 → k6 u → k6' u) {x0 : Nat} {x2 : Int32} {x3 : Int32} {x5 : Int32} {x6 : Int32} {S : kS} (hF : KF [] [] [] [] [] S0 S) (h : wT_X7_leaveTo_57 K k6 x0 x2 x3 x5 x6 S) : wT_X7_leaveTo_57 K' k6' x0 x2 x3 x5 x6 S := by
  unfold wT_X7_leaveTo_57 at h ⊢
  intro z12 ez12
  replace h := h z12 ez12
  intro q13 eq13
  replace h := h q13 eq13
  refine ⟨h.1, ?_⟩
  replace h := h.2
  intro z14 ez14
  replace h := h z14 ez14
  intro z15 ez15
  replace h := h z15 ez15
  exact hk6 _ hF h
theorem kmT_X7_leaveTo_6 {K K' : kS → Int32 → Prop} {k6 k6' : Nat × Int32 × Int32 × Int32 × Int32 × kS → Prop} {S0 : kS} (hk : ∀ S1 r1, KF [] [] [] [] [] S0 S1 → K S1 r1 → K' S1 r1) (hk6 : ∀ u : Nat × Int32 × Int32 × Int32 × Int32 × kS, KF [] [] [] [] [] S0 u.2.2.2.2.2 → k6 u → k6' u) {x0 : Nat} {x2 : Int32} {x3 : Int32} {x4 : Int32} {x5 : Int32} {S : kS} (hF : KF [] [] [] [] [] S0 S) (h : wT_X7_leaveTo_6 K k6 x0 x2 x3 x4 x5 S) : wT_X7_leaveTo_6 K' k6' x0 x2 x3 x4 x5 S := by
  unfold wT_X7_leaveTo_6 at h ⊢
  refine ⟨fun c => ?_, fun c => ?_⟩
  · replace h := h.1 c
    exact hk _ _ hF h
  · replace h := h.2 c
    refine ⟨fun c => ?_, fun c => ?_⟩
    · replace h := h.1 c
      exact hk _ _ hF h
    · replace h := h.2 c
      refine ⟨fun c => ?_, fun c => ?_⟩
      · replace h := h.1 c
        exact hk _ _ hF h
      · replace h := h.2 c
        refine ⟨h.1, ?_⟩
        replace h := h.2
        intro z4 ez4
        replace h := h z4 ez4
        refine ⟨h.1, ?_⟩
        replace h := h.2
        intro z5 ez5
        replace h := h z5 ez5
        refine ⟨fun c => ?_, fun c => ?_⟩
        · replace h := h.1 c
          exact kmT_X7_leaveTo_57 hk hk6 hF h
        · replace h := h.2 c
          refine kmT_X7_is _ _ _ _ _ _ (fun S7 r7 hG h => ?_) h
          replace hF := KF_t hF hG (by decide) (by decide) (by decide) (by decide) (by decide) (by decide) (by decide) (by decide)
          refine ⟨fun c => ?_, fun c => ?_⟩
          · replace h := h.1 c
            exact kmT_X7_leaveTo_57 hk hk6 hF h
          · replace h := h.2 c
            intro z9 ez9
            replace h := h z9 ez9
            intro q10 eq10
            replace h := h q10 eq10
            refine ⟨h.1, ?_⟩
            replace h := h.2
            intro z11 ez11
            replace h := h z11 ez11
            exact hk _ _ hF h
theorem kmlT_X7_leaveTo_6 {K K' : kS → Int32 → Prop} {S0 : kS} (hk : ∀ S1 r1, KF [] [] [] [] [] S0 S1 → K S1 r1 → K' S1 r1) : ∀ (n : Nat) (u : Nat × Int32 × Int32 × Int32 × Int32 × kS), KF [] [] [] [] [] S0 u.2.2.2.2.2 → it (lT_X7_leaveTo_6 K) n u → it (lT_X7_leaveTo_6 K') n u := by
  intro n
  induction n with
  | zero => exact fun _ _ h => h
  | succ n ih => exact fun u hF h => kmT_X7_leaveTo_6 hk ih hF h
theorem kmT_X7_leaveTo (t0 : Nat) (a0 : Int32) (a1 : Int32) (a2 : Int32) : KmI [] [] [] [] [] (wT_X7_leaveTo t0 a0 a1 a2) := by
  intro S0 K K' hk h
  have hF : KF [] [] [] [] [] S0 S0 := KF_rf
  unfold wT_X7_leaveTo at h ⊢
  obtain ⟨n9, h⟩ := h
  exact ⟨n9, kmlT_X7_leaveTo_6 hk n9 _ hF h⟩
theorem kmT_X7_breakTo (t0 : Nat) (a0 : Int32) (a1 : Int32) : KmI [] [] [] [] [] (wT_X7_breakTo t0 a0 a1) := by
  intro S0 K K' hk h
  have hF : KF [] [] [] [] [] S0 S0 := KF_rf
  unfold wT_X7_breakTo at h ⊢
  intro z1 ez1
  replace h := h z1 ez1
  intro q2 eq2
  replace h := h q2 eq2
  refine ⟨h.1, ?_⟩
  replace h := h.2
  intro z3 ez3
  replace h := h z3 ez3
  intro z4 ez4
  replace h := h z4 ez4
  intro q5 eq5
  replace h := h q5 eq5
  refine ⟨h.1, ?_⟩
  replace h := h.2
  intro z6 ez6
  replace h := h z6 ez6
  refine kmT_X7_leaveTo _ _ _ _ _ _ _ (fun S7 r7 hG h => ?_) h
  replace hF := KF_t hF hG (by decide) (by decide) (by decide) (by decide) (by decide) (by decide) (by decide) (by decide)
  exact hk _ _ hF h
theorem kmT_X7_cancelTo (t0 : Nat) (a0 : Int32) (a1 : Int32) : KmI [] [] [] [] [] (wT_X7_cancelTo t0 a0 a1) := by
  intro S0 K K' hk h
  have hF : KF [] [] [] [] [] S0 S0 := KF_rf
  unfold wT_X7_cancelTo at h ⊢
  refine kmT_X7_leaveTo _ _ _ _ _ _ _ (fun S1 r1 hG h => ?_) h
  replace hF := KF_t hF hG (by decide) (by decide) (by decide) (by decide) (by decide) (by decide) (by decide) (by decide)
  exact hk _ _ hF h
theorem kmT_X7_continueTo (t0 : Nat) (a0 : Int32) (a1 : Int32) : KmI [] [] [] [] [] (wT_X7_continueTo t0 a0 a1) := by
  intro S0 K K' hk h
  have hF : KF [] [] [] [] [] S0 S0 := KF_rf
  unfold wT_X7_continueTo at h ⊢
  intro z1 ez1
  replace h := h z1 ez1
  intro q2 eq2
  replace h := h q2 eq2
  refine ⟨h.1, ?_⟩
  replace h := h.2
  intro z3 ez3
  replace h := h z3 ez3
  intro z4 ez4
  replace h := h z4 ez4
  intro q5 eq5
  replace h := h q5 eq5
  refine ⟨h.1, ?_⟩
  replace h := h.2
  intro z6 ez6
  replace h := h z6 ez6
  refine kmT_X7_leaveTo _ _ _ _ _ _ _ (fun S7 r7 hG h => ?_) h
  replace hF := KF_t hF hG (by decide) (by decide) (by decide) (by decide) (by decide) (by decide) (by decide) (by decide)
  exact hk _ _ hF h
theorem kmT_X7_failureTo_71 {K K' : kS → Int32 → Prop} {k5 k5' : Nat × Int32 × Int32 × Int32 × kS → Prop} {S0 : kS} (hk : ∀ S1 r1, KF [] [] [] [] [] S0 S1 → K S1 r1 → K' S1 r1) (hk5 : ∀ u : Nat × Int32 × Int32 × Int32 × kS, KF [] [] [] [] [] S0 u.2.2.2.2 → k5 u → k5' u) {x0 : Nat} {x2 : Int32} {x4 : Int32} {x5 : Int32} {S : kS} (hF : KF [] [] [] [] [] S0 S) (h : wT_X7_failureTo_71 K k5 x0 x2 x4 x5 S) : wT_X7_failureTo_71 K' k5' x0 x2 x4 x5 S := by
  unfold wT_X7_failureTo_71 at h ⊢
  intro z18 ez18
  replace h := h z18 ez18
  intro q19 eq19
  replace h := h q19 eq19
  refine ⟨h.1, ?_⟩
  replace h := h.2
  intro z20 ez20
  replace h := h z20 ez20
  intro z21 ez21
  replace h := h z21 ez21
  exact hk5 _ hF h
theorem kmT_X7_failureTo_46 {K K' : kS → Int32 → Prop} {k5 k5' : Nat × Int32 × Int32 × Int32 × kS → Prop} {S0 : kS} (hk : ∀ S1 r1, KF [] [] [] [] [] S0 S1 → K S1 r1 → K' S1 r1) (hk5 : ∀ u : Nat × Int32 × Int32 × Int32 × kS, KF [] [] [] [] [] S0 u.2.2.2.2 → k5 u → k5' u) {x0 : Nat} {x2 : Int32} {x3 : Int32} {x4 : Int32} {x5 : Int32} {S : kS} (hF : KF [] [] [] [] [] S0 S) (h : wT_X7_failureTo_46 K k5 x0 x2 x3 x4 x5 S) : wT_X7_failureTo_46 K' k5' x0 x2 x3 x4 x5 S := by
  unfold wT_X7_failureTo_46 at h ⊢
  refine ⟨h.1, ?_⟩
  replace h := h.2
  intro z11 ez11
  replace h := h z11 ez11
  refine ⟨fun c => ?_, fun c => ?_⟩
  · replace h := h.1 c
    exact kmT_X7_failureTo_71 hk hk5 hF h
  · replace h := h.2 c
    refine kmT_X7_is _ _ _ _ _ _ (fun S13 r13 hG h => ?_) h
    replace hF := KF_t hF hG (by decide) (by decide) (by decide) (by decide) (by decide) (by decide) (by decide) (by decide)
    refine ⟨fun c => ?_, fun c => ?_⟩
    · replace h := h.1 c
      exact kmT_X7_failureTo_71 hk hk5 hF h
    · replace h := h.2 c
      intro z15 ez15
      replace h := h z15 ez15
      intro q16 eq16
      replace h := h q16 eq16
      refine ⟨h.1, ?_⟩
      replace h := h.2
      intro z17 ez17
      replace h := h z17 ez17
      exact hk _ _ hF h
theorem kmT_X7_failureTo_5 {K K' : kS → Int32 → Prop} {k5 k5' : Nat × Int32 × Int32 × Int32 × kS → Prop} {S0 : kS} (hk : ∀ S1 r1, KF [] [] [] [] [] S0 S1 → K S1 r1 → K' S1 r1) (hk5 : ∀ u : Nat × Int32 × Int32 × Int32 × kS, KF [] [] [] [] [] S0 u.2.2.2.2 → k5 u → k5' u) {x0 : Nat} {x2 : Int32} {x3 : Int32} {x4 : Int32} {S : kS} (hF : KF [] [] [] [] [] S0 S) (h : wT_X7_failureTo_5 K k5 x0 x2 x3 x4 S) : wT_X7_failureTo_5 K' k5' x0 x2 x3 x4 S := by
  unfold wT_X7_failureTo_5 at h ⊢
  refine ⟨fun c => ?_, fun c => ?_⟩
  · replace h := h.1 c
    exact hk _ _ hF h
  · replace h := h.2 c
    refine ⟨fun c => ?_, fun c => ?_⟩
    · replace h := h.1 c
      exact hk _ _ hF h
    · replace h := h.2 c
      refine ⟨h.1, ?_⟩
      replace h := h.2
      intro z3 ez3
      replace h := h z3 ez3
      refine ⟨h.1, ?_⟩
      replace h := h.2
      intro z4 ez4
      replace h := h z4 ez4
      refine ⟨fun c => ?_, fun c => ?_⟩
      · replace h := h.1 c
        exact kmT_X7_failureTo_46 hk hk5 hF h
      · replace h := h.2 c
        refine kmT_X7_is _ _ _ _ _ _ (fun S6 r6 hG h => ?_) h
        replace hF := KF_t hF hG (by decide) (by decide) (by decide) (by decide) (by decide) (by decide) (by decide) (by decide)
        refine ⟨fun c => ?_, fun c => ?_⟩
        · replace h := h.1 c
          exact kmT_X7_failureTo_46 hk hk5 hF h
        · replace h := h.2 c
          intro z8 ez8
          replace h := h z8 ez8
          intro q9 eq9
          replace h := h q9 eq9
          refine ⟨h.1, ?_⟩
          replace h := h.2
          intro z10 ez10
          replace h := h z10 ez10
          exact hk _ _ hF h
theorem kmlT_X7_failureTo_5 {K K' : kS → Int32 → Prop} {S0 : kS} (hk : ∀ S1 r1, KF [] [] [] [] [] S0 S1 → K S1 r1 → K' S1 r1) : ∀ (n : Nat) (u : Nat × Int32 × Int32 × Int32 × kS), KF [] [] [] [] [] S0 u.2.2.2.2 → it (lT_X7_failureTo_5 K) n u → it (lT_X7_failureTo_5 K') n u := by
  intro n
  induction n with
  | zero => exact fun _ _ h => h
  | succ n ih => exact fun u hF h => kmT_X7_failureTo_5 hk ih hF h
theorem kmT_X7_failureTo (t0 : Nat) (a0 : Int32) (a1 : Int32) : KmI [] [] [] [] [] (wT_X7_failureTo t0 a0 a1) := by
  intro S0 K K' hk h
  have hF : KF [] [] [] [] [] S0 S0 := KF_rf
  unfold wT_X7_failureTo at h ⊢
  obtain ⟨n9, h⟩ := h
  exact ⟨n9, kmlT_X7_failureTo_5 hk n9 _ hF h⟩
theorem kmT_X8_reach (t0 : Nat) (a0 : Int32) : KmV [26] [] [53, 54] [] [] (wT_X8_reach t0 a0) := by
  intro S0 K K' hk h
  have hF : KF [26] [] [53, 54] [] [] S0 S0 := KF_rf
  unfold wT_X8_reach at h ⊢
  refine ⟨fun c => ?_, fun c => ?_⟩
  · replace h := h.1 c
    exact hk _ hF h
  · replace h := h.2 c
    intro z2 ez2
    replace h := h z2 ez2
    obtain ⟨q3, eq3, h9⟩ := h
    replace h := h9
    clear h9
    refine ⟨q3, eq3, ?_⟩
    intro z4 ez4
    replace h := h z4 ez4
    refine ⟨fun c => ?_, fun c => ?_⟩
    · replace h := h.1 c
      exact hk _ hF h
    · replace h := h.2 c
      intro z6 ez6
      replace h := h z6 ez6
      intro q7 eq7
      replace h := h q7 eq7
      refine ⟨h.1, ?_⟩
      replace h := h.2
      intro z8 ez8
      replace h := h z8 ez8
      intro z9 ez9
      replace h := h z9 ez9
      refine ⟨fun c => ?_, fun c => ?_⟩
      · replace h := h.1 c
        exact hk _ hF h
      · replace h := h.2 c
        intro z11 ez11
        replace h := h z11 ez11
        have pz11 : ∃ o, S0.2.1 53 o = z11 := ⟨_, by rw [ez11, hF.2.1 53 (by decide)]⟩
        intro z12 ez12
        replace h := h z12 ez12
        intro q13 eq13
        replace h := h q13 eq13
        refine ⟨h.1, ?_⟩
        replace h := h.2
        intro S14 eS14
        replace h := h S14 eS14
        replace hF := KF_a (fid := 53) hF eS14 (by decide) (by rw [← eq13]; exact pz11)
        intro z15 ez15
        replace h := h z15 ez15
        have pz15 : ∃ o, S0.2.1 54 o = z15 := ⟨_, by rw [ez15, hF.2.1 54 (by decide)]⟩
        intro z16 ez16
        replace h := h z16 ez16
        intro q17 eq17
        replace h := h q17 eq17
        refine ⟨h.1, ?_⟩
        replace h := h.2
        intro S18 eS18
        replace h := h S18 eS18
        replace hF := KF_a (fid := 54) hF eS18 (by decide) (by rw [← eq17]; exact pz15)
        intro z19 ez19
        replace h := h z19 ez19
        intro z20 ez20
        replace h := h z20 ez20
        intro S21 eS21
        replace h := h S21 eS21
        replace hF := KF_i hF eS21 (by decide)
        exact hk _ hF h
theorem kmT_X8_followFinish_82 {K K' : kS → Prop} {S0 : kS} (hk : ∀ S1, KF [26] [] [53, 54] [] [] S0 S1 → K S1 → K' S1) {x0 : Nat} {x1 : Int32} {x3 : Nat} {x4 : Int32} {x5 : Int32} {S : kS} (hF : KF [26] [] [53, 54] [] [] S0 S) (h : wT_X8_followFinish_82 K x0 x1 x3 x4 x5 S) : wT_X8_followFinish_82 K' x0 x1 x3 x4 x5 S := by
  unfold wT_X8_followFinish_82 at h ⊢
  refine ⟨fun c => ?_, fun c => ?_⟩
  · replace h := h.1 c
    exact hk _ hF h
  · replace h := h.2 c
    refine kmT_X7_is _ _ _ _ _ _ (fun S25 r25 hG h => ?_) h
    replace hF := KF_t hF hG (by decide) (by decide) (by decide) (by decide) (by decide) (by decide) (by decide) (by decide)
    refine ⟨fun c => ?_, fun c => ?_⟩
    · replace h := h.1 c
      exact hk _ hF h
    · replace h := h.2 c
      refine kmT_X7_continueTo _ _ _ _ _ _ (fun S27 r27 hG h => ?_) h
      replace hF := KF_t hF hG (by decide) (by decide) (by decide) (by decide) (by decide) (by decide) (by decide) (by decide)
      refine kmT_X8_reach _ _ _ _ _ (fun S28 hG h => ?_) h
      replace hF := KF_t hF hG (by decide) (by decide) (by decide) (by decide) (by decide) (by decide) (by decide) (by decide)
      exact hk _ hF h
theorem kmT_X8_followFinish (t0 : Nat) (a0 : Int32) (a1 : Int32) : KmV [26] [] [53, 54] [] [] (wT_X8_followFinish t0 a0 a1) := by
  intro S0 K K' hk h
  have hF : KF [26] [] [53, 54] [] [] S0 S0 := KF_rf
  unfold wT_X8_followFinish at h ⊢
  intro z1 ez1
  replace h := h z1 ez1
  obtain ⟨q2, eq2, h9⟩ := h
  replace h := h9
  clear h9
  refine ⟨q2, eq2, ?_⟩
  intro z3 ez3
  replace h := h z3 ez3
  intro q4 eq4
  replace h := h q4 eq4
  intro z5 ez5
  replace h := h z5 ez5
  intro q6 eq6
  replace h := h q6 eq6
  refine ⟨h.1, ?_⟩
  replace h := h.2
  intro z7 ez7
  replace h := h z7 ez7
  intro z8 ez8
  replace h := h z8 ez8
  intro q9 eq9
  replace h := h q9 eq9
  refine ⟨h.1, ?_⟩
  replace h := h.2
  intro z10 ez10
  replace h := h z10 ez10
  intro z11 ez11
  replace h := h z11 ez11
  intro q12 eq12
  replace h := h q12 eq12
  refine ⟨h.1, ?_⟩
  replace h := h.2
  intro z13 ez13
  replace h := h z13 ez13
  refine kmT_X8_reach _ _ _ _ _ (fun S14 hG h => ?_) h
  replace hF := KF_t hF hG (by decide) (by decide) (by decide) (by decide) (by decide) (by decide) (by decide) (by decide)
  refine kmT_X7_failureTo _ _ _ _ _ _ (fun S15 r15 hG h => ?_) h
  replace hF := KF_t hF hG (by decide) (by decide) (by decide) (by decide) (by decide) (by decide) (by decide) (by decide)
  refine kmT_X8_reach _ _ _ _ _ (fun S16 hG h => ?_) h
  replace hF := KF_t hF hG (by decide) (by decide) (by decide) (by decide) (by decide) (by decide) (by decide) (by decide)
  refine kmT_X7_cancelTo _ _ _ _ _ _ (fun S17 r17 hG h => ?_) h
  replace hF := KF_t hF hG (by decide) (by decide) (by decide) (by decide) (by decide) (by decide) (by decide) (by decide)
  refine kmT_X8_reach _ _ _ _ _ (fun S18 hG h => ?_) h
  replace hF := KF_t hF hG (by decide) (by decide) (by decide) (by decide) (by decide) (by decide) (by decide) (by decide)
  refine ⟨fun c => ?_, fun c => ?_⟩
  · replace h := h.1 c
    exact kmT_X8_followFinish_82 hk hF h
  · replace h := h.2 c
    refine kmT_X7_is _ _ _ _ _ _ (fun S20 r20 hG h => ?_) h
    replace hF := KF_t hF hG (by decide) (by decide) (by decide) (by decide) (by decide) (by decide) (by decide) (by decide)
    refine ⟨fun c => ?_, fun c => ?_⟩
    · replace h := h.1 c
      exact kmT_X8_followFinish_82 hk hF h
    · replace h := h.2 c
      refine kmT_X7_breakTo _ _ _ _ _ _ (fun S22 r22 hG h => ?_) h
      replace hF := KF_t hF hG (by decide) (by decide) (by decide) (by decide) (by decide) (by decide) (by decide) (by decide)
      refine kmT_X8_reach _ _ _ _ _ (fun S23 hG h => ?_) h
      replace hF := KF_t hF hG (by decide) (by decide) (by decide) (by decide) (by decide) (by decide) (by decide) (by decide)
      exact kmT_X8_followFinish_82 hk hF h
theorem kmT_X8_follow_341 {K K' : kS → Prop} {S0 : kS} (hk : ∀ S1, KF [26] [] [53, 54] [] [] S0 S1 → K S1 → K' S1) {y0 : Nat} {y1 : Int32} {S : kS} (hF : KF [26] [] [53, 54] [] [] S0 S) (h : wT_X8_follow_341 K y0 y1 S) : wT_X8_follow_341 K' y0 y1 S := by
  unfold wT_X8_follow_341 at h ⊢
  refine kmT_X8_reach _ _ _ _ _ (fun S126 hG h => ?_) h
  replace hF := KF_t hF hG (by decide) (by decide) (by decide) (by decide) (by decide) (by decide) (by decide) (by decide)
  exact hk _ hF h
theorem kmT_X8_follow (t0 : Nat) (a0 : Int32) (a1 : Int32) : KmV [26] [] [53, 54] [] [] (wT_X8_follow t0 a0 a1) := by
  intro S0 K K' hk h
  have hF : KF [26] [] [53, 54] [] [] S0 S0 := KF_rf
  unfold wT_X8_follow at h ⊢
  intro z1 ez1
  replace h := h z1 ez1
  obtain ⟨q2, eq2, h9⟩ := h
  replace h := h9
  clear h9
  refine ⟨q2, eq2, ?_⟩
  intro z3 ez3
  replace h := h z3 ez3
  intro z4 ez4
  replace h := h z4 ez4
  obtain ⟨q5, eq5, h9⟩ := h
  replace h := h9
  clear h9
  refine ⟨q5, eq5, ?_⟩
  intro z6 ez6
  replace h := h z6 ez6
  intro q7 eq7
  replace h := h q7 eq7
  refine ⟨h.1, ?_⟩
  replace h := h.2
  intro z8 ez8
  replace h := h z8 ez8
  intro z9 ez9
  replace h := h z9 ez9
  obtain ⟨q10, eq10, h9⟩ := h
  replace h := h9
  clear h9
  refine ⟨q10, eq10, ?_⟩
  intro z11 ez11
  replace h := h z11 ez11
  intro q12 eq12
  replace h := h q12 eq12
  refine ⟨h.1, ?_⟩
  replace h := h.2
  intro z13 ez13
  replace h := h z13 ez13
  intro z14 ez14
  replace h := h z14 ez14
  obtain ⟨q15, eq15, h9⟩ := h
  replace h := h9
  clear h9
  refine ⟨q15, eq15, ?_⟩
  intro z16 ez16
  replace h := h z16 ez16
  intro q17 eq17
  replace h := h q17 eq17
  refine ⟨h.1, ?_⟩
  replace h := h.2
  intro z18 ez18
  replace h := h z18 ez18
  intro z19 ez19
  replace h := h z19 ez19
  obtain ⟨q20, eq20, h9⟩ := h
  replace h := h9
  clear h9
  refine ⟨q20, eq20, ?_⟩
  intro z21 ez21
  replace h := h z21 ez21
  intro q22 eq22
  replace h := h q22 eq22
  refine ⟨h.1, ?_⟩
  replace h := h.2
  intro z23 ez23
  replace h := h z23 ez23
  refine ⟨fun c => ?_, fun c => ?_⟩
  · replace h := h.1 c
    intro q25 eq25
    replace h := h q25 eq25
    refine kmT_X7_failureTo _ _ _ _ _ _ (fun S26 r26 hG h => ?_) h
    replace hF := KF_t hF hG (by decide) (by decide) (by decide) (by decide) (by decide) (by decide) (by decide) (by decide)
    refine kmT_X8_reach _ _ _ _ _ (fun S27 hG h => ?_) h
    replace hF := KF_t hF hG (by decide) (by decide) (by decide) (by decide) (by decide) (by decide) (by decide) (by decide)
    intro z28 ez28
    replace h := h z28 ez28
    refine kmT_X8_reach _ _ _ _ _ (fun S29 hG h => ?_) h
    replace hF := KF_t hF hG (by decide) (by decide) (by decide) (by decide) (by decide) (by decide) (by decide) (by decide)
    exact hk _ hF h
  · replace h := h.2 c
    refine ⟨fun c => ?_, fun c => ?_⟩
    · replace h := h.1 c
      intro q31 eq31
      replace h := h q31 eq31
      refine kmT_X7_failureTo _ _ _ _ _ _ (fun S32 r32 hG h => ?_) h
      replace hF := KF_t hF hG (by decide) (by decide) (by decide) (by decide) (by decide) (by decide) (by decide) (by decide)
      refine kmT_X8_reach _ _ _ _ _ (fun S33 hG h => ?_) h
      replace hF := KF_t hF hG (by decide) (by decide) (by decide) (by decide) (by decide) (by decide) (by decide) (by decide)
      intro z34 ez34
      replace h := h z34 ez34
      refine kmT_X8_reach _ _ _ _ _ (fun S35 hG h => ?_) h
      replace hF := KF_t hF hG (by decide) (by decide) (by decide) (by decide) (by decide) (by decide) (by decide) (by decide)
      exact hk _ hF h
    · replace h := h.2 c
      refine ⟨fun c => ?_, fun c => ?_⟩
      · replace h := h.1 c
        intro z37 ez37
        replace h := h z37 ez37
        refine kmT_X8_reach _ _ _ _ _ (fun S38 hG h => ?_) h
        replace hF := KF_t hF hG (by decide) (by decide) (by decide) (by decide) (by decide) (by decide) (by decide) (by decide)
        exact hk _ hF h
      · replace h := h.2 c
        refine ⟨fun c => ?_, fun c => ?_⟩
        · replace h := h.1 c
          intro z40 ez40
          replace h := h z40 ez40
          refine kmT_X8_reach _ _ _ _ _ (fun S41 hG h => ?_) h
          replace hF := KF_t hF hG (by decide) (by decide) (by decide) (by decide) (by decide) (by decide) (by decide) (by decide)
          exact hk _ hF h
        · replace h := h.2 c
          refine ⟨fun c => ?_, fun c => ?_⟩
          · replace h := h.1 c
            intro z43 ez43
            replace h := h z43 ez43
            refine kmT_X8_reach _ _ _ _ _ (fun S44 hG h => ?_) h
            replace hF := KF_t hF hG (by decide) (by decide) (by decide) (by decide) (by decide) (by decide) (by decide) (by decide)
            exact hk _ hF h
          · replace h := h.2 c
            refine ⟨fun c => ?_, fun c => ?_⟩
            · replace h := h.1 c
              intro z46 ez46
              replace h := h z46 ez46
              refine kmT_X8_reach _ _ _ _ _ (fun S47 hG h => ?_) h
              replace hF := KF_t hF hG (by decide) (by decide) (by decide) (by decide) (by decide) (by decide) (by decide) (by decide)
              exact hk _ hF h
            · replace h := h.2 c
              refine ⟨fun c => ?_, fun c => ?_⟩
              · replace h := h.1 c
                refine kmT_X8_reach _ _ _ _ _ (fun S49 hG h => ?_) h
                replace hF := KF_t hF hG (by decide) (by decide) (by decide) (by decide) (by decide) (by decide) (by decide) (by decide)
                intro z50 ez50
                replace h := h z50 ez50
                refine kmT_X8_reach _ _ _ _ _ (fun S51 hG h => ?_) h
                replace hF := KF_t hF hG (by decide) (by decide) (by decide) (by decide) (by decide) (by decide) (by decide) (by decide)
                exact hk _ hF h
              · replace h := h.2 c
                refine ⟨fun c => ?_, fun c => ?_⟩
                · replace h := h.1 c
                  refine kmT_X8_reach _ _ _ _ _ (fun S53 hG h => ?_) h
                  replace hF := KF_t hF hG (by decide) (by decide) (by decide) (by decide) (by decide) (by decide) (by decide) (by decide)
                  exact hk _ hF h
                · replace h := h.2 c
                  refine ⟨fun c => ?_, fun c => ?_⟩
                  · replace h := h.1 c
                    intro q55 eq55
                    replace h := h q55 eq55
                    refine kmT_X7_breakTo _ _ _ _ _ _ (fun S56 r56 hG h => ?_) h
                    replace hF := KF_t hF hG (by decide) (by decide) (by decide) (by decide) (by decide) (by decide) (by decide) (by decide)
                    refine kmT_X8_reach _ _ _ _ _ (fun S57 hG h => ?_) h
                    replace hF := KF_t hF hG (by decide) (by decide) (by decide) (by decide) (by decide) (by decide) (by decide) (by decide)
                    exact hk _ hF h
                  · replace h := h.2 c
                    refine ⟨fun c => ?_, fun c => ?_⟩
                    · replace h := h.1 c
                      intro q59 eq59
                      replace h := h q59 eq59
                      refine kmT_X7_continueTo _ _ _ _ _ _ (fun S60 r60 hG h => ?_) h
                      replace hF := KF_t hF hG (by decide) (by decide) (by decide) (by decide) (by decide) (by decide) (by decide) (by decide)
                      refine kmT_X8_reach _ _ _ _ _ (fun S61 hG h => ?_) h
                      replace hF := KF_t hF hG (by decide) (by decide) (by decide) (by decide) (by decide) (by decide) (by decide) (by decide)
                      exact hk _ hF h
                    · replace h := h.2 c
                      refine ⟨fun c => ?_, fun c => ?_⟩
                      · replace h := h.1 c
                        intro q63 eq63
                        replace h := h q63 eq63
                        refine kmT_X7_cancelTo _ _ _ _ _ _ (fun S64 r64 hG h => ?_) h
                        replace hF := KF_t hF hG (by decide) (by decide) (by decide) (by decide) (by decide) (by decide) (by decide) (by decide)
                        refine kmT_X8_reach _ _ _ _ _ (fun S65 hG h => ?_) h
                        replace hF := KF_t hF hG (by decide) (by decide) (by decide) (by decide) (by decide) (by decide) (by decide) (by decide)
                        exact hk _ hF h
                      · replace h := h.2 c
                        refine ⟨fun c => ?_, fun c => ?_⟩
                        · replace h := h.1 c
                          intro q67 eq67
                          replace h := h q67 eq67
                          refine kmT_X7_failureTo _ _ _ _ _ _ (fun S68 r68 hG h => ?_) h
                          replace hF := KF_t hF hG (by decide) (by decide) (by decide) (by decide) (by decide) (by decide) (by decide) (by decide)
                          refine kmT_X8_reach _ _ _ _ _ (fun S69 hG h => ?_) h
                          replace hF := KF_t hF hG (by decide) (by decide) (by decide) (by decide) (by decide) (by decide) (by decide) (by decide)
                          exact hk _ hF h
                        · replace h := h.2 c
                          refine ⟨fun c => ?_, fun c => ?_⟩
                          · replace h := h.1 c
                            intro q71 eq71
                            replace h := h q71 eq71
                            refine kmT_X7_is _ _ _ _ _ _ (fun S72 r72 hG h => ?_) h
                            replace hF := KF_t hF hG (by decide) (by decide) (by decide) (by decide) (by decide) (by decide) (by decide) (by decide)
                            refine ⟨fun c => ?_, fun c => ?_⟩
                            · replace h := h.1 c
                              intro z74 ez74
                              replace h := h z74 ez74
                              intro q75 eq75
                              replace h := h q75 eq75
                              refine ⟨h.1, ?_⟩
                              replace h := h.2
                              intro z76 ez76
                              replace h := h z76 ez76
                              exact kmT_X8_follow_341 hk hF h
                            · replace h := h.2 c
                              intro z77 ez77
                              replace h := h z77 ez77
                              intro q78 eq78
                              replace h := h q78 eq78
                              refine ⟨h.1, ?_⟩
                              replace h := h.2
                              intro z79 ez79
                              replace h := h z79 ez79
                              exact kmT_X8_follow_341 hk hF h
                          · replace h := h.2 c
                            refine ⟨fun c => ?_, fun c => ?_⟩
                            · replace h := h.1 c
                              intro z81 ez81
                              replace h := h z81 ez81
                              refine kmT_X8_reach _ _ _ _ _ (fun S82 hG h => ?_) h
                              replace hF := KF_t hF hG (by decide) (by decide) (by decide) (by decide) (by decide) (by decide) (by decide) (by decide)
                              exact hk _ hF h
                            · replace h := h.2 c
                              refine ⟨fun c => ?_, fun c => ?_⟩
                              · replace h := h.1 c
                                refine kmT_X8_followFinish _ _ _ _ _ _ (fun S84 hG h => ?_) h
                                replace hF := KF_t hF hG (by decide) (by decide) (by decide) (by decide) (by decide) (by decide) (by decide) (by decide)
                                exact hk _ hF h
                              · replace h := h.2 c
                                refine ⟨fun c => ?_, fun c => ?_⟩
                                · replace h := h.1 c
                                  exact hk _ hF h
                                · replace h := h.2 c
                                  refine ⟨fun c => ?_, fun c => ?_⟩
                                  · replace h := h.1 c
                                    intro z87 ez87
                                    replace h := h z87 ez87
                                    refine kmT_X8_reach _ _ _ _ _ (fun S88 hG h => ?_) h
                                    replace hF := KF_t hF hG (by decide) (by decide) (by decide) (by decide) (by decide) (by decide) (by decide) (by decide)
                                    exact hk _ hF h
                                  · replace h := h.2 c
                                    refine ⟨fun c => ?_, fun c => ?_⟩
                                    · replace h := h.1 c
                                      intro z90 ez90
                                      replace h := h z90 ez90
                                      refine kmT_X8_reach _ _ _ _ _ (fun S91 hG h => ?_) h
                                      replace hF := KF_t hF hG (by decide) (by decide) (by decide) (by decide) (by decide) (by decide) (by decide) (by decide)
                                      exact hk _ hF h
                                    · replace h := h.2 c
                                      refine ⟨fun c => ?_, fun c => ?_⟩
                                      · replace h := h.1 c
                                        intro z93 ez93
                                        replace h := h z93 ez93
                                        refine kmT_X8_reach _ _ _ _ _ (fun S94 hG h => ?_) h
                                        replace hF := KF_t hF hG (by decide) (by decide) (by decide) (by decide) (by decide) (by decide) (by decide) (by decide)
                                        exact hk _ hF h
                                      · replace h := h.2 c
                                        refine ⟨fun c => ?_, fun c => ?_⟩
                                        · replace h := h.1 c
                                          intro z96 ez96
                                          replace h := h z96 ez96
                                          refine kmT_X8_reach _ _ _ _ _ (fun S97 hG h => ?_) h
                                          replace hF := KF_t hF hG (by decide) (by decide) (by decide) (by decide) (by decide) (by decide) (by decide) (by decide)
                                          exact hk _ hF h
                                        · replace h := h.2 c
                                          refine ⟨fun c => ?_, fun c => ?_⟩
                                          · replace h := h.1 c
                                            intro z99 ez99
                                            replace h := h z99 ez99
                                            refine kmT_X8_reach _ _ _ _ _ (fun S100 hG h => ?_) h
                                            replace hF := KF_t hF hG (by decide) (by decide) (by decide) (by decide) (by decide) (by decide) (by decide) (by decide)
                                            exact hk _ hF h
                                          · replace h := h.2 c
                                            refine ⟨fun c => ?_, fun c => ?_⟩
                                            · replace h := h.1 c
                                              intro z102 ez102
                                              replace h := h z102 ez102
                                              refine kmT_X8_reach _ _ _ _ _ (fun S103 hG h => ?_) h
                                              replace hF := KF_t hF hG (by decide) (by decide) (by decide) (by decide) (by decide) (by decide) (by decide) (by decide)
                                              exact hk _ hF h
                                            · replace h := h.2 c
                                              refine ⟨fun c => ?_, fun c => ?_⟩
                                              · replace h := h.1 c
                                                intro z105 ez105
                                                replace h := h z105 ez105
                                                refine kmT_X8_reach _ _ _ _ _ (fun S106 hG h => ?_) h
                                                replace hF := KF_t hF hG (by decide) (by decide) (by decide) (by decide) (by decide) (by decide) (by decide) (by decide)
                                                exact hk _ hF h
                                              · replace h := h.2 c
                                                refine ⟨fun c => ?_, fun c => ?_⟩
                                                · replace h := h.1 c
                                                  intro z108 ez108
                                                  replace h := h z108 ez108
                                                  refine kmT_X8_reach _ _ _ _ _ (fun S109 hG h => ?_) h
                                                  replace hF := KF_t hF hG (by decide) (by decide) (by decide) (by decide) (by decide) (by decide) (by decide) (by decide)
                                                  exact hk _ hF h
                                                · replace h := h.2 c
                                                  refine ⟨fun c => ?_, fun c => ?_⟩
                                                  · replace h := h.1 c
                                                    intro z111 ez111
                                                    replace h := h z111 ez111
                                                    refine kmT_X8_reach _ _ _ _ _ (fun S112 hG h => ?_) h
                                                    replace hF := KF_t hF hG (by decide) (by decide) (by decide) (by decide) (by decide) (by decide) (by decide) (by decide)
                                                    exact hk _ hF h
                                                  · replace h := h.2 c
                                                    refine ⟨fun c => ?_, fun c => ?_⟩
                                                    · replace h := h.1 c
                                                      intro z114 ez114
                                                      replace h := h z114 ez114
                                                      refine kmT_X8_reach _ _ _ _ _ (fun S115 hG h => ?_) h
                                                      replace hF := KF_t hF hG (by decide) (by decide) (by decide) (by decide) (by decide) (by decide) (by decide) (by decide)
                                                      exact hk _ hF h
                                                    · replace h := h.2 c
                                                      refine ⟨fun c => ?_, fun c => ?_⟩
                                                      · replace h := h.1 c
                                                        intro q117 eq117
                                                        replace h := h q117 eq117
                                                        refine kmT_X7_cancelTo _ _ _ _ _ _ (fun S118 r118 hG h => ?_) h
                                                        replace hF := KF_t hF hG (by decide) (by decide) (by decide) (by decide) (by decide) (by decide) (by decide) (by decide)
                                                        refine kmT_X8_reach _ _ _ _ _ (fun S119 hG h => ?_) h
                                                        replace hF := KF_t hF hG (by decide) (by decide) (by decide) (by decide) (by decide) (by decide) (by decide) (by decide)
                                                        refine kmT_X7_failureTo _ _ _ _ _ _ (fun S120 r120 hG h => ?_) h
                                                        replace hF := KF_t hF hG (by decide) (by decide) (by decide) (by decide) (by decide) (by decide) (by decide) (by decide)
                                                        refine kmT_X8_reach _ _ _ _ _ (fun S121 hG h => ?_) h
                                                        replace hF := KF_t hF hG (by decide) (by decide) (by decide) (by decide) (by decide) (by decide) (by decide) (by decide)
                                                        intro z122 ez122
                                                        replace h := h z122 ez122
                                                        refine kmT_X8_reach _ _ _ _ _ (fun S123 hG h => ?_) h
                                                        replace hF := KF_t hF hG (by decide) (by decide) (by decide) (by decide) (by decide) (by decide) (by decide) (by decide)
                                                        exact hk _ hF h
                                                      · replace h := h.2 c
                                                        intro z124 ez124
                                                        replace h := h z124 ez124
                                                        refine kmT_X8_reach _ _ _ _ _ (fun S125 hG h => ?_) h
                                                        replace hF := KF_t hF hG (by decide) (by decide) (by decide) (by decide) (by decide) (by decide) (by decide) (by decide)
                                                        exact hk _ hF h
theorem kmT_X8_set (t0 : Nat) (a0 : Nat) (a1 : Int32) (a2 : Int32) : KmV [26, 27] [55] [53, 54] [] [] (wT_X8_set t0 a0 a1 a2) := by
  intro S0 K K' hk h
  have hF : KF [26, 27] [55] [53, 54] [] [] S0 S0 := KF_rf
  unfold wT_X8_set at h ⊢
  intro S1 eS1
  replace h := h S1 eS1
  replace hF := KF_r hF eS1 (by decide)
  intro z2 ez2
  replace h := h z2 ez2
  intro z3 ez3
  replace h := h z3 ez3
  intro S4 eS4
  replace h := h S4 eS4
  replace hF := KF_i hF eS4 (by decide)
  intro S5 eS5
  replace h := h S5 eS5
  replace hF := KF_i hF eS5 (by decide)
  refine ⟨fun c => ?_, fun c => ?_⟩
  · replace h := h.1 c
    intro z7 ez7
    replace h := h z7 ez7
    obtain ⟨q8, eq8, h9⟩ := h
    replace h := h9
    clear h9
    refine ⟨q8, eq8, ?_⟩
    intro z9 ez9
    replace h := h z9 ez9
    intro z10 ez10
    replace h := h z10 ez10
    intro z11 ez11
    replace h := h z11 ez11
    intro z12 ez12
    replace h := h z12 ez12
    intro q13 eq13
    replace h := h q13 eq13
    refine ⟨h.1, ?_⟩
    replace h := h.2
    intro z14 ez14
    replace h := h z14 ez14
    refine kmT_X8_follow _ _ _ _ _ _ (fun S15 hG h => ?_) h
    replace hF := KF_t hF hG (by decide) (by decide) (by decide) (by decide) (by decide) (by decide) (by decide) (by decide)
    exact hk _ hF h
  · replace h := h.2 c
    intro z16 ez16
    replace h := h z16 ez16
    obtain ⟨q17, eq17, h9⟩ := h
    replace h := h9
    clear h9
    refine ⟨q17, eq17, ?_⟩
    intro z18 ez18
    replace h := h z18 ez18
    intro q19 eq19
    replace h := h q19 eq19
    refine ⟨h.1, ?_⟩
    replace h := h.2
    intro z20 ez20
    replace h := h z20 ez20
    refine kmT_X8_reach _ _ _ _ _ (fun S21 hG h => ?_) h
    replace hF := KF_t hF hG (by decide) (by decide) (by decide) (by decide) (by decide) (by decide) (by decide) (by decide)
    exact hk _ hF h
theorem kmT_X8_readsFirst_119 {K K' : kS → Int32 → Prop} {k10 k10' : Nat × Int32 × Int32 × Int32 × kS → Prop} {S0 : kS} (hk : ∀ S1 r1, KF [26, 27] [55] [53, 54] [] [] S0 S1 → K S1 r1 → K' S1 r1) (hk10 : ∀ u : Nat × Int32 × Int32 × Int32 × kS, KF [26, 27] [55] [53, 54] [] [] S0 u.2.2.2.2 → k10 u → k10' u) {x0 : Nat} {x2 : Int32} {x4 : Int32} {x5 : Int32} {S : kS} (hF : KF [26, 27] [55] [53, 54] [] [] S0 S) (h : wT_X8_readsFirst_119 K k10 x0 x2 x4 x5 S) : wT_X8_readsFirst_119 K' k10' x0 x2 x4 x5 S := by
  unfold wT_X8_readsFirst_119 at h ⊢
  intro z28 ez28
  replace h := h z28 ez28
  exact hk10 _ hF h
theorem kmT_X8_readsFirst_112 {K K' : kS → Int32 → Prop} {k10 k10' : Nat × Int32 × Int32 × Int32 × kS → Prop} {S0 : kS} (hk : ∀ S1 r1, KF [26, 27] [55] [53, 54] [] [] S0 S1 → K S1 r1 → K' S1 r1) (hk10 : ∀ u : Nat × Int32 × Int32 × Int32 × kS, KF [26, 27] [55] [53, 54] [] [] S0 u.2.2.2.2 → k10 u → k10' u) {x0 : Nat} {x2 : Int32} {x4 : Int32} {x5 : Int32} {x6 : Int32} {S : kS} (hF : KF [26, 27] [55] [53, 54] [] [] S0 S) (h : wT_X8_readsFirst_112 K k10 x0 x2 x4 x5 x6 S) : wT_X8_readsFirst_112 K' k10' x0 x2 x4 x5 x6 S := by
  unfold wT_X8_readsFirst_112 at h ⊢
  refine kmT_X8_follow _ _ _ _ _ _ (fun S29 hG h => ?_) h
  replace hF := KF_t hF hG (by decide) (by decide) (by decide) (by decide) (by decide) (by decide) (by decide) (by decide)
  exact kmT_X8_readsFirst_119 hk hk10 hF h
theorem kmT_X8_readsFirst_93 {K K' : kS → Int32 → Prop} {k10 k10' : Nat × Int32 × Int32 × Int32 × kS → Prop} {S0 : kS} (hk : ∀ S1 r1, KF [26, 27] [55] [53, 54] [] [] S0 S1 → K S1 r1 → K' S1 r1) (hk10 : ∀ u : Nat × Int32 × Int32 × Int32 × kS, KF [26, 27] [55] [53, 54] [] [] S0 u.2.2.2.2 → k10 u → k10' u) {x0 : Nat} {x2 : Int32} {x4 : Int32} {x5 : Int32} {x6 : Int32} {x7 : Int32} {x8 : Int32} {S : kS} (hF : KF [26, 27] [55] [53, 54] [] [] S0 S) (h : wT_X8_readsFirst_93 K k10 x0 x2 x4 x5 x6 x7 x8 S) : wT_X8_readsFirst_93 K' k10' x0 x2 x4 x5 x6 x7 x8 S := by
  unfold wT_X8_readsFirst_93 at h ⊢
  refine ⟨fun c => ?_, fun c => ?_⟩
  · replace h := h.1 c
    exact kmT_X8_readsFirst_112 hk hk10 hF h
  · replace h := h.2 c
    refine ⟨fun c => ?_, fun c => ?_⟩
    · replace h := h.1 c
      exact kmT_X8_readsFirst_119 hk hk10 hF h
    · replace h := h.2 c
      refine ⟨fun c => ?_, fun c => ?_⟩
      · replace h := h.1 c
        exact kmT_X8_readsFirst_119 hk hk10 hF h
      · replace h := h.2 c
        exact kmT_X8_readsFirst_112 hk hk10 hF h
theorem kmT_X8_readsFirst_78 {K K' : kS → Int32 → Prop} {k10 k10' : Nat × Int32 × Int32 × Int32 × kS → Prop} {S0 : kS} (hk : ∀ S1 r1, KF [26, 27] [55] [53, 54] [] [] S0 S1 → K S1 r1 → K' S1 r1) (hk10 : ∀ u : Nat × Int32 × Int32 × Int32 × kS, KF [26, 27] [55] [53, 54] [] [] S0 u.2.2.2.2 → k10 u → k10' u) {x0 : Nat} {x2 : Int32} {x4 : Int32} {x5 : Int32} {x6 : Int32} {x7 : Int32} {y0 : Int32} {S : kS} (hF : KF [26, 27] [55] [53, 54] [] [] S0 S) (h : wT_X8_readsFirst_78 K k10 x0 x2 x4 x5 x6 x7 y0 S) : wT_X8_readsFirst_78 K' k10' x0 x2 x4 x5 x6 x7 y0 S := by
  unfold wT_X8_readsFirst_78 at h ⊢
  refine ⟨fun c => ?_, fun c => ?_⟩
  · replace h := h.1 c
    exact kmT_X8_readsFirst_93 hk hk10 hF h
  · replace h := h.2 c
    refine ⟨fun c => ?_, fun c => ?_⟩
    · replace h := h.1 c
      exact kmT_X8_readsFirst_93 hk hk10 hF h
    · replace h := h.2 c
      exact hk _ _ hF h
theorem kmT_X8_readsFirst_10 {K K' : kS → Int32 → Prop} {k10 k10' : Nat × Int32 × Int32 × Int32 × kS → Prop} {S0 : kS} (hk : ∀ S1 r1, KF [26, 27] [55] [53, 54] [] [] S0 S1 → K S1 r1 → K' S1 r1) (hk10 : ∀ u : Nat × Int32 × Int32 × Int32 × kS, KF [26, 27] [55] [53, 54] [] [] S0 u.2.2.2.2 → k10 u → k10' u) {x0 : Nat} {x2 : Int32} {x4 : Int32} {x5 : Int32} {S : kS} (hF : KF [26, 27] [55] [53, 54] [] [] S0 S) (h : wT_X8_readsFirst_10 K k10 x0 x2 x4 x5 S) : wT_X8_readsFirst_10 K' k10' x0 x2 x4 x5 S := by
  unfold wT_X8_readsFirst_10 at h ⊢
  refine ⟨fun c => ?_, fun c => ?_⟩
  · replace h := h.1 c
    exact hk _ _ hF h
  · replace h := h.2 c
    intro z3 ez3
    replace h := h z3 ez3
    refine ⟨fun c => ?_, fun c => ?_⟩
    · replace h := h.1 c
      exact hk _ _ hF h
    · replace h := h.2 c
      intro z5 ez5
      replace h := h z5 ez5
      intro z6 ez6
      replace h := h z6 ez6
      intro S7 eS7
      replace h := h S7 eS7
      replace hF := KF_i hF eS7 (by decide)
      intro z8 ez8
      replace h := h z8 ez8
      intro z9 ez9
      replace h := h z9 ez9
      intro q10 eq10
      replace h := h q10 eq10
      refine ⟨h.1, ?_⟩
      replace h := h.2
      intro z11 ez11
      replace h := h z11 ez11
      intro z12 ez12
      replace h := h z12 ez12
      obtain ⟨q13, eq13, h9⟩ := h
      replace h := h9
      clear h9
      refine ⟨q13, eq13, ?_⟩
      intro z14 ez14
      replace h := h z14 ez14
      intro q15 eq15
      replace h := h q15 eq15
      refine ⟨h.1, ?_⟩
      replace h := h.2
      intro z16 ez16
      replace h := h z16 ez16
      intro z17 ez17
      replace h := h z17 ez17
      obtain ⟨q18, eq18, h9⟩ := h
      replace h := h9
      clear h9
      refine ⟨q18, eq18, ?_⟩
      intro z19 ez19
      replace h := h z19 ez19
      intro q20 eq20
      replace h := h q20 eq20
      refine ⟨h.1, ?_⟩
      replace h := h.2
      intro z21 ez21
      replace h := h z21 ez21
      refine ⟨fun c => ?_, fun c => ?_⟩
      · replace h := h.1 c
        exact kmT_X8_readsFirst_78 hk hk10 hF h
      · replace h := h.2 c
        exact kmT_X8_readsFirst_78 hk hk10 hF h
theorem kmlT_X8_readsFirst_10 {K K' : kS → Int32 → Prop} {S0 : kS} (hk : ∀ S1 r1, KF [26, 27] [55] [53, 54] [] [] S0 S1 → K S1 r1 → K' S1 r1) : ∀ (n : Nat) (u : Nat × Int32 × Int32 × Int32 × kS), KF [26, 27] [55] [53, 54] [] [] S0 u.2.2.2.2 → it (lT_X8_readsFirst_10 K) n u → it (lT_X8_readsFirst_10 K') n u := by
  intro n
  induction n with
  | zero => exact fun _ _ h => h
  | succ n ih => exact fun u hF h => kmT_X8_readsFirst_10 hk ih hF h
theorem kmT_X8_readsFirst (t0 : Nat) (a0 : Nat) (a1 : Int32) (a2 : Int32) (a3 : Int32) : KmI [26, 27] [55] [53, 54] [] [] (wT_X8_readsFirst t0 a0 a1 a2 a3) := by
  intro S0 K K' hk h
  have hF : KF [26, 27] [55] [53, 54] [] [] S0 S0 := KF_rf
  unfold wT_X8_readsFirst at h ⊢
  refine kmT_X8_set _ _ _ _ _ _ _ (fun S1 hG h => ?_) h
  replace hF := KF_t hF hG (by decide) (by decide) (by decide) (by decide) (by decide) (by decide) (by decide) (by decide)
  obtain ⟨n9, h⟩ := h
  exact ⟨n9, kmlT_X8_readsFirst_10 hk n9 _ hF h⟩
theorem kmT_X11_live (t0 : Nat) (a0 : Int32) (a1 : Int32) (a2 : Int32) : KmI [26, 27] [55] [53, 54] [] [] (wT_X11_live t0 a0 a1 a2) := by
  intro S0 K K' hk h
  have hF : KF [26, 27] [55] [53, 54] [] [] S0 S0 := KF_rf
  unfold wT_X11_live at h ⊢
  intro z1 ez1
  replace h := h z1 ez1
  obtain ⟨q2, eq2, h9⟩ := h
  replace h := h9
  clear h9
  refine ⟨q2, eq2, ?_⟩
  refine kmT_X5_hasState _ _ _ _ _ _ (fun S3 r3 hG h => ?_) h
  replace hF := KF_t hF hG (by decide) (by decide) (by decide) (by decide) (by decide) (by decide) (by decide) (by decide)
  refine ⟨fun c => ?_, fun c => ?_⟩
  · replace h := h.1 c
    exact hk _ _ hF h
  · replace h := h.2 c
    refine ⟨fun c => ?_, fun c => ?_⟩
    · replace h := h.1 c
      exact hk _ _ hF h
    · replace h := h.2 c
      intro z6 ez6
      replace h := h z6 ez6
      obtain ⟨q7, eq7, h9⟩ := h
      replace h := h9
      clear h9
      refine ⟨q7, eq7, ?_⟩
      intro z8 ez8
      replace h := h z8 ez8
      intro q9 eq9
      replace h := h q9 eq9
      refine ⟨h.1, ?_⟩
      replace h := h.2
      intro z10 ez10
      replace h := h z10 ez10
      refine ⟨fun c => ?_, fun c => ?_⟩
      · replace h := h.1 c
        intro z12 ez12
        replace h := h z12 ez12
        intro z13 ez13
        replace h := h z13 ez13
        intro q14 eq14
        replace h := h q14 eq14
        obtain ⟨q15, eq15, h9⟩ := h
        replace h := h9
        clear h9
        refine ⟨q15, eq15, ?_⟩
        refine kmT_X8_readsFirst _ _ _ _ _ _ _ _ (fun S16 r16 hG h => ?_) h
        replace hF := KF_t hF hG (by decide) (by decide) (by decide) (by decide) (by decide) (by decide) (by decide) (by decide)
        refine ⟨fun c => ?_, fun c => ?_⟩
        · replace h := h.1 c
          exact hk _ _ hF h
        · replace h := h.2 c
          exact hk _ _ hF h
      · replace h := h.2 c
        exact hk _ _ hF h
theorem kmT_X11_lost (t0 : Nat) (a0 : Int32) (a1 : Int32) : KmI [] [] [] [] [] (wT_X11_lost t0 a0 a1) := by
  intro S0 K K' hk h
  have hF : KF [] [] [] [] [] S0 S0 := KF_rf
  unfold wT_X11_lost at h ⊢
  intro z1 ez1
  replace h := h z1 ez1
  intro q2 eq2
  replace h := h q2 eq2
  intro z3 ez3
  replace h := h z3 ez3
  intro q4 eq4
  replace h := h q4 eq4
  refine kmT_X0_tell _ _ _ _ _ _ (fun S5 r5 hG h => ?_) h
  replace hF := KF_t hF hG (by decide) (by decide) (by decide) (by decide) (by decide) (by decide) (by decide) (by decide)
  exact hk _ _ hF h
theorem kmT_X8_leadsTo_110 {K K' : kS → Int32 → Prop} {k10 k10' : Nat × Int32 × Int32 × Int32 × kS → Prop} {S0 : kS} (hk : ∀ S1 r1, KF [26, 27] [55] [53, 54] [] [] S0 S1 → K S1 r1 → K' S1 r1) (hk10 : ∀ u : Nat × Int32 × Int32 × Int32 × kS, KF [26, 27] [55] [53, 54] [] [] S0 u.2.2.2.2 → k10 u → k10' u) {x0 : Nat} {x2 : Int32} {x4 : Int32} {x5 : Int32} {S : kS} (hF : KF [26, 27] [55] [53, 54] [] [] S0 S) (h : wT_X8_leadsTo_110 K k10 x0 x2 x4 x5 S) : wT_X8_leadsTo_110 K' k10' x0 x2 x4 x5 S := by
  unfold wT_X8_leadsTo_110 at h ⊢
  intro z20 ez20
  replace h := h z20 ez20
  exact hk10 _ hF h
theorem kmT_X8_leadsTo_105 {K K' : kS → Int32 → Prop} {k10 k10' : Nat × Int32 × Int32 × Int32 × kS → Prop} {S0 : kS} (hk : ∀ S1 r1, KF [26, 27] [55] [53, 54] [] [] S0 S1 → K S1 r1 → K' S1 r1) (hk10 : ∀ u : Nat × Int32 × Int32 × Int32 × kS, KF [26, 27] [55] [53, 54] [] [] S0 u.2.2.2.2 → k10 u → k10' u) {x0 : Nat} {x2 : Int32} {x4 : Int32} {x5 : Int32} {y0 : Int32} {y1 : Int32} {S : kS} (hF : KF [26, 27] [55] [53, 54] [] [] S0 S) (h : wT_X8_leadsTo_105 K k10 x0 x2 x4 x5 y0 y1 S) : wT_X8_leadsTo_105 K' k10' x0 x2 x4 x5 y0 y1 S := by
  unfold wT_X8_leadsTo_105 at h ⊢
  refine ⟨fun c => ?_, fun c => ?_⟩
  · replace h := h.1 c
    exact kmT_X8_leadsTo_110 hk hk10 hF h
  · replace h := h.2 c
    exact hk _ _ hF h
theorem kmT_X8_leadsTo_82 {K K' : kS → Int32 → Prop} {k10 k10' : Nat × Int32 × Int32 × Int32 × kS → Prop} {S0 : kS} (hk : ∀ S1 r1, KF [26, 27] [55] [53, 54] [] [] S0 S1 → K S1 r1 → K' S1 r1) (hk10 : ∀ u : Nat × Int32 × Int32 × Int32 × kS, KF [26, 27] [55] [53, 54] [] [] S0 u.2.2.2.2 → k10 u → k10' u) {x0 : Nat} {x2 : Int32} {x4 : Int32} {x5 : Int32} {x6 : Int32} {x7 : Int32} {S : kS} (hF : KF [26, 27] [55] [53, 54] [] [] S0 S) (h : wT_X8_leadsTo_82 K k10 x0 x2 x4 x5 x6 x7 S) : wT_X8_leadsTo_82 K' k10' x0 x2 x4 x5 x6 x7 S := by
  unfold wT_X8_leadsTo_82 at h ⊢
  refine ⟨fun c => ?_, fun c => ?_⟩
  · replace h := h.1 c
    intro z22 ez22
    replace h := h z22 ez22
    obtain ⟨q23, eq23, h9⟩ := h
    replace h := h9
    clear h9
    refine ⟨q23, eq23, ?_⟩
    intro z24 ez24
    replace h := h z24 ez24
    intro q25 eq25
    replace h := h q25 eq25
    refine ⟨h.1, ?_⟩
    replace h := h.2
    intro z26 ez26
    replace h := h z26 ez26
    exact kmT_X8_leadsTo_105 hk hk10 hF h
  · replace h := h.2 c
    exact kmT_X8_leadsTo_105 hk hk10 hF h
theorem kmT_X8_leadsTo_10 {K K' : kS → Int32 → Prop} {k10 k10' : Nat × Int32 × Int32 × Int32 × kS → Prop} {S0 : kS} (hk : ∀ S1 r1, KF [26, 27] [55] [53, 54] [] [] S0 S1 → K S1 r1 → K' S1 r1) (hk10 : ∀ u : Nat × Int32 × Int32 × Int32 × kS, KF [26, 27] [55] [53, 54] [] [] S0 u.2.2.2.2 → k10 u → k10' u) {x0 : Nat} {x2 : Int32} {x4 : Int32} {x5 : Int32} {S : kS} (hF : KF [26, 27] [55] [53, 54] [] [] S0 S) (h : wT_X8_leadsTo_10 K k10 x0 x2 x4 x5 S) : wT_X8_leadsTo_10 K' k10' x0 x2 x4 x5 S := by
  unfold wT_X8_leadsTo_10 at h ⊢
  refine ⟨fun c => ?_, fun c => ?_⟩
  · replace h := h.1 c
    exact hk _ _ hF h
  · replace h := h.2 c
    intro z3 ez3
    replace h := h z3 ez3
    refine ⟨fun c => ?_, fun c => ?_⟩
    · replace h := h.1 c
      exact hk _ _ hF h
    · replace h := h.2 c
      intro z5 ez5
      replace h := h z5 ez5
      intro z6 ez6
      replace h := h z6 ez6
      intro S7 eS7
      replace h := h S7 eS7
      replace hF := KF_i hF eS7 (by decide)
      intro z8 ez8
      replace h := h z8 ez8
      intro z9 ez9
      replace h := h z9 ez9
      intro q10 eq10
      replace h := h q10 eq10
      refine ⟨h.1, ?_⟩
      replace h := h.2
      intro z11 ez11
      replace h := h z11 ez11
      intro z12 ez12
      replace h := h z12 ez12
      obtain ⟨q13, eq13, h9⟩ := h
      replace h := h9
      clear h9
      refine ⟨q13, eq13, ?_⟩
      intro z14 ez14
      replace h := h z14 ez14
      intro q15 eq15
      replace h := h q15 eq15
      refine ⟨h.1, ?_⟩
      replace h := h.2
      intro z16 ez16
      replace h := h z16 ez16
      refine ⟨fun c => ?_, fun c => ?_⟩
      · replace h := h.1 c
        exact kmT_X8_leadsTo_82 hk hk10 hF h
      · replace h := h.2 c
        refine ⟨fun c => ?_, fun c => ?_⟩
        · replace h := h.1 c
          exact kmT_X8_leadsTo_82 hk hk10 hF h
        · replace h := h.2 c
          refine kmT_X8_follow _ _ _ _ _ _ (fun S19 hG h => ?_) h
          replace hF := KF_t hF hG (by decide) (by decide) (by decide) (by decide) (by decide) (by decide) (by decide) (by decide)
          exact kmT_X8_leadsTo_110 hk hk10 hF h
theorem kmlT_X8_leadsTo_10 {K K' : kS → Int32 → Prop} {S0 : kS} (hk : ∀ S1 r1, KF [26, 27] [55] [53, 54] [] [] S0 S1 → K S1 r1 → K' S1 r1) : ∀ (n : Nat) (u : Nat × Int32 × Int32 × Int32 × kS), KF [26, 27] [55] [53, 54] [] [] S0 u.2.2.2.2 → it (lT_X8_leadsTo_10 K) n u → it (lT_X8_leadsTo_10 K') n u := by
  intro n
  induction n with
  | zero => exact fun _ _ h => h
  | succ n ih => exact fun u hF h => kmT_X8_leadsTo_10 hk ih hF h
theorem kmT_X8_leadsTo (t0 : Nat) (a0 : Nat) (a1 : Int32) (a2 : Int32) (a3 : Int32) : KmI [26, 27] [55] [53, 54] [] [] (wT_X8_leadsTo t0 a0 a1 a2 a3) := by
  intro S0 K K' hk h
  have hF : KF [26, 27] [55] [53, 54] [] [] S0 S0 := KF_rf
  unfold wT_X8_leadsTo at h ⊢
  refine kmT_X8_set _ _ _ _ _ _ _ (fun S1 hG h => ?_) h
  replace hF := KF_t hF hG (by decide) (by decide) (by decide) (by decide) (by decide) (by decide) (by decide) (by decide)
  obtain ⟨n9, h⟩ := h
  exact ⟨n9, kmlT_X8_leadsTo_10 hk n9 _ hF h⟩
theorem kmT_X11_next (t0 : Nat) (a0 : Int32) (a1 : Int32) (a2 : Int32) : KmI [26, 27] [55] [53, 54] [] [] (wT_X11_next t0 a0 a1 a2) := by
  intro S0 K K' hk h
  have hF : KF [26, 27] [55] [53, 54] [] [] S0 S0 := KF_rf
  unfold wT_X11_next at h ⊢
  intro z1 ez1
  replace h := h z1 ez1
  obtain ⟨q2, eq2, h9⟩ := h
  replace h := h9
  clear h9
  refine ⟨q2, eq2, ?_⟩
  refine kmT_X5_hasState _ _ _ _ _ _ (fun S3 r3 hG h => ?_) h
  replace hF := KF_t hF hG (by decide) (by decide) (by decide) (by decide) (by decide) (by decide) (by decide) (by decide)
  refine ⟨fun c => ?_, fun c => ?_⟩
  · replace h := h.1 c
    exact hk _ _ hF h
  · replace h := h.2 c
    intro z5 ez5
    replace h := h z5 ez5
    obtain ⟨q6, eq6, h9⟩ := h
    replace h := h9
    clear h9
    refine ⟨q6, eq6, ?_⟩
    refine kmT_X5_hasState _ _ _ _ _ _ (fun S7 r7 hG h => ?_) h
    replace hF := KF_t hF hG (by decide) (by decide) (by decide) (by decide) (by decide) (by decide) (by decide) (by decide)
    refine ⟨fun c => ?_, fun c => ?_⟩
    · replace h := h.1 c
      intro z9 ez9
      replace h := h z9 ez9
      intro z10 ez10
      replace h := h z10 ez10
      intro q11 eq11
      replace h := h q11 eq11
      obtain ⟨q12, eq12, h9⟩ := h
      replace h := h9
      clear h9
      refine ⟨q12, eq12, ?_⟩
      refine kmT_X8_leadsTo _ _ _ _ _ _ _ _ (fun S13 r13 hG h => ?_) h
      replace hF := KF_t hF hG (by decide) (by decide) (by decide) (by decide) (by decide) (by decide) (by decide) (by decide)
      refine ⟨fun c => ?_, fun c => ?_⟩
      · replace h := h.1 c
        exact hk _ _ hF h
      · replace h := h.2 c
        exact hk _ _ hF h
    · replace h := h.2 c
      exact hk _ _ hF h
theorem kmT_X11_put (t0 : Nat) (a0 : Int32) (a1 : Int32) : KmI [] [] [] [] [] (wT_X11_put t0 a0 a1) := by
  intro S0 K K' hk h
  have hF : KF [] [] [] [] [] S0 S0 := KF_rf
  unfold wT_X11_put at h ⊢
  intro z1 ez1
  replace h := h z1 ez1
  intro q2 eq2
  replace h := h q2 eq2
  intro z3 ez3
  replace h := h z3 ez3
  intro q4 eq4
  replace h := h q4 eq4
  refine kmT_X0_tell _ _ _ _ _ _ (fun S5 r5 hG h => ?_) h
  replace hF := KF_t hF hG (by decide) (by decide) (by decide) (by decide) (by decide) (by decide) (by decide) (by decide)
  exact hk _ _ hF h
theorem kmT_X11_row (t0 : Nat) (a0 : Int32) : KmI [] [] [] [] [] (wT_X11_row t0 a0) := by
  intro S0 K K' hk h
  have hF : KF [] [] [] [] [] S0 S0 := KF_rf
  unfold wT_X11_row at h ⊢
  refine ⟨fun c => ?_, fun c => ?_⟩
  · replace h := h.1 c
    exact hk _ _ hF h
  · replace h := h.2 c
    intro z2 ez2
    replace h := h z2 ez2
    intro q3 eq3
    replace h := h q3 eq3
    intro z4 ez4
    replace h := h z4 ez4
    refine ⟨fun c => ?_, fun c => ?_⟩
    · replace h := h.1 c
      intro z6 ez6
      replace h := h z6 ez6
      intro q7 eq7
      replace h := h q7 eq7
      intro z8 ez8
      replace h := h z8 ez8
      intro q9 eq9
      replace h := h q9 eq9
      refine ⟨h.1, ?_⟩
      replace h := h.2
      intro z10 ez10
      replace h := h z10 ez10
      exact hk _ _ hF h
    · replace h := h.2 c
      exact hk _ _ hF h
