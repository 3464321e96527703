
theorem fm_works (a0 : Int32) (a1 : Int32) (a2 : Int32) : FmV [22, 23, 25, 26, 27, 28, 29, 30, 31, 32, 34, 35, 36, 37] [51, 52, 53, 54, 55, 56, 57, 58, 59, 60, 61, 62, 63, 64, 65, 66, 67, 68, 69, 70, 71, 72, 73, 74, 75, 76, 77, 78, 79, 80, 81, 82, 83, 84, 85, 87, 88] [86] (wp_works a0 a1 a2) := by
  intro S0 K K' hk h
  have hF : Fr [22, 23, 25, 26, 27, 28, 29, 30, 31, 32, 34, 35, 36, 37] [51, 52, 53, 54, 55, 56, 57, 58, 59, 60, 61, 62, 63, 64, 65, 66, 67, 68, 69, 70, 71, 72, 73, 74, 75, 76, 77, 78, 79, 80, 81, 82, 83, 84, 85, 87, 88] [86] S0 S0 := Fr_rf
  unfold wp_works at h ⊢
  refine ⟨fun c => ?_, fun c => ?_⟩
  · replace h := h.1 c
    refine fq_ends _ _ _ _ _ _ (fun S2 hG h => ?_) h
    replace hF := Fr_t hF hG (by decide) (by decide) (by decide)
    exact hk _ hF h
  · replace h := h.2 c
    refine ⟨fun c => ?_, fun c => ?_⟩
    · replace h := h.1 c
      refine fm_step _ _ _ (fun S4 r4 hG h => ?_) h
      replace hF := Fr_t hF hG (by decide) (by decide) (by decide)
      refine ⟨fun c => ?_, fun c => ?_⟩
      · replace h := h.1 c
        exact hk _ hF h
      · replace h := h.2 c
        refine fm_spent _ _ _ (fun S6 hG h => ?_) h
        replace hF := Fr_t hF hG (by decide) (by decide) (by decide)
        exact hk _ hF h
    · replace h := h.2 c
      refine ⟨fun c => ?_, fun c => ?_⟩
      · replace h := h.1 c
        refine ⟨fun c => ?_, fun c => ?_⟩
        · replace h := h.1 c
          refine fm_reckons _ _ _ _ _ (fun S9 hG h => ?_) h
          replace hF := Fr_t hF hG (by decide) (by decide) (by decide)
          exact hk _ hF h
        · replace h := h.2 c
          refine fm_worksWait _ _ _ _ _ _ (fun S10 hG h => ?_) h
          replace hF := Fr_t hF hG (by decide) (by decide) (by decide)
          exact hk _ hF h
      · replace h := h.2 c
        refine ⟨fun c => ?_, fun c => ?_⟩
        · replace h := h.1 c
          refine ⟨fun c => ?_, fun c => ?_⟩
          · replace h := h.1 c
            refine fm_reckons _ _ _ _ _ (fun S13 hG h => ?_) h
            replace hF := Fr_t hF hG (by decide) (by decide) (by decide)
            exact hk _ hF h
          · replace h := h.2 c
            refine fm_worksWait _ _ _ _ _ _ (fun S14 hG h => ?_) h
            replace hF := Fr_t hF hG (by decide) (by decide) (by decide)
            exact hk _ hF h
        · replace h := h.2 c
          refine ⟨fun c => ?_, fun c => ?_⟩
          · replace h := h.1 c
            refine ⟨fun c => ?_, fun c => ?_⟩
            · replace h := h.1 c
              refine fm_reckons _ _ _ _ _ (fun S17 hG h => ?_) h
              replace hF := Fr_t hF hG (by decide) (by decide) (by decide)
              exact hk _ hF h
            · replace h := h.2 c
              refine fm_worksWait _ _ _ _ _ _ (fun S18 hG h => ?_) h
              replace hF := Fr_t hF hG (by decide) (by decide) (by decide)
              exact hk _ hF h
          · replace h := h.2 c
            refine ⟨fun c => ?_, fun c => ?_⟩
            · replace h := h.1 c
              refine ⟨fun c => ?_, fun c => ?_⟩
              · replace h := h.1 c
                refine fm_reckons _ _ _ _ _ (fun S21 hG h => ?_) h
                replace hF := Fr_t hF hG (by decide) (by decide) (by decide)
                exact hk _ hF h
              · replace h := h.2 c
                refine fm_worksWait _ _ _ _ _ _ (fun S22 hG h => ?_) h
                replace hF := Fr_t hF hG (by decide) (by decide) (by decide)
                exact hk _ hF h
            · replace h := h.2 c
              refine ⟨fun c => ?_, fun c => ?_⟩
              · replace h := h.1 c
                refine ⟨fun c => ?_, fun c => ?_⟩
                · replace h := h.1 c
                  refine fm_reckons _ _ _ _ _ (fun S25 hG h => ?_) h
                  replace hF := Fr_t hF hG (by decide) (by decide) (by decide)
                  exact hk _ hF h
                · replace h := h.2 c
                  refine fm_worksWait _ _ _ _ _ _ (fun S26 hG h => ?_) h
                  replace hF := Fr_t hF hG (by decide) (by decide) (by decide)
                  exact hk _ hF h
              · replace h := h.2 c
                refine ⟨fun c => ?_, fun c => ?_⟩
                · replace h := h.1 c
                  refine ⟨fun c => ?_, fun c => ?_⟩
                  · replace h := h.1 c
                    refine fm_reckons _ _ _ _ _ (fun S29 hG h => ?_) h
                    replace hF := Fr_t hF hG (by decide) (by decide) (by decide)
                    exact hk _ hF h
                  · replace h := h.2 c
                    refine fm_worksWait _ _ _ _ _ _ (fun S30 hG h => ?_) h
                    replace hF := Fr_t hF hG (by decide) (by decide) (by decide)
                    exact hk _ hF h
                · replace h := h.2 c
                  refine ⟨fun c => ?_, fun c => ?_⟩
                  · replace h := h.1 c
                    refine ⟨fun c => ?_, fun c => ?_⟩
                    · replace h := h.1 c
                      refine fm_reckons _ _ _ _ _ (fun S33 hG h => ?_) h
                      replace hF := Fr_t hF hG (by decide) (by decide) (by decide)
                      exact hk _ hF h
                    · replace h := h.2 c
                      refine fm_worksWait _ _ _ _ _ _ (fun S34 hG h => ?_) h
                      replace hF := Fr_t hF hG (by decide) (by decide) (by decide)
                      exact hk _ hF h
                  · replace h := h.2 c
                    refine ⟨fun c => ?_, fun c => ?_⟩
                    · replace h := h.1 c
                      refine ⟨fun c => ?_, fun c => ?_⟩
                      · replace h := h.1 c
                        refine fm_reckons _ _ _ _ _ (fun S37 hG h => ?_) h
                        replace hF := Fr_t hF hG (by decide) (by decide) (by decide)
                        exact hk _ hF h
                      · replace h := h.2 c
                        refine fm_worksWait _ _ _ _ _ _ (fun S38 hG h => ?_) h
                        replace hF := Fr_t hF hG (by decide) (by decide) (by decide)
                        exact hk _ hF h
                    · replace h := h.2 c
                      refine ⟨fun c => ?_, fun c => ?_⟩
                      · replace h := h.1 c
                        refine ⟨fun c => ?_, fun c => ?_⟩
                        · replace h := h.1 c
                          refine fm_reckons _ _ _ _ _ (fun S41 hG h => ?_) h
                          replace hF := Fr_t hF hG (by decide) (by decide) (by decide)
                          exact hk _ hF h
                        · replace h := h.2 c
                          refine fm_worksWait _ _ _ _ _ _ (fun S42 hG h => ?_) h
                          replace hF := Fr_t hF hG (by decide) (by decide) (by decide)
                          exact hk _ hF h
                      · replace h := h.2 c
                        refine ⟨fun c => ?_, fun c => ?_⟩
                        · replace h := h.1 c
                          refine ⟨fun c => ?_, fun c => ?_⟩
                          · replace h := h.1 c
                            refine fm_reckons _ _ _ _ _ (fun S45 hG h => ?_) h
                            replace hF := Fr_t hF hG (by decide) (by decide) (by decide)
                            exact hk _ hF h
                          · replace h := h.2 c
                            refine fm_worksWait _ _ _ _ _ _ (fun S46 hG h => ?_) h
                            replace hF := Fr_t hF hG (by decide) (by decide) (by decide)
                            exact hk _ hF h
                        · replace h := h.2 c
                          refine ⟨fun c => ?_, fun c => ?_⟩
                          · replace h := h.1 c
                            refine ⟨fun c => ?_, fun c => ?_⟩
                            · replace h := h.1 c
                              refine fm_reckons _ _ _ _ _ (fun S49 hG h => ?_) h
                              replace hF := Fr_t hF hG (by decide) (by decide) (by decide)
                              exact hk _ hF h
                            · replace h := h.2 c
                              refine fm_worksWait _ _ _ _ _ _ (fun S50 hG h => ?_) h
                              replace hF := Fr_t hF hG (by decide) (by decide) (by decide)
                              exact hk _ hF h
                          · replace h := h.2 c
                            refine ⟨fun c => ?_, fun c => ?_⟩
                            · replace h := h.1 c
                              intro z52 e
                              replace h := h z52 e
                              intro z53 e
                              replace h := h z53 e
                              refine fm_pop _ _ _ (fun S54 r54 hG h => ?_) h
                              replace hF := Fr_t hF hG (by decide) (by decide) (by decide)
                              refine ⟨h.1, ?_⟩
                              replace h := h.2
                              intro S55 e
                              replace h := h S55 e
                              replace hF := Fr_f hF e (by decide)
                              exact hk _ hF h
                            · replace h := h.2 c
                              refine ⟨fun c => ?_, fun c => ?_⟩
                              · replace h := h.1 c
                                refine fm_pop _ _ _ (fun S57 r57 hG h => ?_) h
                                replace hF := Fr_t hF hG (by decide) (by decide) (by decide)
                                refine fm_notePut _ _ _ _ (fun S58 hG h => ?_) h
                                replace hF := Fr_t hF hG (by decide) (by decide) (by decide)
                                exact hk _ hF h
                              · replace h := h.2 c
                                refine ⟨fun c => ?_, fun c => ?_⟩
                                · replace h := h.1 c
                                  refine fm_pop _ _ _ (fun S60 r60 hG h => ?_) h
                                  replace hF := Fr_t hF hG (by decide) (by decide) (by decide)
                                  refine ⟨fun c => ?_, fun c => ?_⟩
                                  · replace h := h.1 c
                                    intro S62 e
                                    replace h := h S62 e
                                    replace hF := Fr_z hF e (by decide)
                                    exact hk _ hF h
                                  · replace h := h.2 c
                                    intro S63 e
                                    replace h := h S63 e
                                    replace hF := Fr_z hF e (by decide)
                                    exact hk _ hF h
                                · replace h := h.2 c
                                  refine ⟨fun c => ?_, fun c => ?_⟩
                                  · replace h := h.1 c
                                    intro S65 e
                                    replace h := h S65 e
                                    replace hF := Fr_z hF e (by decide)
                                    exact hk _ hF h
                                  · replace h := h.2 c
                                    refine ⟨fun c => ?_, fun c => ?_⟩
                                    · replace h := h.1 c
                                      refine fm_raise _ _ _ _ (fun S67 hG h => ?_) h
                                      replace hF := Fr_t hF hG (by decide) (by decide) (by decide)
                                      exact hk _ hF h
                                    · replace h := h.2 c
                                      refine ⟨fun c => ?_, fun c => ?_⟩
                                      · replace h := h.1 c
                                        refine fm_pop _ _ _ (fun S69 r69 hG h => ?_) h
                                        replace hF := Fr_t hF hG (by decide) (by decide) (by decide)
                                        refine fm_leave _ _ _ _ _ (fun S70 hG h => ?_) h
                                        replace hF := Fr_t hF hG (by decide) (by decide) (by decide)
                                        exact hk _ hF h
                                      · replace h := h.2 c
                                        refine ⟨fun c => ?_, fun c => ?_⟩
                                        · replace h := h.1 c
                                          refine fm_leave _ _ _ _ _ (fun S72 hG h => ?_) h
                                          replace hF := Fr_t hF hG (by decide) (by decide) (by decide)
                                          exact hk _ hF h
                                        · replace h := h.2 c
                                          refine ⟨fun c => ?_, fun c => ?_⟩
                                          · replace h := h.1 c
                                            refine fm_leave _ _ _ _ _ (fun S74 hG h => ?_) h
                                            replace hF := Fr_t hF hG (by decide) (by decide) (by decide)
                                            exact hk _ hF h
                                          · replace h := h.2 c
                                            refine ⟨fun c => ?_, fun c => ?_⟩
                                            · replace h := h.1 c
                                              refine fm_enter _ _ _ _ (fun S76 hG h => ?_) h
                                              replace hF := Fr_t hF hG (by decide) (by decide) (by decide)
                                              exact hk _ hF h
                                            · replace h := h.2 c
                                              refine ⟨fun c => ?_, fun c => ?_⟩
                                              · replace h := h.1 c
                                                refine fm_leavePart _ _ _ _ (fun S78 hG h => ?_) h
                                                replace hF := Fr_t hF hG (by decide) (by decide) (by decide)
                                                exact hk _ hF h
                                              · replace h := h.2 c
                                                refine ⟨fun c => ?_, fun c => ?_⟩
                                                · replace h := h.1 c
                                                  refine fm_finished _ _ _ _ (fun S80 hG h => ?_) h
                                                  replace hF := Fr_t hF hG (by decide) (by decide) (by decide)
                                                  exact hk _ hF h
                                                · replace h := h.2 c
                                                  refine ⟨fun c => ?_, fun c => ?_⟩
                                                  · replace h := h.1 c
                                                    refine fm_reckons _ _ _ _ _ (fun S82 hG h => ?_) h
                                                    replace hF := Fr_t hF hG (by decide) (by decide) (by decide)
                                                    exact hk _ hF h
                                                  · replace h := h.2 c
                                                    refine fm_worksWait _ _ _ _ _ _ (fun S83 hG h => ?_) h
                                                    replace hF := Fr_t hF hG (by decide) (by decide) (by decide)
                                                    exact hk _ hF h
theorem fm_runs_179 {K K' : mS → Prop} {k179 k179' : mS → Prop} {S0 : mS} (hk : ∀ S1, Fr [22, 23, 25, 26, 27, 28, 29, 30, 31, 32, 33, 34, 35, 36, 37] [51, 52, 53, 54, 55, 56, 57, 58, 59, 60, 61, 62, 63, 64, 65, 66, 67, 68, 69, 70, 71, 72, 73, 74, 75, 76, 77, 78, 79, 80, 81, 82, 83, 84, 85, 87, 88] [86] S0 S1 → K S1 → K' S1) (hk179 : ∀ u : mS, Fr [22, 23, 25, 26, 27, 28, 29, 30, 31, 32, 33, 34, 35, 36, 37] [51, 52, 53, 54, 55, 56, 57, 58, 59, 60, 61, 62, 63, 64, 65, 66, 67, 68, 69, 70, 71, 72, 73, 74, 75, 76, 77, 78, 79, 80, 81, 82, 83, 84, 85, 87, 88] [86] S0 u → k179 u → k179' u) {S : mS} (hF : Fr [22, 23, 25, 26, 27, 28, 29, 30, 31, 32, 33, 34, 35, 36, 37] [51, 52, 53, 54, 55, 56, 57, 58, 59, 60, 61, 62, 63, 64, 65, 66, 67, 68, 69, 70, 71, 72, 73, 74, 75, 76, 77, 78, 79, 80, 81, 82, 83, 84, 85, 87, 88] [86] S0 S) (h : wp_runs_179 K k179 S) : wp_runs_179 K' k179' S := by
  unfold wp_runs_179 at h ⊢
  refine ⟨h.1, ?_⟩
  replace h := h.2
  intro z29 e
  replace h := h z29 e
  refine ⟨fun c => ?_, fun c => ?_⟩
  · replace h := h.1 c
    exact hk _ hF h
  · replace h := h.2 c
    intro z31 e
    replace h := h z31 e
    intro S32 e
    replace h := h S32 e
    replace hF := Fr_z hF e (by decide)
    refine ⟨h.1, ?_⟩
    replace h := h.2
    intro z33 e
    replace h := h z33 e
    refine ⟨h.1, ?_⟩
    replace h := h.2
    intro z34 e
    replace h := h z34 e
    refine ⟨h.1, ?_⟩
    replace h := h.2
    intro z35 e
    replace h := h z35 e
    refine fm_works _ _ _ _ _ _ (fun S36 hG h => ?_) h
    replace hF := Fr_t hF hG (by decide) (by decide) (by decide)
    exact hk179 _ hF h
theorem fml_runs_179 {K K' : mS → Prop} {S0 : mS} (hk : ∀ S1, Fr [22, 23, 25, 26, 27, 28, 29, 30, 31, 32, 33, 34, 35, 36, 37] [51, 52, 53, 54, 55, 56, 57, 58, 59, 60, 61, 62, 63, 64, 65, 66, 67, 68, 69, 70, 71, 72, 73, 74, 75, 76, 77, 78, 79, 80, 81, 82, 83, 84, 85, 87, 88] [86] S0 S1 → K S1 → K' S1) : ∀ (n : Nat) (u : mS), Fr [22, 23, 25, 26, 27, 28, 29, 30, 31, 32, 33, 34, 35, 36, 37] [51, 52, 53, 54, 55, 56, 57, 58, 59, 60, 61, 62, 63, 64, 65, 66, 67, 68, 69, 70, 71, 72, 73, 74, 75, 76, 77, 78, 79, 80, 81, 82, 83, 84, 85, 87, 88] [86] S0 u → it (ls_runs_179 K) n u → it (ls_runs_179 K') n u := by
  intro n
  induction n with
  | zero => exact fun _ _ h => h
  | succ n ih => exact fun u hF h => fm_runs_179 hk ih hF h
theorem fm_runs_149 {K K' : mS → Prop} {S0 : mS} (hk : ∀ S1, Fr [22, 23, 25, 26, 27, 28, 29, 30, 31, 32, 33, 34, 35, 36, 37] [51, 52, 53, 54, 55, 56, 57, 58, 59, 60, 61, 62, 63, 64, 65, 66, 67, 68, 69, 70, 71, 72, 73, 74, 75, 76, 77, 78, 79, 80, 81, 82, 83, 84, 85, 87, 88] [86] S0 S1 → K S1 → K' S1) {x3 : Int32} {S : mS} (hF : Fr [22, 23, 25, 26, 27, 28, 29, 30, 31, 32, 33, 34, 35, 36, 37] [51, 52, 53, 54, 55, 56, 57, 58, 59, 60, 61, 62, 63, 64, 65, 66, 67, 68, 69, 70, 71, 72, 73, 74, 75, 76, 77, 78, 79, 80, 81, 82, 83, 84, 85, 87, 88] [86] S0 S) (h : wp_runs_149 K x3 S) : wp_runs_149 K' x3 S := by
  unfold wp_runs_149 at h ⊢
  refine ⟨fun c => ?_, fun c => ?_⟩
  · replace h := h.1 c
    refine ⟨fun c => ?_, fun c => ?_⟩
    · replace h := h.1 c
      obtain ⟨n9, h⟩ := h
      exact ⟨n9, fml_runs_179 hk n9 _ hF h⟩
    · replace h := h.2 c
      refine fm_raiseCancel _ _ _ (fun S26 hG h => ?_) h
      replace hF := Fr_t hF hG (by decide) (by decide) (by decide)
      obtain ⟨n9, h⟩ := h
      exact ⟨n9, fml_runs_179 hk n9 _ hF h⟩
  · replace h := h.2 c
    refine ⟨h.1, ?_⟩
    replace h := h.2
    intro z27 e
    replace h := h z27 e
    refine fm_raise _ _ _ _ (fun S28 hG h => ?_) h
    replace hF := Fr_t hF hG (by decide) (by decide) (by decide)
    obtain ⟨n9, h⟩ := h
    exact ⟨n9, fml_runs_179 hk n9 _ hF h⟩
theorem fm_runs_37 {K K' : mS → Prop} {S0 : mS} (hk : ∀ S1, Fr [22, 23, 25, 26, 27, 28, 29, 30, 31, 32, 33, 34, 35, 36, 37] [51, 52, 53, 54, 55, 56, 57, 58, 59, 60, 61, 62, 63, 64, 65, 66, 67, 68, 69, 70, 71, 72, 73, 74, 75, 76, 77, 78, 79, 80, 81, 82, 83, 84, 85, 87, 88] [86] S0 S1 → K S1 → K' S1) {y0 : Int32} {S : mS} (hF : Fr [22, 23, 25, 26, 27, 28, 29, 30, 31, 32, 33, 34, 35, 36, 37] [51, 52, 53, 54, 55, 56, 57, 58, 59, 60, 61, 62, 63, 64, 65, 66, 67, 68, 69, 70, 71, 72, 73, 74, 75, 76, 77, 78, 79, 80, 81, 82, 83, 84, 85, 87, 88] [86] S0 S) (h : wp_runs_37 K y0 S) : wp_runs_37 K' y0 S := by
  unfold wp_runs_37 at h ⊢
  refine ⟨h.1, ?_⟩
  replace h := h.2
  intro z7 e
  replace h := h z7 e
  intro z8 e
  replace h := h z8 e
  refine ⟨h.1, ?_⟩
  replace h := h.2
  intro S9 e
  replace h := h S9 e
  replace hF := Fr_f hF e (by decide)
  refine ⟨h.1, ?_⟩
  replace h := h.2
  intro S10 e
  replace h := h S10 e
  replace hF := Fr_f hF e (by decide)
  refine ⟨h.1, ?_⟩
  replace h := h.2
  intro z11 e
  replace h := h z11 e
  intro S12 e
  replace h := h S12 e
  replace hF := Fr_z hF e (by decide)
  refine ⟨fun c => ?_, fun c => ?_⟩
  · replace h := h.1 c
    obtain ⟨n9, h⟩ := h
    exact ⟨n9, fml_runs_179 hk n9 _ hF h⟩
  · replace h := h.2 c
    refine ⟨h.1, ?_⟩
    replace h := h.2
    intro z14 e
    replace h := h z14 e
    refine ⟨h.1, ?_⟩
    replace h := h.2
    intro S15 e
    replace h := h S15 e
    replace hF := Fr_f hF e (by decide)
    refine ⟨fun c => ?_, fun c => ?_⟩
    · replace h := h.1 c
      exact fm_runs_149 hk hF h
    · replace h := h.2 c
      refine ⟨h.1, ?_⟩
      replace h := h.2
      intro z17 e
      replace h := h z17 e
      refine ⟨fun c => ?_, fun c => ?_⟩
      · replace h := h.1 c
        exact fm_runs_149 hk hF h
      · replace h := h.2 c
        intro z19 e
        replace h := h z19 e
        refine ⟨h.1, ?_⟩
        replace h := h.2
        intro z20 e
        replace h := h z20 e
        intro z21 e
        replace h := h z21 e
        refine ⟨h.1, ?_⟩
        replace h := h.2
        intro z22 e
        replace h := h z22 e
        refine ⟨h.1, ?_⟩
        replace h := h.2
        intro S23 e
        replace h := h S23 e
        replace hF := Fr_f hF e (by decide)
        obtain ⟨n9, h⟩ := h
        exact ⟨n9, fml_runs_179 hk n9 _ hF h⟩
theorem fm_runs (a0 : Int32) : FmV [22, 23, 25, 26, 27, 28, 29, 30, 31, 32, 33, 34, 35, 36, 37] [51, 52, 53, 54, 55, 56, 57, 58, 59, 60, 61, 62, 63, 64, 65, 66, 67, 68, 69, 70, 71, 72, 73, 74, 75, 76, 77, 78, 79, 80, 81, 82, 83, 84, 85, 87, 88] [86] (wp_runs a0) := by
  intro S0 K K' hk h
  have hF : Fr [22, 23, 25, 26, 27, 28, 29, 30, 31, 32, 33, 34, 35, 36, 37] [51, 52, 53, 54, 55, 56, 57, 58, 59, 60, 61, 62, 63, 64, 65, 66, 67, 68, 69, 70, 71, 72, 73, 74, 75, 76, 77, 78, 79, 80, 81, 82, 83, 84, 85, 87, 88] [86] S0 S0 := Fr_rf
  unfold wp_runs at h ⊢
  intro S1 e
  replace h := h S1 e
  replace hF := Fr_z hF e (by decide)
  intro S2 e
  replace h := h S2 e
  replace hF := Fr_z hF e (by decide)
  intro S3 e
  replace h := h S3 e
  replace hF := Fr_z hF e (by decide)
  intro S4 e
  replace h := h S4 e
  replace hF := Fr_z hF e (by decide)
  refine ⟨h.1, ?_⟩
  replace h := h.2
  intro z5 e
  replace h := h z5 e
  refine ⟨fun c => ?_, fun c => ?_⟩
  · replace h := h.1 c
    exact fm_runs_37 hk hF h
  · replace h := h.2 c
    exact fm_runs_37 hk hF h
theorem fm_rounds_20 {K K' : mS → Int32 → Prop} {k20 k20' : Int32 × Int32 × mS → Prop} {S0 : mS} (hk : ∀ S1 r1, Fr [0, 22, 23, 25, 26, 27, 28, 29, 30, 31, 32, 33, 34, 35, 36, 37] [51, 52, 53, 54, 55, 56, 57, 58, 59, 60, 61, 62, 63, 64, 65, 66, 67, 68, 69, 70, 71, 72, 73, 74, 75, 76, 77, 78, 79, 80, 81, 82, 83, 84, 85, 87, 88] [86] S0 S1 → K S1 r1 → K' S1 r1) (hk20 : ∀ u : Int32 × Int32 × mS, Fr [0, 22, 23, 25, 26, 27, 28, 29, 30, 31, 32, 33, 34, 35, 36, 37] [51, 52, 53, 54, 55, 56, 57, 58, 59, 60, 61, 62, 63, 64, 65, 66, 67, 68, 69, 70, 71, 72, 73, 74, 75, 76, 77, 78, 79, 80, 81, 82, 83, 84, 85, 87, 88] [86] S0 u.2.2 → k20 u → k20' u) {x1 : Int32} {x2 : Int32} {S : mS} (hF : Fr [0, 22, 23, 25, 26, 27, 28, 29, 30, 31, 32, 33, 34, 35, 36, 37] [51, 52, 53, 54, 55, 56, 57, 58, 59, 60, 61, 62, 63, 64, 65, 66, 67, 68, 69, 70, 71, 72, 73, 74, 75, 76, 77, 78, 79, 80, 81, 82, 83, 84, 85, 87, 88] [86] S0 S) (h : wp_rounds_20 K k20 x1 x2 S) : wp_rounds_20 K' k20' x1 x2 S := by
  unfold wp_rounds_20 at h ⊢
  refine ⟨fun c => ?_, fun c => ?_⟩
  · replace h := h.1 c
    exact hk _ _ hF h
  · replace h := h.2 c
    refine ⟨fun c => ?_, fun c => ?_⟩
    · replace h := h.1 c
      exact hk _ _ hF h
    · replace h := h.2 c
      refine ⟨h.1, ?_⟩
      replace h := h.2
      intro z6 e
      replace h := h z6 e
      refine fm_outOfRow _ _ _ _ (fun S7 hG h => ?_) h
      replace hF := Fr_t hF hG (by decide) (by decide) (by decide)
      refine fm_runs _ _ _ _ (fun S8 hG h => ?_) h
      replace hF := Fr_t hF hG (by decide) (by decide) (by decide)
      intro z9 e
      replace h := h z9 e
      exact hk20 _ hF h
theorem fml_rounds_20 {K K' : mS → Int32 → Prop} {S0 : mS} (hk : ∀ S1 r1, Fr [0, 22, 23, 25, 26, 27, 28, 29, 30, 31, 32, 33, 34, 35, 36, 37] [51, 52, 53, 54, 55, 56, 57, 58, 59, 60, 61, 62, 63, 64, 65, 66, 67, 68, 69, 70, 71, 72, 73, 74, 75, 76, 77, 78, 79, 80, 81, 82, 83, 84, 85, 87, 88] [86] S0 S1 → K S1 r1 → K' S1 r1) : ∀ (n : Nat) (u : Int32 × Int32 × mS), Fr [0, 22, 23, 25, 26, 27, 28, 29, 30, 31, 32, 33, 34, 35, 36, 37] [51, 52, 53, 54, 55, 56, 57, 58, 59, 60, 61, 62, 63, 64, 65, 66, 67, 68, 69, 70, 71, 72, 73, 74, 75, 76, 77, 78, 79, 80, 81, 82, 83, 84, 85, 87, 88] [86] S0 u.2.2 → it (ls_rounds_20 K) n u → it (ls_rounds_20 K') n u := by
  intro n
  induction n with
  | zero => exact fun _ _ h => h
  | succ n ih => exact fun u hF h => fm_rounds_20 hk ih hF h
theorem fm_rounds (a0 : Int32) : FmI [0, 22, 23, 25, 26, 27, 28, 29, 30, 31, 32, 33, 34, 35, 36, 37] [51, 52, 53, 54, 55, 56, 57, 58, 59, 60, 61, 62, 63, 64, 65, 66, 67, 68, 69, 70, 71, 72, 73, 74, 75, 76, 77, 78, 79, 80, 81, 82, 83, 84, 85, 87, 88] [86] (wp_rounds a0) := by
  intro S0 K K' hk h
  have hF : Fr [0, 22, 23, 25, 26, 27, 28, 29, 30, 31, 32, 33, 34, 35, 36, 37] [51, 52, 53, 54, 55, 56, 57, 58, 59, 60, 61, 62, 63, 64, 65, 66, 67, 68, 69, 70, 71, 72, 73, 74, 75, 76, 77, 78, 79, 80, 81, 82, 83, 84, 85, 87, 88] [86] S0 S0 := Fr_rf
  unfold wp_rounds at h ⊢
  intro S1 e
  replace h := h S1 e
  replace hF := Fr_z hF e (by decide)
  refine ⟨fun c => ?_, fun c => ?_⟩
  · replace h := h.1 c
    exact hk _ _ hF h
  · replace h := h.2 c
    refine ⟨fun c => ?_, fun c => ?_⟩
    · replace h := h.1 c
      obtain ⟨n9, h⟩ := h
      exact ⟨n9, fml_rounds_20 hk n9 _ hF h⟩
    · replace h := h.2 c
      exact hk _ _ hF h
theorem fm_routine_32 {K K' : mS → Int32 → Prop} {S0 : mS} (hk : ∀ S1 r1, Fr [0] [] [] S0 S1 → K S1 r1 → K' S1 r1) {x1 : Int32} {x2 : Int32} {y1 : Int32} {S : mS} (hF : Fr [0] [] [] S0 S) (h : wp_routine_32 K x1 x2 y1 S) : wp_routine_32 K' x1 x2 y1 S := by
  unfold wp_routine_32 at h ⊢
  intro S6 e
  replace h := h S6 e
  replace hF := Fr_z hF e (by decide)
  refine ⟨fun c => ?_, fun c => ?_⟩
  · replace h := h.1 c
    intro z8 e
    replace h := h z8 e
    intro z9 e
    replace h := h z9 e
    refine ⟨fun c => ?_, fun c => ?_⟩
    · replace h := h.1 c
      refine ⟨fun c => ?_, fun c => ?_⟩
      · replace h := h.1 c
        refine ⟨h.1, ?_⟩
        replace h := h.2
        intro z12 e
        replace h := h z12 e
        intro z13 e
        replace h := h z13 e
        exact hk _ _ hF h
      · replace h := h.2 c
        refine ⟨h.1, ?_⟩
        replace h := h.2
        intro z14 e
        replace h := h z14 e
        exact hk _ _ hF h
    · replace h := h.2 c
      refine ⟨h.1, ?_⟩
      replace h := h.2
      intro z15 e
      replace h := h z15 e
      exact hk _ _ hF h
  · replace h := h.2 c
    exact hk _ _ hF h
theorem fm_routine_31 {K K' : mS → Int32 → Prop} {S0 : mS} (hk : ∀ S1 r1, Fr [0] [] [] S0 S1 → K S1 r1 → K' S1 r1) {x1 : Int32} {x2 : Int32} {S : mS} (hF : Fr [0] [] [] S0 S) (h : wp_routine_31 K x1 x2 S) : wp_routine_31 K' x1 x2 S := by
  unfold wp_routine_31 at h ⊢
  exact fm_routine_32 hk hF h
theorem fm_routine (a0 : Int32) (a1 : Int32) : FmI [0] [] [] (wp_routine a0 a1) := by
  intro S0 K K' hk h
  have hF : Fr [0] [] [] S0 S0 := Fr_rf
  unfold wp_routine at h ⊢
  refine ⟨fun c => ?_, fun c => ?_⟩
  · replace h := h.1 c
    exact fm_routine_31 hk hF h
  · replace h := h.2 c
    refine ⟨h.1, ?_⟩
    replace h := h.2
    intro z2 e
    replace h := h z2 e
    refine ⟨fun c => ?_, fun c => ?_⟩
    · replace h := h.1 c
      exact fm_routine_31 hk hF h
    · replace h := h.2 c
      refine ⟨fun c => ?_, fun c => ?_⟩
      · replace h := h.1 c
        exact fm_routine_31 hk hF h
      · replace h := h.2 c
        refine ⟨fun c => ?_, fun c => ?_⟩
        · replace h := h.1 c
          exact fm_routine_31 hk hF h
        · replace h := h.2 c
          exact fm_routine_32 hk hF h
theorem fm_row (a0 : Int32) : FmI [0] [] [] (wp_row a0) := by
  intro S0 K K' hk h
  have hF : Fr [0] [] [] S0 S0 := Fr_rf
  unfold wp_row at h ⊢
  intro S1 e
  replace h := h S1 e
  replace hF := Fr_z hF e (by decide)
  refine ⟨fun c => ?_, fun c => ?_⟩
  · replace h := h.1 c
    exact hk _ _ hF h
  · replace h := h.2 c
    refine ⟨fun c => ?_, fun c => ?_⟩
    · replace h := h.1 c
      refine ⟨h.1, ?_⟩
      replace h := h.2
      intro z4 e
      replace h := h z4 e
      exact hk _ _ hF h
    · replace h := h.2 c
      exact hk _ _ hF h
theorem fm_stands_69 {K K' : mS → Int32 → Prop} {k10 k10' : Int32 × Int32 × Int32 × Int32 × mS → Prop} {S0 : mS} (hk : ∀ S1 r1, Fr [0] [] [] S0 S1 → K S1 r1 → K' S1 r1) (hk10 : ∀ u : Int32 × Int32 × Int32 × Int32 × mS, Fr [0] [] [] S0 u.2.2.2.2 → k10 u → k10' u) {x1 : Int32} {x2 : Int32} {x3 : Int32} {x4 : Int32} {S : mS} (hF : Fr [0] [] [] S0 S) (h : wp_stands_69 K k10 x1 x2 x3 x4 S) : wp_stands_69 K' k10' x1 x2 x3 x4 S := by
  unfold wp_stands_69 at h ⊢
  intro z12 e
  replace h := h z12 e
  exact hk10 _ hF h
theorem fm_stands_10 {K K' : mS → Int32 → Prop} {k10 k10' : Int32 × Int32 × Int32 × Int32 × mS → Prop} {S0 : mS} (hk : ∀ S1 r1, Fr [0] [] [] S0 S1 → K S1 r1 → K' S1 r1) (hk10 : ∀ u : Int32 × Int32 × Int32 × Int32 × mS, Fr [0] [] [] S0 u.2.2.2.2 → k10 u → k10' u) {x1 : Int32} {x2 : Int32} {x3 : Int32} {x4 : Int32} {S : mS} (hF : Fr [0] [] [] S0 S) (h : wp_stands_10 K k10 x1 x2 x3 x4 S) : wp_stands_10 K' k10' x1 x2 x3 x4 S := by
  unfold wp_stands_10 at h ⊢
  refine ⟨fun c => ?_, fun c => ?_⟩
  · replace h := h.1 c
    exact hk _ _ hF h
  · replace h := h.2 c
    refine ⟨fun c => ?_, fun c => ?_⟩
    · replace h := h.1 c
      exact hk _ _ hF h
    · replace h := h.2 c
      refine ⟨h.1, ?_⟩
      replace h := h.2
      intro z4 e
      replace h := h z4 e
      refine ⟨h.1, ?_⟩
      replace h := h.2
      intro z5 e
      replace h := h z5 e
      refine ⟨fun c => ?_, fun c => ?_⟩
      · replace h := h.1 c
        exact fm_stands_69 hk hk10 hF h
      · replace h := h.2 c
        refine ⟨h.1, ?_⟩
        replace h := h.2
        intro z7 e
        replace h := h z7 e
        refine ⟨fun c => ?_, fun c => ?_⟩
        · replace h := h.1 c
          exact fm_stands_69 hk hk10 hF h
        · replace h := h.2 c
          refine ⟨fun c => ?_, fun c => ?_⟩
          · replace h := h.1 c
            intro z10 e
            replace h := h z10 e
            exact fm_stands_69 hk hk10 hF h
          · replace h := h.2 c
            refine ⟨h.1, ?_⟩
            replace h := h.2
            intro z11 e
            replace h := h z11 e
            exact hk _ _ hF h
theorem fml_stands_10 {K K' : mS → Int32 → Prop} {S0 : mS} (hk : ∀ S1 r1, Fr [0] [] [] S0 S1 → K S1 r1 → K' S1 r1) : ∀ (n : Nat) (u : Int32 × Int32 × Int32 × Int32 × mS), Fr [0] [] [] S0 u.2.2.2.2 → it (ls_stands_10 K) n u → it (ls_stands_10 K') n u := by
  intro n
  induction n with
  | zero => exact fun _ _ h => h
  | succ n ih => exact fun u hF h => fm_stands_10 hk ih hF h
theorem fm_stands (a0 : Int32) (a1 : Int32) : FmI [0] [] [] (wp_stands a0 a1) := by
  intro S0 K K' hk h
  have hF : Fr [0] [] [] S0 S0 := Fr_rf
  unfold wp_stands at h ⊢
  intro S1 e
  replace h := h S1 e
  replace hF := Fr_z hF e (by decide)
  obtain ⟨n9, h⟩ := h
  exact ⟨n9, fml_stands_10 hk n9 _ hF h⟩
theorem fm_task_24 {K K' : mS → Int32 → Prop} {S0 : mS} (hk : ∀ S1 r1, Fr [0] [] [] S0 S1 → K S1 r1 → K' S1 r1) {x1 : Int32} {x2 : Int32} {y1 : Int32} {S : mS} (hF : Fr [0] [] [] S0 S) (h : wp_task_24 K x1 x2 y1 S) : wp_task_24 K' x1 x2 y1 S := by
  unfold wp_task_24 at h ⊢
  intro S5 e
  replace h := h S5 e
  replace hF := Fr_z hF e (by decide)
  refine ⟨fun c => ?_, fun c => ?_⟩
  · replace h := h.1 c
    refine ⟨fun c => ?_, fun c => ?_⟩
    · replace h := h.1 c
      refine ⟨h.1, ?_⟩
      replace h := h.2
      intro z8 e
      replace h := h z8 e
      exact hk _ _ hF h
    · replace h := h.2 c
      refine ⟨fun c => ?_, fun c => ?_⟩
      · replace h := h.1 c
        refine ⟨h.1, ?_⟩
        replace h := h.2
        intro z10 e
        replace h := h z10 e
        exact hk _ _ hF h
      · replace h := h.2 c
        refine ⟨fun c => ?_, fun c => ?_⟩
        · replace h := h.1 c
          refine ⟨h.1, ?_⟩
          replace h := h.2
          intro z12 e
          replace h := h z12 e
          exact hk _ _ hF h
        · replace h := h.2 c
          refine ⟨fun c => ?_, fun c => ?_⟩
          · replace h := h.1 c
            refine ⟨h.1, ?_⟩
            replace h := h.2
            intro z14 e
            replace h := h z14 e
            exact hk _ _ hF h
          · replace h := h.2 c
            refine ⟨fun c => ?_, fun c => ?_⟩
            · replace h := h.1 c
              refine ⟨h.1, ?_⟩
              replace h := h.2
              intro z16 e
              replace h := h z16 e
              exact hk _ _ hF h
            · replace h := h.2 c
              refine ⟨fun c => ?_, fun c => ?_⟩
              · replace h := h.1 c
                refine ⟨h.1, ?_⟩
                replace h := h.2
                intro z18 e
                replace h := h z18 e
                exact hk _ _ hF h
              · replace h := h.2 c
                refine ⟨fun c => ?_, fun c => ?_⟩
                · replace h := h.1 c
                  refine ⟨h.1, ?_⟩
                  replace h := h.2
                  intro z20 e
                  replace h := h z20 e
                  exact hk _ _ hF h
                · replace h := h.2 c
                  refine ⟨h.1, ?_⟩
                  replace h := h.2
                  intro z21 e
                  replace h := h z21 e
                  refine ⟨fun c => ?_, fun c => ?_⟩
                  · replace h := h.1 c
                    exact hk _ _ hF h
                  · replace h := h.2 c
                    exact hk _ _ hF h
  · replace h := h.2 c
    exact hk _ _ hF h
theorem fm_task_23 {K K' : mS → Int32 → Prop} {S0 : mS} (hk : ∀ S1 r1, Fr [0] [] [] S0 S1 → K S1 r1 → K' S1 r1) {x1 : Int32} {x2 : Int32} {S : mS} (hF : Fr [0] [] [] S0 S) (h : wp_task_23 K x1 x2 S) : wp_task_23 K' x1 x2 S := by
  unfold wp_task_23 at h ⊢
  exact fm_task_24 hk hF h
theorem fm_task (a0 : Int32) (a1 : Int32) : FmI [0] [] [] (wp_task a0 a1) := by
  intro S0 K K' hk h
  have hF : Fr [0] [] [] S0 S0 := Fr_rf
  unfold wp_task at h ⊢
  refine fm_isTask _ _ _ _ (fun S1 r1 hG h => ?_) h
  replace hF := Fr_t hF hG (by decide) (by decide) (by decide)
  refine ⟨fun c => ?_, fun c => ?_⟩
  · replace h := h.1 c
    exact fm_task_23 hk hF h
  · replace h := h.2 c
    refine ⟨fun c => ?_, fun c => ?_⟩
    · replace h := h.1 c
      exact fm_task_23 hk hF h
    · replace h := h.2 c
      refine ⟨fun c => ?_, fun c => ?_⟩
      · replace h := h.1 c
        exact fm_task_23 hk hF h
      · replace h := h.2 c
        exact fm_task_24 hk hF h
theorem fm_tick_116 {K K' : mS → Int32 → Prop} {k25 k25' : Int32 × mS → Prop} {k116 k116' : Int32 × Int32 × mS → Prop} {S0 : mS} (hk : ∀ S1 r1, Fr [0, 23, 24, 28, 30] [54, 55, 56, 61, 62, 63, 67, 73, 76, 77, 83, 84, 87] [] S0 S1 → K S1 r1 → K' S1 r1) (hk25 : ∀ u : Int32 × mS, Fr [0, 23, 24, 28, 30] [54, 55, 56, 61, 62, 63, 67, 73, 76, 77, 83, 84, 87] [] S0 u.2 → k25 u → k25' u) (hk116 : ∀ u : Int32 × Int32 × mS, Fr [0, 23, 24, 28, 30] [54, 55, 56, 61, 62, 63, 67, 73, 76, 77, 83, 84, 87] [] S0 u.2.2 → k116 u → k116' u) {x2 : Int32} {x5 : Int32} {S : mS} (hF : Fr [0, 23, 24, 28, 30] [54, 55, 56, 61, 62, 63, 67, 73, 76, 77, 83, 84, 87] [] S0 S) (h : wp_tick_116 K k25 k116 x2 x5 S) : wp_tick_116 K' k25' k116' x2 x5 S := by
  unfold wp_tick_116 at h ⊢
  refine ⟨fun c => ?_, fun c => ?_⟩
  · replace h := h.1 c
    exact hk25 _ hF h
  · replace h := h.2 c
    refine fm_standsNoMore _ _ _ _ (fun S24 hG h => ?_) h
    replace hF := Fr_t hF hG (by decide) (by decide) (by decide)
    refine fq_decides _ _ _ _ _ _ (fun S25 hG h => ?_) h
    replace hF := Fr_t hF hG (by decide) (by decide) (by decide)
    intro z26 e
    replace h := h z26 e
    refine fm_due _ _ _ _ (fun S27 r27 hG h => ?_) h
    replace hF := Fr_t hF hG (by decide) (by decide) (by decide)
    exact hk116 _ hF h
theorem fml_tick_116 {K K' : mS → Int32 → Prop} {k25 k25' : Int32 × mS → Prop} {S0 : mS} (hk : ∀ S1 r1, Fr [0, 23, 24, 28, 30] [54, 55, 56, 61, 62, 63, 67, 73, 76, 77, 83, 84, 87] [] S0 S1 → K S1 r1 → K' S1 r1) (hk25 : ∀ u : Int32 × mS, Fr [0, 23, 24, 28, 30] [54, 55, 56, 61, 62, 63, 67, 73, 76, 77, 83, 84, 87] [] S0 u.2 → k25 u → k25' u) : ∀ (n : Nat) (u : Int32 × Int32 × mS), Fr [0, 23, 24, 28, 30] [54, 55, 56, 61, 62, 63, 67, 73, 76, 77, 83, 84, 87] [] S0 u.2.2 → it (ls_tick_116 K k25) n u → it (ls_tick_116 K' k25') n u := by
  intro n
  induction n with
  | zero => exact fun _ _ h => h
  | succ n ih => exact fun u hF h => fm_tick_116 hk hk25 ih hF h
theorem fm_tick_92 {K K' : mS → Int32 → Prop} {k25 k25' : Int32 × mS → Prop} {k40 k40' : Int32 × Int64 × Int32 × mS → Prop} {S0 : mS} (hk : ∀ S1 r1, Fr [0, 23, 24, 28, 30] [54, 55, 56, 61, 62, 63, 67, 73, 76, 77, 83, 84, 87] [] S0 S1 → K S1 r1 → K' S1 r1) (hk25 : ∀ u : Int32 × mS, Fr [0, 23, 24, 28, 30] [54, 55, 56, 61, 62, 63, 67, 73, 76, 77, 83, 84, 87] [] S0 u.2 → k25 u → k25' u) (hk40 : ∀ u : Int32 × Int64 × Int32 × mS, Fr [0, 23, 24, 28, 30] [54, 55, 56, 61, 62, 63, 67, 73, 76, 77, 83, 84, 87] [] S0 u.2.2.2 → k40 u → k40' u) {x2 : Int32} {x5 : Int32} {y0 : Int64} {S : mS} (hF : Fr [0, 23, 24, 28, 30] [54, 55, 56, 61, 62, 63, 67, 73, 76, 77, 83, 84, 87] [] S0 S) (h : wp_tick_92 K k25 k40 x2 x5 y0 S) : wp_tick_92 K' k25' k40' x2 x5 y0 S := by
  unfold wp_tick_92 at h ⊢
  intro z22 e
  replace h := h z22 e
  exact hk40 _ hF h
theorem fm_tick_91 {K K' : mS → Int32 → Prop} {k25 k25' : Int32 × mS → Prop} {k40 k40' : Int32 × Int64 × Int32 × mS → Prop} {S0 : mS} (hk : ∀ S1 r1, Fr [0, 23, 24, 28, 30] [54, 55, 56, 61, 62, 63, 67, 73, 76, 77, 83, 84, 87] [] S0 S1 → K S1 r1 → K' S1 r1) (hk25 : ∀ u : Int32 × mS, Fr [0, 23, 24, 28, 30] [54, 55, 56, 61, 62, 63, 67, 73, 76, 77, 83, 84, 87] [] S0 u.2 → k25 u → k25' u) (hk40 : ∀ u : Int32 × Int64 × Int32 × mS, Fr [0, 23, 24, 28, 30] [54, 55, 56, 61, 62, 63, 67, 73, 76, 77, 83, 84, 87] [] S0 u.2.2.2 → k40 u → k40' u) {x2 : Int32} {x3 : Int64} {x5 : Int32} {S : mS} (hF : Fr [0, 23, 24, 28, 30] [54, 55, 56, 61, 62, 63, 67, 73, 76, 77, 83, 84, 87] [] S0 S) (h : wp_tick_91 K k25 k40 x2 x3 x5 S) : wp_tick_91 K' k25' k40' x2 x3 x5 S := by
  unfold wp_tick_91 at h ⊢
  exact fm_tick_92 hk hk25 hk40 hF h
theorem fm_tick_40 {K K' : mS → Int32 → Prop} {k25 k25' : Int32 × mS → Prop} {k40 k40' : Int32 × Int64 × Int32 × mS → Prop} {S0 : mS} (hk : ∀ S1 r1, Fr [0, 23, 24, 28, 30] [54, 55, 56, 61, 62, 63, 67, 73, 76, 77, 83, 84, 87] [] S0 S1 → K S1 r1 → K' S1 r1) (hk25 : ∀ u : Int32 × mS, Fr [0, 23, 24, 28, 30] [54, 55, 56, 61, 62, 63, 67, 73, 76, 77, 83, 84, 87] [] S0 u.2 → k25 u → k25' u) (hk40 : ∀ u : Int32 × Int64 × Int32 × mS, Fr [0, 23, 24, 28, 30] [54, 55, 56, 61, 62, 63, 67, 73, 76, 77, 83, 84, 87] [] S0 u.2.2.2 → k40 u → k40' u) {x2 : Int32} {x3 : Int64} {x5 : Int32} {S : mS} (hF : Fr [0, 23, 24, 28, 30] [54, 55, 56, 61, 62, 63, 67, 73, 76, 77, 83, 84, 87] [] S0 S) (h : wp_tick_40 K k25 k40 x2 x3 x5 S) : wp_tick_40 K' k25' k40' x2 x3 x5 S := by
  unfold wp_tick_40 at h ⊢
  refine ⟨fun c => ?_, fun c => ?_⟩
  · replace h := h.1 c
    intro z11 e
    replace h := h z11 e
    intro S12 e
    replace h := h S12 e
    replace hF := Fr_z hF e (by decide)
    intro z13 e
    replace h := h z13 e
    refine fm_due _ _ _ _ (fun S14 r14 hG h => ?_) h
    replace hF := Fr_t hF hG (by decide) (by decide) (by decide)
    obtain ⟨n9, h⟩ := h
    exact ⟨n9, fml_tick_116 hk hk25 n9 _ hF h⟩
  · replace h := h.2 c
    refine ⟨h.1, ?_⟩
    replace h := h.2
    intro z15 e
    replace h := h z15 e
    refine ⟨h.1, ?_⟩
    replace h := h.2
    intro z16 e
    replace h := h z16 e
    refine ⟨fun c => ?_, fun c => ?_⟩
    · replace h := h.1 c
      exact fm_tick_91 hk hk25 hk40 hF h
    · replace h := h.2 c
      refine ⟨h.1, ?_⟩
      replace h := h.2
      intro z18 e
      replace h := h z18 e
      intro z19 e
      replace h := h z19 e
      refine ⟨fun c => ?_, fun c => ?_⟩
      · replace h := h.1 c
        exact fm_tick_91 hk hk25 hk40 hF h
      · replace h := h.2 c
        refine ⟨h.1, ?_⟩
        replace h := h.2
        intro z21 e
        replace h := h z21 e
        exact fm_tick_92 hk hk25 hk40 hF h
theorem fml_tick_40 {K K' : mS → Int32 → Prop} {k25 k25' : Int32 × mS → Prop} {S0 : mS} (hk : ∀ S1 r1, Fr [0, 23, 24, 28, 30] [54, 55, 56, 61, 62, 63, 67, 73, 76, 77, 83, 84, 87] [] S0 S1 → K S1 r1 → K' S1 r1) (hk25 : ∀ u : Int32 × mS, Fr [0, 23, 24, 28, 30] [54, 55, 56, 61, 62, 63, 67, 73, 76, 77, 83, 84, 87] [] S0 u.2 → k25 u → k25' u) : ∀ (n : Nat) (u : Int32 × Int64 × Int32 × mS), Fr [0, 23, 24, 28, 30] [54, 55, 56, 61, 62, 63, 67, 73, 76, 77, 83, 84, 87] [] S0 u.2.2.2 → it (ls_tick_40 K k25) n u → it (ls_tick_40 K' k25') n u := by
  intro n
  induction n with
  | zero => exact fun _ _ h => h
  | succ n ih => exact fun u hF h => fm_tick_40 hk hk25 ih hF h
theorem fm_tick_25 {K K' : mS → Int32 → Prop} {k25 k25' : Int32 × mS → Prop} {S0 : mS} (hk : ∀ S1 r1, Fr [0, 23, 24, 28, 30] [54, 55, 56, 61, 62, 63, 67, 73, 76, 77, 83, 84, 87] [] S0 S1 → K S1 r1 → K' S1 r1) (hk25 : ∀ u : Int32 × mS, Fr [0, 23, 24, 28, 30] [54, 55, 56, 61, 62, 63, 67, 73, 76, 77, 83, 84, 87] [] S0 u.2 → k25 u → k25' u) {x2 : Int32} {S : mS} (hF : Fr [0, 23, 24, 28, 30] [54, 55, 56, 61, 62, 63, 67, 73, 76, 77, 83, 84, 87] [] S0 S) (h : wp_tick_25 K k25 x2 S) : wp_tick_25 K' k25' x2 S := by
  unfold wp_tick_25 at h ⊢
  intro z5 e
  replace h := h z5 e
  refine fm_due _ _ _ _ (fun S6 r6 hG h => ?_) h
  replace hF := Fr_t hF hG (by decide) (by decide) (by decide)
  refine ⟨fun c => ?_, fun c => ?_⟩
  · replace h := h.1 c
    intro S8 e
    replace h := h S8 e
    replace hF := Fr_z hF e (by decide)
    exact hk _ _ hF h
  · replace h := h.2 c
    intro z9 e
    replace h := h z9 e
    obtain ⟨n9, h⟩ := h
    exact ⟨n9, fml_tick_40 hk hk25 n9 _ hF h⟩
theorem fml_tick_25 {K K' : mS → Int32 → Prop} {S0 : mS} (hk : ∀ S1 r1, Fr [0, 23, 24, 28, 30] [54, 55, 56, 61, 62, 63, 67, 73, 76, 77, 83, 84, 87] [] S0 S1 → K S1 r1 → K' S1 r1) : ∀ (n : Nat) (u : Int32 × mS), Fr [0, 23, 24, 28, 30] [54, 55, 56, 61, 62, 63, 67, 73, 76, 77, 83, 84, 87] [] S0 u.2 → it (ls_tick_25 K) n u → it (ls_tick_25 K') n u := by
  intro n
  induction n with
  | zero => exact fun _ _ h => h
  | succ n ih => exact fun u hF h => fm_tick_25 hk ih hF h
theorem fm_tick (a0 : Int32) : FmI [0, 23, 24, 28, 30] [54, 55, 56, 61, 62, 63, 67, 73, 76, 77, 83, 84, 87] [] (wp_tick a0) := by
  intro S0 K K' hk h
  have hF : Fr [0, 23, 24, 28, 30] [54, 55, 56, 61, 62, 63, 67, 73, 76, 77, 83, 84, 87] [] S0 S0 := Fr_rf
  unfold wp_tick at h ⊢
  intro S1 e
  replace h := h S1 e
  replace hF := Fr_z hF e (by decide)
  refine ⟨fun c => ?_, fun c => ?_⟩
  · replace h := h.1 c
    exact hk _ _ hF h
  · replace h := h.2 c
    refine ⟨fun c => ?_, fun c => ?_⟩
    · replace h := h.1 c
      intro z4 e
      replace h := h z4 e
      obtain ⟨n9, h⟩ := h
      exact ⟨n9, fml_tick_25 hk n9 _ hF h⟩
    · replace h := h.2 c
      exact hk _ _ hF h
theorem fm_turn (a0 : Int32) : FmI [0, 22, 23, 25, 26, 27, 28, 29, 30, 31, 32, 33, 34, 35, 36, 37] [51, 52, 53, 54, 55, 56, 57, 58, 59, 60, 61, 62, 63, 64, 65, 66, 67, 68, 69, 70, 71, 72, 73, 74, 75, 76, 77, 78, 79, 80, 81, 82, 83, 84, 85, 87, 88] [86] (wp_turn a0) := by
  intro S0 K K' hk h
  have hF : Fr [0, 22, 23, 25, 26, 27, 28, 29, 30, 31, 32, 33, 34, 35, 36, 37] [51, 52, 53, 54, 55, 56, 57, 58, 59, 60, 61, 62, 63, 64, 65, 66, 67, 68, 69, 70, 71, 72, 73, 74, 75, 76, 77, 78, 79, 80, 81, 82, 83, 84, 85, 87, 88] [86] S0 S0 := Fr_rf
  unfold wp_turn at h ⊢
  intro S1 e
  replace h := h S1 e
  replace hF := Fr_z hF e (by decide)
  refine ⟨fun c => ?_, fun c => ?_⟩
  · replace h := h.1 c
    exact hk _ _ hF h
  · replace h := h.2 c
    refine ⟨fun c => ?_, fun c => ?_⟩
    · replace h := h.1 c
      refine ⟨h.1, ?_⟩
      replace h := h.2
      intro z4 e
      replace h := h z4 e
      refine fm_outOfRow _ _ _ _ (fun S5 hG h => ?_) h
      replace hF := Fr_t hF hG (by decide) (by decide) (by decide)
      refine fm_runs _ _ _ _ (fun S6 hG h => ?_) h
      replace hF := Fr_t hF hG (by decide) (by decide) (by decide)
      exact hk _ _ hF h
    · replace h := h.2 c
      exact hk _ _ hF h
