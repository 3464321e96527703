
theorem kmT_X10_read_104 {K K' : kS → Prop} {S0 : kS} (hk : ∀ S1, KF [40, 41] [] [64, 65] [66] [] S0 S1 → K S1 → K' S1) {x0 : Nat} {S : kS} (hF : KF [40, 41] [] [64, 65] [66] [] S0 S) (h : wT_X10_read_104 K x0 S) : wT_X10_read_104 K' x0 S := by
  unfold wT_X10_read_104 at h ⊢
  intro z21 ez21
  replace h := h z21 ez21
  refine kmT_X10_keep _ _ _ _ _ _ _ (fun S22 hG h => ?_) h
  replace hF := KF_t hF hG (by decide) (by decide) (by decide) (by decide) (by decide) (by decide) (by decide) (by decide)
  intro S23 eS23
  replace h := h S23 eS23
  replace hF := KF_i hF eS23 (by decide)
  exact hk _ hF h
theorem kmT_X10_read_98 {K K' : kS → Prop} {k9 k9' : Nat × Int32 × Int32 × kS → Prop} {S0 : kS} (hk : ∀ S1, KF [40, 41] [] [64, 65] [66] [] S0 S1 → K S1 → K' S1) (hk9 : ∀ u : Nat × Int32 × Int32 × kS, KF [40, 41] [] [64, 65] [66] [] S0 u.2.2.2 → k9 u → k9' u) {x0 : Nat} {x1 : Int32} {x2 : Int32} {S : kS} (hF : KF [40, 41] [] [64, 65] [66] [] S0 S) (h : wT_X10_read_98 K k9 x0 x1 x2 S) : wT_X10_read_98 K' k9' x0 x1 x2 S := by
  unfold wT_X10_read_98 at h ⊢
  intro z18 ez18
  replace h := h z18 ez18
  exact hk9 _ hF h
theorem kmT_X10_read_95 {K K' : kS → Prop} {k9 k9' : Nat × Int32 × Int32 × kS → Prop} {S0 : kS} (hk : ∀ S1, KF [40, 41] [] [64, 65] [66] [] S0 S1 → K S1 → K' S1) (hk9 : ∀ u : Nat × Int32 × Int32 × kS, KF [40, 41] [] [64, 65] [66] [] S0 u.2.2.2 → k9 u → k9' u) {x0 : Nat} {x1 : Int32} {x2 : Int32} {S : kS} (hF : KF [40, 41] [] [64, 65] [66] [] S0 S) (h : wT_X10_read_95 K k9 x0 x1 x2 S) : wT_X10_read_95 K' k9' x0 x1 x2 S := by
  unfold wT_X10_read_95 at h ⊢
  intro z20 ez20
  replace h := h z20 ez20
  exact kmT_X10_read_98 hk hk9 hF h
theorem kmT_X10_read_90 {K K' : kS → Prop} {k9 k9' : Nat × Int32 × Int32 × kS → Prop} {S0 : kS} (hk : ∀ S1, KF [40, 41] [] [64, 65] [66] [] S0 S1 → K S1 → K' S1) (hk9 : ∀ u : Nat × Int32 × Int32 × kS, KF [40, 41] [] [64, 65] [66] [] S0 u.2.2.2 → k9 u → k9' u) {x0 : Nat} {x1 : Int32} {x2 : Int32} {y0 : Nat} {y1 : Int32} {S : kS} (hF : KF [40, 41] [] [64, 65] [66] [] S0 S) (h : wT_X10_read_90 K k9 x0 x1 x2 y0 y1 S) : wT_X10_read_90 K' k9' x0 x1 x2 y0 y1 S := by
  unfold wT_X10_read_90 at h ⊢
  refine kmT_X10_keep _ _ _ _ _ _ _ (fun S19 hG h => ?_) h
  replace hF := KF_t hF hG (by decide) (by decide) (by decide) (by decide) (by decide) (by decide) (by decide) (by decide)
  exact kmT_X10_read_95 hk hk9 hF h
theorem kmT_X10_read_9 {K K' : kS → Prop} {k9 k9' : Nat × Int32 × Int32 × kS → Prop} {S0 : kS} (hk : ∀ S1, KF [40, 41] [] [64, 65] [66] [] S0 S1 → K S1 → K' S1) (hk9 : ∀ u : Nat × Int32 × Int32 × kS, KF [40, 41] [] [64, 65] [66] [] S0 u.2.2.2 → k9 u → k9' u) {x0 : Nat} {x1 : Int32} {x2 : Int32} {S : kS} (hF : KF [40, 41] [] [64, 65] [66] [] S0 S) (h : wT_X10_read_9 K k9 x0 x1 x2 S) : wT_X10_read_9 K' k9' x0 x1 x2 S := by
  unfold wT_X10_read_9 at h ⊢
  refine ⟨fun c => ?_, fun c => ?_⟩
  · replace h := h.1 c
    exact kmT_X10_read_104 hk hF h
  · replace h := h.2 c
    intro z3 ez3
    replace h := h z3 ez3
    refine ⟨fun c => ?_, fun c => ?_⟩
    · replace h := h.1 c
      exact kmT_X10_read_104 hk hF h
    · replace h := h.2 c
      intro z5 ez5
      replace h := h z5 ez5
      intro q6 eq6
      replace h := h q6 eq6
      refine ⟨h.1, ?_⟩
      replace h := h.2
      intro z7 ez7
      replace h := h z7 ez7
      refine kmT_X10_isLetter _ _ _ _ (fun S8 r8 hG h => ?_) h
      replace hF := KF_t hF hG (by decide) (by decide) (by decide) (by decide) (by decide) (by decide) (by decide) (by decide)
      refine ⟨fun c => ?_, fun c => ?_⟩
      · replace h := h.1 c
        refine kmT_X10_isDigit _ _ _ _ (fun S10 r10 hG h => ?_) h
        replace hF := KF_t hF hG (by decide) (by decide) (by decide) (by decide) (by decide) (by decide) (by decide) (by decide)
        refine ⟨fun c => ?_, fun c => ?_⟩
        · replace h := h.1 c
          refine ⟨fun c => ?_, fun c => ?_⟩
          · replace h := h.1 c
            exact kmT_X10_read_95 hk hk9 hF h
          · replace h := h.2 c
            refine ⟨fun c => ?_, fun c => ?_⟩
            · replace h := h.1 c
              exact kmT_X10_read_95 hk hk9 hF h
            · replace h := h.2 c
              intro r14
              replace h := h r14
              refine ⟨fun c => ?_, fun c => ?_⟩
              · replace h := h.1 c
                exact kmT_X10_read_90 hk hk9 hF h
              · replace h := h.2 c
                exact kmT_X10_read_90 hk hk9 hF h
        · replace h := h.2 c
          refine kmT_X10_readNumber _ _ _ _ _ (fun S16 r16 hG h => ?_) h
          replace hF := KF_t hF hG (by decide) (by decide) (by decide) (by decide) (by decide) (by decide) (by decide) (by decide)
          exact kmT_X10_read_98 hk hk9 hF h
      · replace h := h.2 c
        refine kmT_X10_readWord _ _ _ _ _ (fun S17 r17 hG h => ?_) h
        replace hF := KF_t hF hG (by decide) (by decide) (by decide) (by decide) (by decide) (by decide) (by decide) (by decide)
        exact kmT_X10_read_98 hk hk9 hF h
theorem kmlT_X10_read_9 {K K' : kS → Prop} {S0 : kS} (hk : ∀ S1, KF [40, 41] [] [64, 65] [66] [] S0 S1 → K S1 → K' S1) : ∀ (n : Nat) (u : Nat × Int32 × Int32 × kS), KF [40, 41] [] [64, 65] [66] [] S0 u.2.2.2 → it (lT_X10_read_9 K) n u → it (lT_X10_read_9 K') n u := by
  intro n
  induction n with
  | zero => exact fun _ _ h => h
  | succ n ih => exact fun u hF h => kmT_X10_read_9 hk ih hF h
theorem kmT_X10_read (t0 : Nat) : KmV [40, 41] [] [64, 65] [66] [] (wT_X10_read t0) := by
  intro S0 K K' hk h
  have hF : KF [40, 41] [] [64, 65] [66] [] S0 S0 := KF_rf
  unfold wT_X10_read at h ⊢
  intro S1 eS1
  replace h := h S1 eS1
  replace hF := KF_i hF eS1 (by decide)
  obtain ⟨n9, h⟩ := h
  exact ⟨n9, kmlT_X10_read_9 hk n9 _ hF h⟩
theorem kmT_X11_named (t0 : Nat) (a0 : Int32) : KmI [40, 41] [] [64, 65] [66] [] (wT_X11_named t0 a0) := by
  intro S0 K K' hk h
  have hF : KF [40, 41] [] [64, 65] [66] [] S0 S0 := KF_rf
  unfold wT_X11_named at h ⊢
  intro z1 ez1
  replace h := h z1 ez1
  intro q2 eq2
  replace h := h q2 eq2
  refine kmT_X10_read _ _ _ _ (fun S3 hG h => ?_) h
  replace hF := KF_t hF hG (by decide) (by decide) (by decide) (by decide) (by decide) (by decide) (by decide) (by decide)
  intro z4 ez4
  replace h := h z4 ez4
  intro q5 eq5
  replace h := h q5 eq5
  refine kmT_X10_onlyWord _ _ _ _ (fun S6 r6 hG h => ?_) h
  replace hF := KF_t hF hG (by decide) (by decide) (by decide) (by decide) (by decide) (by decide) (by decide) (by decide)
  intro z7 ez7
  replace h := h z7 ez7
  refine ⟨fun c => ?_, fun c => ?_⟩
  · replace h := h.1 c
    refine ⟨fun c => ?_, fun c => ?_⟩
    · replace h := h.1 c
      intro z10 ez10
      replace h := h z10 ez10
      obtain ⟨q11, eq11, h9⟩ := h
      replace h := h9
      clear h9
      refine ⟨q11, eq11, ?_⟩
      refine kmT_X5_cellNamed _ _ _ _ _ _ (fun S12 r12 hG h => ?_) h
      replace hF := KF_t hF hG (by decide) (by decide) (by decide) (by decide) (by decide) (by decide) (by decide) (by decide)
      exact hk _ _ hF h
    · replace h := h.2 c
      intro z13 ez13
      replace h := h z13 ez13
      obtain ⟨q14, eq14, h9⟩ := h
      replace h := h9
      clear h9
      refine ⟨q14, eq14, ?_⟩
      refine kmT_X5_routineNamed _ _ _ _ _ (fun S15 r15 hG h => ?_) h
      replace hF := KF_t hF hG (by decide) (by decide) (by decide) (by decide) (by decide) (by decide) (by decide) (by decide)
      exact hk _ _ hF h
  · replace h := h.2 c
    exact hk _ _ hF h
theorem kmT_X11_program (t0 : Nat) : KmI [0, 1, 2, 3, 4, 6, 7, 8, 9, 10, 11, 17, 18, 24, 25, 40, 41] [2, 11, 12, 13, 15, 16, 24, 61, 62, 63, 74, 75] [6, 17, 18, 19, 28, 29, 30, 32, 33, 34, 35, 36, 37, 43, 44, 45, 46, 47, 48, 49, 50, 51, 52, 64, 65] [20, 38, 39, 66] [] (wT_X11_program t0) := by
  intro S0 K K' hk h
  have hF : KF [0, 1, 2, 3, 4, 6, 7, 8, 9, 10, 11, 17, 18, 24, 25, 40, 41] [2, 11, 12, 13, 15, 16, 24, 61, 62, 63, 74, 75] [6, 17, 18, 19, 28, 29, 30, 32, 33, 34, 35, 36, 37, 43, 44, 45, 46, 47, 48, 49, 50, 51, 52, 64, 65] [20, 38, 39, 66] [] S0 S0 := KF_rf
  unfold wT_X11_program at h ⊢
  intro z1 ez1
  replace h := h z1 ez1
  intro q2 eq2
  replace h := h q2 eq2
  refine kmT_X10_read _ _ _ _ (fun S3 hG h => ?_) h
  replace hF := KF_t hF hG (by decide) (by decide) (by decide) (by decide) (by decide) (by decide) (by decide) (by decide)
  intro z4 ez4
  replace h := h z4 ez4
  intro z5 ez5
  replace h := h z5 ez5
  intro q6 eq6
  replace h := h q6 eq6
  obtain ⟨q7, eq7, h9⟩ := h
  replace h := h9
  clear h9
  refine ⟨q7, eq7, ?_⟩
  refine kmT_X3_read _ _ _ _ _ (fun S8 r8 hG h => ?_) h
  replace hF := KF_t hF hG (by decide) (by decide) (by decide) (by decide) (by decide) (by decide) (by decide) (by decide)
  refine ⟨fun c => ?_, fun c => ?_⟩
  · replace h := h.1 c
    exact hk _ _ hF h
  · replace h := h.2 c
    intro z10 ez10
    replace h := h z10 ez10
    intro z11 ez11
    replace h := h z11 ez11
    intro S12 eS12
    replace h := h S12 eS12
    replace hF := KF_r hF eS12 (by decide)
    intro S13 eS13
    replace h := h S13 eS13
    replace hF := KF_r hF eS13 (by decide)
    intro z14 ez14
    replace h := h z14 ez14
    intro z15 ez15
    replace h := h z15 ez15
    intro q16 eq16
    replace h := h q16 eq16
    obtain ⟨q17, eq17, h9⟩ := h
    replace h := h9
    clear h9
    refine ⟨q17, eq17, ?_⟩
    refine kmT_X1_open _ _ _ _ _ (fun S18 hG h => ?_) h
    replace hF := KF_t hF hG (by decide) (by decide) (by decide) (by decide) (by decide) (by decide) (by decide) (by decide)
    intro z19 ez19
    replace h := h z19 ez19
    intro q20 eq20
    replace h := h q20 eq20
    intro z21 ez21
    replace h := h z21 ez21
    intro q22 eq22
    replace h := h q22 eq22
    refine kmT_X0_clear _ _ _ _ (fun S23 hG h => ?_) h
    replace hF := KF_t hF hG (by decide) (by decide) (by decide) (by decide) (by decide) (by decide) (by decide) (by decide)
    exact hk _ _ hF h
