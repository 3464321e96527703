
theorem kmT_X2_taskAt_35 {K K' : kS → Int32 → Prop} {S0 : kS} (hk : ∀ S1 r1, KF [] [] [] [] [] S0 S1 → K S1 r1 → K' S1 r1) {x2 : Option Nat} {S : kS} (hF : KF [] [] [] [] [] S0 S) (h : wT_X2_taskAt_35 K x2 S) : wT_X2_taskAt_35 K' x2 S := by
  unfold wT_X2_taskAt_35 at h ⊢
  refine ⟨fun c => ?_, fun q7 c => ?_⟩
  · replace h := h.1 c
    exact hk _ _ hF h
  · replace h := h.2 q7 c
    intro z8 ez8
    replace h := h z8 ez8
    obtain ⟨q9, eq9, h9⟩ := h
    replace h := h9
    clear h9
    refine ⟨q9, eq9, ?_⟩
    intro z10 ez10
    replace h := h z10 ez10
    exact hk _ _ hF h
theorem kmT_X2_taskAt_15 {K K' : kS → Int32 → Prop} {k15 k15' : Int32 × Option Nat × Int32 × kS → Prop} {S0 : kS} (hk : ∀ S1 r1, KF [] [] [] [] [] S0 S1 → K S1 r1 → K' S1 r1) (hk15 : ∀ u : Int32 × Option Nat × Int32 × kS, KF [] [] [] [] [] S0 u.2.2.2 → k15 u → k15' u) {x1 : Int32} {x2 : Option Nat} {x3 : Int32} {S : kS} (hF : KF [] [] [] [] [] S0 S) (h : wT_X2_taskAt_15 K k15 x1 x2 x3 S) : wT_X2_taskAt_15 K' k15' x1 x2 x3 S := by
  unfold wT_X2_taskAt_15 at h ⊢
  refine ⟨fun c => ?_, fun c => ?_⟩
  · replace h := h.1 c
    exact kmT_X2_taskAt_35 hk hF h
  · replace h := h.2 c
    refine ⟨fun c => ?_, fun q4 c => ?_⟩
    · replace h := h.1 c
      exact kmT_X2_taskAt_35 hk hF h
    · replace h := h.2 q4 c
      intro z5 ez5
      replace h := h z5 ez5
      intro z6 ez6
      replace h := h z6 ez6
      exact hk15 _ hF h
theorem kmlT_X2_taskAt_15 {K K' : kS → Int32 → Prop} {S0 : kS} (hk : ∀ S1 r1, KF [] [] [] [] [] S0 S1 → K S1 r1 → K' S1 r1) : ∀ (n : Nat) (u : Int32 × Option Nat × Int32 × kS), KF [] [] [] [] [] S0 u.2.2.2 → it (lT_X2_taskAt_15 K) n u → it (lT_X2_taskAt_15 K') n u := by
  intro n
  induction n with
  | zero => exact fun _ _ h => h
  | succ n ih => exact fun u hF h => kmT_X2_taskAt_15 hk ih hF h
theorem kmT_X2_taskAt_12 {K K' : kS → Int32 → Prop} {S0 : kS} (hk : ∀ S1 r1, KF [] [] [] [] [] S0 S1 → K S1 r1 → K' S1 r1) {x1 : Int32} {y0 : Option Nat} {S : kS} (hF : KF [] [] [] [] [] S0 S) (h : wT_X2_taskAt_12 K x1 y0 S) : wT_X2_taskAt_12 K' x1 y0 S := by
  unfold wT_X2_taskAt_12 at h ⊢
  obtain ⟨n9, h⟩ := h
  exact ⟨n9, kmlT_X2_taskAt_15 hk n9 _ hF h⟩
theorem kmT_X2_taskAt (t0 : Nat) (a0 : Int32) : KmI [] [] [] [] [] (wT_X2_taskAt t0 a0) := by
  intro S0 K K' hk h
  have hF : KF [] [] [] [] [] S0 S0 := KF_rf
  unfold wT_X2_taskAt at h ⊢
  refine ⟨fun c => ?_, fun c => ?_⟩
  · replace h := h.1 c
    intro z2 ez2
    replace h := h z2 ez2
    exact kmT_X2_taskAt_12 hk hF h
  · replace h := h.2 c
    exact kmT_X2_taskAt_12 hk hF h
theorem kmT_X11_stands (t0 : Nat) (a0 : Int32) (a1 : Int32) : KmI [] [] [] [] [] (wT_X11_stands t0 a0 a1) := by
  intro S0 K K' hk h
  have hF : KF [] [] [] [] [] S0 S0 := KF_rf
  unfold wT_X11_stands at h ⊢
  refine ⟨fun c => ?_, fun c => ?_⟩
  · replace h := h.1 c
    exact hk _ _ hF h
  · replace h := h.2 c
    refine ⟨fun c => ?_, fun c => ?_⟩
    · replace h := h.1 c
      intro z3 ez3
      replace h := h z3 ez3
      intro q4 eq4
      replace h := h q4 eq4
      intro z5 ez5
      replace h := h z5 ez5
      intro q6 eq6
      replace h := h q6 eq6
      refine ⟨h.1, ?_⟩
      replace h := h.2
      intro z7 ez7
      replace h := h z7 ez7
      intro q8 eq8
      replace h := h q8 eq8
      refine kmT_X2_taskAt _ _ _ _ _ (fun S9 r9 hG h => ?_) h
      replace hF := KF_t hF hG (by decide) (by decide) (by decide) (by decide) (by decide) (by decide) (by decide) (by decide)
      exact hk _ _ hF h
    · replace h := h.2 c
      exact hk _ _ hF h
theorem kmT_X1_pass_80 {K K' : kS → Prop} {k9 k9' : Nat × Int32 × Int32 × kS → Prop} {S0 : kS} (hk : ∀ S1, KF [0, 2, 3, 4, 5, 13, 14, 15, 30, 31, 35, 37, 38, 39] [12, 13, 25, 26, 27] [0, 1, 4, 10] [] [] S0 S1 → K S1 → K' S1) (hk9 : ∀ u : Nat × Int32 × Int32 × kS, KF [0, 2, 3, 4, 5, 13, 14, 15, 30, 31, 35, 37, 38, 39] [12, 13, 25, 26, 27] [0, 1, 4, 10] [] [] S0 u.2.2.2 → k9 u → k9' u) {x0 : Nat} {x2 : Int32} {x3 : Int32} {S : kS} (hF : KF [0, 2, 3, 4, 5, 13, 14, 15, 30, 31, 35, 37, 38, 39] [12, 13, 25, 26, 27] [0, 1, 4, 10] [] [] S0 S) (h : wT_X1_pass_80 K k9 x0 x2 x3 S) : wT_X1_pass_80 K' k9' x0 x2 x3 S := by
  unfold wT_X1_pass_80 at h ⊢
  refine kmT_X1_work _ _ _ _ (fun S19 hG h => ?_) h
  replace hF := KF_t hF hG (by decide) (by decide) (by decide) (by decide) (by decide) (by decide) (by decide) (by decide)
  intro z20 ez20
  replace h := h z20 ez20
  exact hk9 _ hF h
theorem kmT_X1_pass_9 {K K' : kS → Prop} {k9 k9' : Nat × Int32 × Int32 × kS → Prop} {S0 : kS} (hk : ∀ S1, KF [0, 2, 3, 4, 5, 13, 14, 15, 30, 31, 35, 37, 38, 39] [12, 13, 25, 26, 27] [0, 1, 4, 10] [] [] S0 S1 → K S1 → K' S1) (hk9 : ∀ u : Nat × Int32 × Int32 × kS, KF [0, 2, 3, 4, 5, 13, 14, 15, 30, 31, 35, 37, 38, 39] [12, 13, 25, 26, 27] [0, 1, 4, 10] [] [] S0 u.2.2.2 → k9 u → k9' u) {x0 : Nat} {x2 : Int32} {x3 : Int32} {S : kS} (hF : KF [0, 2, 3, 4, 5, 13, 14, 15, 30, 31, 35, 37, 38, 39] [12, 13, 25, 26, 27] [0, 1, 4, 10] [] [] S0 S) (h : wT_X1_pass_9 K k9 x0 x2 x3 S) : wT_X1_pass_9 K' k9' x0 x2 x3 S := by
  unfold wT_X1_pass_9 at h ⊢
  refine ⟨fun c => ?_, fun c => ?_⟩
  · replace h := h.1 c
    intro S4 eS4
    replace h := h S4 eS4
    replace hF := KF_i hF eS4 (by decide)
    exact hk _ hF h
  · replace h := h.2 c
    intro z5 ez5
    replace h := h z5 ez5
    intro q6 eq6
    replace h := h q6 eq6
    intro z7 ez7
    replace h := h z7 ez7
    refine ⟨fun c => ?_, fun q8 c => ?_⟩
    · replace h := h.1 c
      intro S9 eS9
      replace h := h S9 eS9
      replace hF := KF_i hF eS9 (by decide)
      exact hk _ hF h
    · replace h := h.2 q8 c
      intro z10 ez10
      replace h := h z10 ez10
      refine ⟨fun c => ?_, fun c => ?_⟩
      · replace h := h.1 c
        intro z12 ez12
        replace h := h z12 ez12
        intro S13 eS13
        replace h := h S13 eS13
        replace hF := KF_i hF eS13 (by decide)
        intro z14 ez14
        replace h := h z14 ez14
        refine ⟨fun c => ?_, fun c => ?_⟩
        · replace h := h.1 c
          refine kmT_X1_report _ _ _ _ _ _ _ (fun S16 hG h => ?_) h
          replace hF := KF_t hF hG (by decide) (by decide) (by decide) (by decide) (by decide) (by decide) (by decide) (by decide)
          exact kmT_X1_pass_80 hk hk9 hF h
        · replace h := h.2 c
          refine kmT_X1_report _ _ _ _ _ _ _ (fun S17 hG h => ?_) h
          replace hF := KF_t hF hG (by decide) (by decide) (by decide) (by decide) (by decide) (by decide) (by decide) (by decide)
          exact kmT_X1_pass_80 hk hk9 hF h
      · replace h := h.2 c
        intro S18 eS18
        replace h := h S18 eS18
        replace hF := KF_i hF eS18 (by decide)
        exact hk _ hF h
theorem kmlT_X1_pass_9 {K K' : kS → Prop} {S0 : kS} (hk : ∀ S1, KF [0, 2, 3, 4, 5, 13, 14, 15, 30, 31, 35, 37, 38, 39] [12, 13, 25, 26, 27] [0, 1, 4, 10] [] [] S0 S1 → K S1 → K' S1) : ∀ (n : Nat) (u : Nat × Int32 × Int32 × kS), KF [0, 2, 3, 4, 5, 13, 14, 15, 30, 31, 35, 37, 38, 39] [12, 13, 25, 26, 27] [0, 1, 4, 10] [] [] S0 u.2.2.2 → it (lT_X1_pass_9 K) n u → it (lT_X1_pass_9 K') n u := by
  intro n
  induction n with
  | zero => exact fun _ _ h => h
  | succ n ih => exact fun u hF h => kmT_X1_pass_9 hk ih hF h
theorem kmT_X1_pass (t0 : Nat) (a0 : Int32) : KmV [0, 2, 3, 4, 5, 13, 14, 15, 30, 31, 35, 37, 38, 39] [12, 13, 25, 26, 27] [0, 1, 4, 10] [] [] (wT_X1_pass t0 a0) := by
  intro S0 K K' hk h
  have hF : KF [0, 2, 3, 4, 5, 13, 14, 15, 30, 31, 35, 37, 38, 39] [12, 13, 25, 26, 27] [0, 1, 4, 10] [] [] S0 S0 := KF_rf
  unfold wT_X1_pass at h ⊢
  intro z1 ez1
  replace h := h z1 ez1
  intro z2 ez2
  replace h := h z2 ez2
  obtain ⟨n9, h⟩ := h
  exact ⟨n9, kmlT_X1_pass_9 hk n9 _ hF h⟩
theorem kmT_X11_tick (t0 : Nat) (a0 : Int32) : KmI [0, 2, 3, 4, 5, 13, 14, 15, 30, 31, 35, 37, 38, 39] [12, 13, 25, 26, 27] [0, 1, 4, 10] [] [] (wT_X11_tick t0 a0) := by
  intro S0 K K' hk h
  have hF : KF [0, 2, 3, 4, 5, 13, 14, 15, 30, 31, 35, 37, 38, 39] [12, 13, 25, 26, 27] [0, 1, 4, 10] [] [] S0 S0 := KF_rf
  unfold wT_X11_tick at h ⊢
  refine ⟨fun c => ?_, fun c => ?_⟩
  · replace h := h.1 c
    exact hk _ _ hF h
  · replace h := h.2 c
    refine ⟨fun c => ?_, fun c => ?_⟩
    · replace h := h.1 c
      intro z3 ez3
      replace h := h z3 ez3
      intro q4 eq4
      replace h := h q4 eq4
      refine kmT_X1_pass _ _ _ _ _ (fun S5 hG h => ?_) h
      replace hF := KF_t hF hG (by decide) (by decide) (by decide) (by decide) (by decide) (by decide) (by decide) (by decide)
      intro z6 ez6
      replace h := h z6 ez6
      intro q7 eq7
      replace h := h q7 eq7
      intro z8 ez8
      replace h := h z8 ez8
      exact hk _ _ hF h
    · replace h := h.2 c
      exact hk _ _ hF h
theorem kmT_X1_breakOff (t0 : Nat) (a0 : Nat) (a1 : Int32) : KmV [0, 2, 3, 5, 13, 30, 31, 35, 37, 38, 39] [12, 13, 25, 26, 27] [0, 1, 4, 10] [] [] (wT_X1_breakOff t0 a0 a1) := by
  intro S0 K K' hk h
  have hF : KF [0, 2, 3, 5, 13, 30, 31, 35, 37, 38, 39] [12, 13, 25, 26, 27] [0, 1, 4, 10] [] [] S0 S0 := KF_rf
  unfold wT_X1_breakOff at h ⊢
  intro S1 eS1
  replace h := h S1 eS1
  replace hF := KF_i hF eS1 (by decide)
  intro z2 ez2
  replace h := h z2 ez2
  intro z3 ez3
  replace h := h z3 ez3
  refine kmT_X1_plan _ _ _ _ _ (fun S4 hG h => ?_) h
  replace hF := KF_t hF hG (by decide) (by decide) (by decide) (by decide) (by decide) (by decide) (by decide) (by decide)
  refine kmT_X1_letGo _ _ _ _ _ _ (fun S5 hG h => ?_) h
  replace hF := KF_t hF hG (by decide) (by decide) (by decide) (by decide) (by decide) (by decide) (by decide) (by decide)
  intro S6 eS6
  replace h := h S6 eS6
  replace hF := KF_i hF eS6 (by decide)
  intro S7 eS7
  replace h := h S7 eS7
  replace hF := KF_i hF eS7 (by decide)
  refine kmT_X1_work _ _ _ _ (fun S8 hG h => ?_) h
  replace hF := KF_t hF hG (by decide) (by decide) (by decide) (by decide) (by decide) (by decide) (by decide) (by decide)
  exact hk _ hF h
theorem kmT_X1_end (t0 : Nat) (a0 : Nat) : KmV [0, 2, 3, 5, 13, 14, 15, 30, 31, 35, 37, 38, 39] [12, 13, 25, 26, 27] [0, 1, 4, 10] [] [] (wT_X1_end t0 a0) := by
  intro S0 K K' hk h
  have hF : KF [0, 2, 3, 5, 13, 14, 15, 30, 31, 35, 37, 38, 39] [12, 13, 25, 26, 27] [0, 1, 4, 10] [] [] S0 S0 := KF_rf
  unfold wT_X1_end at h ⊢
  refine kmT_X1_letGo _ _ _ _ _ _ (fun S1 hG h => ?_) h
  replace hF := KF_t hF hG (by decide) (by decide) (by decide) (by decide) (by decide) (by decide) (by decide) (by decide)
  refine kmT_X1_work _ _ _ _ (fun S2 hG h => ?_) h
  replace hF := KF_t hF hG (by decide) (by decide) (by decide) (by decide) (by decide) (by decide) (by decide) (by decide)
  refine kmT_X1_close _ _ _ _ _ (fun S3 hG h => ?_) h
  replace hF := KF_t hF hG (by decide) (by decide) (by decide) (by decide) (by decide) (by decide) (by decide) (by decide)
  refine kmT_X1_tellParent _ _ _ _ _ (fun S4 hG h => ?_) h
  replace hF := KF_t hF hG (by decide) (by decide) (by decide) (by decide) (by decide) (by decide) (by decide) (by decide)
  refine kmT_X1_work _ _ _ _ (fun S5 hG h => ?_) h
  replace hF := KF_t hF hG (by decide) (by decide) (by decide) (by decide) (by decide) (by decide) (by decide) (by decide)
  exact hk _ hF h
theorem kmT_X1_takeBack_5 {K K' : kS → Prop} {k5 k5' : Nat × Nat × Option Nat × kS → Prop} {S0 : kS} (hk : ∀ S1, KF [] [11, 24, 61, 62, 63] [] [] [] S0 S1 → K S1 → K' S1) (hk5 : ∀ u : Nat × Nat × Option Nat × kS, KF [] [11, 24, 61, 62, 63] [] [] [] S0 u.2.2.2 → k5 u → k5' u) {x0 : Nat} {x1 : Nat} {x2 : Option Nat} {S : kS} (hF : KF [] [11, 24, 61, 62, 63] [] [] [] S0 S) (h : wT_X1_takeBack_5 K k5 x0 x1 x2 S) : wT_X1_takeBack_5 K' k5' x0 x1 x2 S := by
  unfold wT_X1_takeBack_5 at h ⊢
  refine ⟨fun c => ?_, fun q2 c => ?_⟩
  · replace h := h.1 c
    intro S3 eS3
    replace h := h S3 eS3
    replace hF := KF_r hF eS3 (by decide)
    intro S4 eS4
    replace h := h S4 eS4
    replace hF := KF_r hF eS4 (by decide)
    intro S5 eS5
    replace h := h S5 eS5
    replace hF := KF_r hF eS5 (by decide)
    exact hk _ hF h
  · replace h := h.2 q2 c
    intro z6 ez6
    replace h := h z6 ez6
    intro z7 ez7
    replace h := h z7 ez7
    intro S8 eS8
    replace h := h S8 eS8
    replace hF := KF_r hF eS8 (by decide)
    intro S9 eS9
    replace h := h S9 eS9
    replace hF := KF_r hF eS9 (by decide)
    exact hk5 _ hF h
theorem kmlT_X1_takeBack_5 {K K' : kS → Prop} {S0 : kS} (hk : ∀ S1, KF [] [11, 24, 61, 62, 63] [] [] [] S0 S1 → K S1 → K' S1) : ∀ (n : Nat) (u : Nat × Nat × Option Nat × kS), KF [] [11, 24, 61, 62, 63] [] [] [] S0 u.2.2.2 → it (lT_X1_takeBack_5 K) n u → it (lT_X1_takeBack_5 K') n u := by
  intro n
  induction n with
  | zero => exact fun _ _ h => h
  | succ n ih => exact fun u hF h => kmT_X1_takeBack_5 hk ih hF h
theorem kmT_X1_takeBack (t0 : Nat) (a0 : Nat) : KmV [] [11, 24, 61, 62, 63] [] [] [] (wT_X1_takeBack t0 a0) := by
  intro S0 K K' hk h
  have hF : KF [] [11, 24, 61, 62, 63] [] [] [] S0 S0 := KF_rf
  unfold wT_X1_takeBack at h ⊢
  intro z1 ez1
  replace h := h z1 ez1
  obtain ⟨n9, h⟩ := h
  exact ⟨n9, kmlT_X1_takeBack_5 hk n9 _ hF h⟩
theorem kmT_X2_clear (t0 : Nat) : KmV [] [12, 13] [] [] [] (wT_X2_clear t0) := by
  intro S0 K K' hk h
  have hF : KF [] [12, 13] [] [] [] S0 S0 := KF_rf
  unfold wT_X2_clear at h ⊢
  intro S1 eS1
  replace h := h S1 eS1
  replace hF := KF_r hF eS1 (by decide)
  intro S2 eS2
  replace h := h S2 eS2
  replace hF := KF_r hF eS2 (by decide)
  exact hk _ hF h
theorem kmT_X1_open_53 {K K' : kS → Prop} {k53 k53' : Nat × Int32 × kS → Prop} {S0 : kS} (hk : ∀ S1, KF [0, 1, 2, 3, 4] [2, 11, 12, 13, 24, 61, 62, 63] [6] [] [] S0 S1 → K S1 → K' S1) (hk53 : ∀ u : Nat × Int32 × kS, KF [0, 1, 2, 3, 4] [2, 11, 12, 13, 24, 61, 62, 63] [6] [] [] S0 u.2.2 → k53 u → k53' u) {x0 : Nat} {x2 : Int32} {S : kS} (hF : KF [0, 1, 2, 3, 4] [2, 11, 12, 13, 24, 61, 62, 63] [6] [] [] S0 S) (h : wT_X1_open_53 K k53 x0 x2 S) : wT_X1_open_53 K' k53' x0 x2 S := by
  unfold wT_X1_open_53 at h ⊢
  refine ⟨fun c => ?_, fun c => ?_⟩
  · replace h := h.1 c
    intro z15 ez15
    replace h := h z15 ez15
    intro q16 eq16
    replace h := h q16 eq16
    refine kmT_X2_clear _ _ _ _ (fun S17 hG h => ?_) h
    replace hF := KF_t hF hG (by decide) (by decide) (by decide) (by decide) (by decide) (by decide) (by decide) (by decide)
    intro z18 ez18
    replace h := h z18 ez18
    intro q19 eq19
    replace h := h q19 eq19
    refine kmT_X0_clear _ _ _ _ (fun S20 hG h => ?_) h
    replace hF := KF_t hF hG (by decide) (by decide) (by decide) (by decide) (by decide) (by decide) (by decide) (by decide)
    exact hk _ hF h
  · replace h := h.2 c
    intro z21 ez21
    replace h := h z21 ez21
    have pz21 : ∃ o, S0.2.1 6 o = z21 := ⟨_, by rw [ez21, hF.2.1 6 (by decide)]⟩
    intro q22 eq22
    replace h := h q22 eq22
    refine ⟨h.1, ?_⟩
    replace h := h.2
    intro S23 eS23
    replace h := h S23 eS23
    replace hF := KF_a (fid := 6) hF eS23 (by decide) (by rw [← eq22]; exact pz21)
    intro z24 ez24
    replace h := h z24 ez24
    intro q25 eq25
    replace h := h q25 eq25
    refine ⟨h.1, ?_⟩
    replace h := h.2
    intro z26 ez26
    replace h := h z26 ez26
    intro q27 eq27
    replace h := h q27 eq27
    refine kmT_X2_clear _ _ _ _ (fun S28 hG h => ?_) h
    replace hF := KF_t hF hG (by decide) (by decide) (by decide) (by decide) (by decide) (by decide) (by decide) (by decide)
    intro z29 ez29
    replace h := h z29 ez29
    exact hk53 _ hF h
theorem kmlT_X1_open_53 {K K' : kS → Prop} {S0 : kS} (hk : ∀ S1, KF [0, 1, 2, 3, 4] [2, 11, 12, 13, 24, 61, 62, 63] [6] [] [] S0 S1 → K S1 → K' S1) : ∀ (n : Nat) (u : Nat × Int32 × kS), KF [0, 1, 2, 3, 4] [2, 11, 12, 13, 24, 61, 62, 63] [6] [] [] S0 u.2.2 → it (lT_X1_open_53 K) n u → it (lT_X1_open_53 K') n u := by
  intro n
  induction n with
  | zero => exact fun _ _ h => h
  | succ n ih => exact fun u hF h => kmT_X1_open_53 hk ih hF h
theorem kmT_X1_open_7 {K K' : kS → Prop} {k7 k7' : Nat × Int32 × kS → Prop} {S0 : kS} (hk : ∀ S1, KF [0, 1, 2, 3, 4] [2, 11, 12, 13, 24, 61, 62, 63] [6] [] [] S0 S1 → K S1 → K' S1) (hk7 : ∀ u : Nat × Int32 × kS, KF [0, 1, 2, 3, 4] [2, 11, 12, 13, 24, 61, 62, 63] [6] [] [] S0 u.2.2 → k7 u → k7' u) {x0 : Nat} {x2 : Int32} {S : kS} (hF : KF [0, 1, 2, 3, 4] [2, 11, 12, 13, 24, 61, 62, 63] [6] [] [] S0 S) (h : wT_X1_open_7 K k7 x0 x2 S) : wT_X1_open_7 K' k7' x0 x2 S := by
  unfold wT_X1_open_7 at h ⊢
  intro z2 ez2
  replace h := h z2 ez2
  refine ⟨fun c => ?_, fun c => ?_⟩
  · replace h := h.1 c
    intro S4 eS4
    replace h := h S4 eS4
    replace hF := KF_i hF eS4 (by decide)
    intro S5 eS5
    replace h := h S5 eS5
    replace hF := KF_i hF eS5 (by decide)
    intro S6 eS6
    replace h := h S6 eS6
    replace hF := KF_i hF eS6 (by decide)
    intro S7 eS7
    replace h := h S7 eS7
    replace hF := KF_i hF eS7 (by decide)
    obtain ⟨n9, h⟩ := h
    exact ⟨n9, kmlT_X1_open_53 hk n9 _ hF h⟩
  · replace h := h.2 c
    intro z8 ez8
    replace h := h z8 ez8
    intro q9 eq9
    replace h := h q9 eq9
    refine ⟨h.1, ?_⟩
    replace h := h.2
    intro z10 ez10
    replace h := h z10 ez10
    obtain ⟨q11, eq11, h9⟩ := h
    replace h := h9
    clear h9
    refine ⟨q11, eq11, ?_⟩
    refine kmT_X1_takeBack _ _ _ _ _ (fun S12 hG h => ?_) h
    replace hF := KF_t hF hG (by decide) (by decide) (by decide) (by decide) (by decide) (by decide) (by decide) (by decide)
    intro z13 ez13
    replace h := h z13 ez13
    exact hk7 _ hF h
theorem kmlT_X1_open_7 {K K' : kS → Prop} {S0 : kS} (hk : ∀ S1, KF [0, 1, 2, 3, 4] [2, 11, 12, 13, 24, 61, 62, 63] [6] [] [] S0 S1 → K S1 → K' S1) : ∀ (n : Nat) (u : Nat × Int32 × kS), KF [0, 1, 2, 3, 4] [2, 11, 12, 13, 24, 61, 62, 63] [6] [] [] S0 u.2.2 → it (lT_X1_open_7 K) n u → it (lT_X1_open_7 K') n u := by
  intro n
  induction n with
  | zero => exact fun _ _ h => h
  | succ n ih => exact fun u hF h => kmT_X1_open_7 hk ih hF h
theorem kmT_X1_open (t0 : Nat) (a0 : Nat) : KmV [0, 1, 2, 3, 4] [2, 11, 12, 13, 24, 61, 62, 63] [6] [] [] (wT_X1_open t0 a0) := by
  intro S0 K K' hk h
  have hF : KF [0, 1, 2, 3, 4] [2, 11, 12, 13, 24, 61, 62, 63] [6] [] [] S0 S0 := KF_rf
  unfold wT_X1_open at h ⊢
  intro S1 eS1
  replace h := h S1 eS1
  replace hF := KF_r hF eS1 (by decide)
  obtain ⟨n9, h⟩ := h
  exact ⟨n9, kmlT_X1_open_7 hk n9 _ hF h⟩
theorem kmT_X2_add_76 {K K' : kS → Prop} {S0 : kS} (hk : ∀ S1, KF [] [12, 13, 25, 26, 27] [] [] [] S0 S1 → K S1 → K' S1) {x0 : Nat} {x1 : Nat} {x3 : Option Nat} {S : kS} (hF : KF [] [12, 13, 25, 26, 27] [] [] [] S0 S) (h : wT_X2_add_76 K x0 x1 x3 S) : wT_X2_add_76 K' x0 x1 x3 S := by
  unfold wT_X2_add_76 at h ⊢
  refine ⟨fun c => ?_, fun q16 c => ?_⟩
  · replace h := h.1 c
    intro S17 eS17
    replace h := h S17 eS17
    replace hF := KF_r hF eS17 (by decide)
    exact hk _ hF h
  · replace h := h.2 q16 c
    intro S18 eS18
    replace h := h S18 eS18
    replace hF := KF_r hF eS18 (by decide)
    exact hk _ hF h
theorem kmT_X2_add_43 {K K' : kS → Prop} {S0 : kS} (hk : ∀ S1, KF [] [12, 13, 25, 26, 27] [] [] [] S0 S1 → K S1 → K' S1) {x0 : Nat} {x1 : Nat} {x2 : Option Nat} {y0 : Option Nat} {S : kS} (hF : KF [] [12, 13, 25, 26, 27] [] [] [] S0 S) (h : wT_X2_add_43 K x0 x1 x2 y0 S) : wT_X2_add_43 K' x0 x1 x2 y0 S := by
  unfold wT_X2_add_43 at h ⊢
  intro S10 eS10
  replace h := h S10 eS10
  replace hF := KF_r hF eS10 (by decide)
  intro S11 eS11
  replace h := h S11 eS11
  replace hF := KF_r hF eS11 (by decide)
  intro S12 eS12
  replace h := h S12 eS12
  replace hF := KF_r hF eS12 (by decide)
  refine ⟨fun c => ?_, fun q13 c => ?_⟩
  · replace h := h.1 c
    intro S14 eS14
    replace h := h S14 eS14
    replace hF := KF_r hF eS14 (by decide)
    exact kmT_X2_add_76 hk hF h
  · replace h := h.2 q13 c
    intro S15 eS15
    replace h := h S15 eS15
    replace hF := KF_r hF eS15 (by decide)
    exact kmT_X2_add_76 hk hF h
theorem kmT_X2_add_28 {K K' : kS → Prop} {S0 : kS} (hk : ∀ S1, KF [] [12, 13, 25, 26, 27] [] [] [] S0 S1 → K S1 → K' S1) {x0 : Nat} {x1 : Nat} {x2 : Option Nat} {S : kS} (hF : KF [] [12, 13, 25, 26, 27] [] [] [] S0 S) (h : wT_X2_add_28 K x0 x1 x2 S) : wT_X2_add_28 K' x0 x1 x2 S := by
  unfold wT_X2_add_28 at h ⊢
  refine ⟨fun c => ?_, fun q7 c => ?_⟩
  · replace h := h.1 c
    intro z8 ez8
    replace h := h z8 ez8
    exact kmT_X2_add_43 hk hF h
  · replace h := h.2 q7 c
    intro z9 ez9
    replace h := h z9 ez9
    exact kmT_X2_add_43 hk hF h
theorem kmT_X2_add_5 {K K' : kS → Prop} {k5 k5' : Nat × Nat × Option Nat × kS → Prop} {S0 : kS} (hk : ∀ S1, KF [] [12, 13, 25, 26, 27] [] [] [] S0 S1 → K S1 → K' S1) (hk5 : ∀ u : Nat × Nat × Option Nat × kS, KF [] [12, 13, 25, 26, 27] [] [] [] S0 u.2.2.2 → k5 u → k5' u) {x0 : Nat} {x1 : Nat} {x2 : Option Nat} {S : kS} (hF : KF [] [12, 13, 25, 26, 27] [] [] [] S0 S) (h : wT_X2_add_5 K k5 x0 x1 x2 S) : wT_X2_add_5 K' k5' x0 x1 x2 S := by
  unfold wT_X2_add_5 at h ⊢
  refine ⟨fun c => ?_, fun q2 c => ?_⟩
  · replace h := h.1 c
    exact kmT_X2_add_28 hk hF h
  · replace h := h.2 q2 c
    intro z3 ez3
    replace h := h z3 ez3
    intro z4 ez4
    replace h := h z4 ez4
    refine ⟨fun c => ?_, fun c => ?_⟩
    · replace h := h.1 c
      exact kmT_X2_add_28 hk hF h
    · replace h := h.2 c
      intro z6 ez6
      replace h := h z6 ez6
      exact hk5 _ hF h
theorem kmlT_X2_add_5 {K K' : kS → Prop} {S0 : kS} (hk : ∀ S1, KF [] [12, 13, 25, 26, 27] [] [] [] S0 S1 → K S1 → K' S1) : ∀ (n : Nat) (u : Nat × Nat × Option Nat × kS), KF [] [12, 13, 25, 26, 27] [] [] [] S0 u.2.2.2 → it (lT_X2_add_5 K) n u → it (lT_X2_add_5 K') n u := by
  intro n
  induction n with
  | zero => exact fun _ _ h => h
  | succ n ih => exact fun u hF h => kmT_X2_add_5 hk ih hF h
theorem kmT_X2_add (t0 : Nat) (a0 : Nat) : KmV [] [12, 13, 25, 26, 27] [] [] [] (wT_X2_add t0 a0) := by
  intro S0 K K' hk h
  have hF : KF [] [12, 13, 25, 26, 27] [] [] [] S0 S0 := KF_rf
  unfold wT_X2_add at h ⊢
  intro z1 ez1
  replace h := h z1 ez1
  obtain ⟨n9, h⟩ := h
  exact ⟨n9, kmlT_X2_add_5 hk n9 _ hF h⟩
theorem kmT_X1_setAlarm_23 {K K' : kS → Prop} {S0 : kS} (hk : ∀ S1, KF [16] [12, 13, 25, 26, 27] [] [] [] S0 S1 → K S1 → K' S1) {x0 : Nat} {x1 : Nat} {y0 : Nat} {y1 : Int32} {S : kS} (hF : KF [16] [12, 13, 25, 26, 27] [] [] [] S0 S) (h : wT_X1_setAlarm_23 K x0 x1 y0 y1 S) : wT_X1_setAlarm_23 K' x0 x1 y0 y1 S := by
  unfold wT_X1_setAlarm_23 at h ⊢
  intro S6 eS6
  replace h := h S6 eS6
  replace hF := KF_i hF eS6 (by decide)
  intro z7 ez7
  replace h := h z7 ez7
  intro q8 eq8
  replace h := h q8 eq8
  refine kmT_X2_add _ _ _ _ _ (fun S9 hG h => ?_) h
  replace hF := KF_t hF hG (by decide) (by decide) (by decide) (by decide) (by decide) (by decide) (by decide) (by decide)
  exact hk _ hF h
theorem kmT_X1_setAlarm (t0 : Nat) (a0 : Nat) (a1 : Int32) : KmV [16] [12, 13, 25, 26, 27] [] [] [] (wT_X1_setAlarm t0 a0 a1) := by
  intro S0 K K' hk h
  have hF : KF [16] [12, 13, 25, 26, 27] [] [] [] S0 S0 := KF_rf
  unfold wT_X1_setAlarm at h ⊢
  intro z1 ez1
  replace h := h z1 ez1
  intro z2 ez2
  replace h := h z2 ez2
  refine ⟨fun c => ?_, fun c => ?_⟩
  · replace h := h.1 c
    intro z4 ez4
    replace h := h z4 ez4
    intro z5 ez5
    replace h := h z5 ez5
    exact kmT_X1_setAlarm_23 hk hF h
  · replace h := h.2 c
    exact kmT_X1_setAlarm_23 hk hF h
theorem kmT_X1_stand_60 {K K' : kS → Prop} {S0 : kS} (hk : ∀ S1, KF [0, 2, 3, 5, 13, 30, 31, 35, 37, 38, 39] [12, 13, 25, 26, 27] [0, 1, 4, 10] [] [] S0 S1 → K S1 → K' S1) {x0 : Nat} {S : kS} (hF : KF [0, 2, 3, 5, 13, 30, 31, 35, 37, 38, 39] [12, 13, 25, 26, 27] [0, 1, 4, 10] [] [] S0 S) (h : wT_X1_stand_60 K x0 S) : wT_X1_stand_60 K' x0 S := by
  unfold wT_X1_stand_60 at h ⊢
  refine kmT_X1_work _ _ _ _ (fun S20 hG h => ?_) h
  replace hF := KF_t hF hG (by decide) (by decide) (by decide) (by decide) (by decide) (by decide) (by decide) (by decide)
  exact hk _ hF h
theorem kmT_X1_stand (t0 : Nat) (a0 : Nat) : KmV [0, 2, 3, 5, 13, 30, 31, 35, 37, 38, 39] [12, 13, 25, 26, 27] [0, 1, 4, 10] [] [] (wT_X1_stand t0 a0) := by
  intro S0 K K' hk h
  have hF : KF [0, 2, 3, 5, 13, 30, 31, 35, 37, 38, 39] [12, 13, 25, 26, 27] [0, 1, 4, 10] [] [] S0 S0 := KF_rf
  unfold wT_X1_stand at h ⊢
  intro S1 eS1
  replace h := h S1 eS1
  replace hF := KF_i hF eS1 (by decide)
  intro z2 ez2
  replace h := h z2 ez2
  intro z3 ez3
  replace h := h z3 ez3
  refine kmT_X1_plan _ _ _ _ _ (fun S4 hG h => ?_) h
  replace hF := KF_t hF hG (by decide) (by decide) (by decide) (by decide) (by decide) (by decide) (by decide) (by decide)
  refine kmT_X1_letGo _ _ _ _ _ _ (fun S5 hG h => ?_) h
  replace hF := KF_t hF hG (by decide) (by decide) (by decide) (by decide) (by decide) (by decide) (by decide) (by decide)
  intro z6 ez6
  replace h := h z6 ez6
  refine ⟨fun c => ?_, fun q7 c => ?_⟩
  · replace h := h.1 c
    exact kmT_X1_stand_60 hk hF h
  · replace h := h.2 q7 c
    intro z8 ez8
    replace h := h z8 ez8
    obtain ⟨q9, eq9, h9⟩ := h
    replace h := h9
    clear h9
    refine ⟨q9, eq9, ?_⟩
    intro z10 ez10
    replace h := h z10 ez10
    refine ⟨fun c => ?_, fun c => ?_⟩
    · replace h := h.1 c
      exact kmT_X1_stand_60 hk hF h
    · replace h := h.2 c
      intro z12 ez12
      replace h := h z12 ez12
      obtain ⟨q13, eq13, h9⟩ := h
      replace h := h9
      clear h9
      refine ⟨q13, eq13, ?_⟩
      intro z14 ez14
      replace h := h z14 ez14
      intro S15 eS15
      replace h := h S15 eS15
      replace hF := KF_i hF eS15 (by decide)
      intro z16 ez16
      replace h := h z16 ez16
      obtain ⟨q17, eq17, h9⟩ := h
      replace h := h9
      clear h9
      refine ⟨q17, eq17, ?_⟩
      intro z18 ez18
      replace h := h z18 ez18
      intro S19 eS19
      replace h := h S19 eS19
      replace hF := KF_i hF eS19 (by decide)
      exact kmT_X1_stand_60 hk hF h
theorem kmT_X1_takeLetter_25 {K K' : kS → Int32 → Prop} {k25 k25' : Nat × Int32 × Int32 × Int32 × Int32 × kS → Prop} {S0 : kS} (hk : ∀ S1 r1, KF [] [] [5, 6] [] [] S0 S1 → K S1 r1 → K' S1 r1) (hk25 : ∀ u : Nat × Int32 × Int32 × Int32 × Int32 × kS, KF [] [] [5, 6] [] [] S0 u.2.2.2.2.2 → k25 u → k25' u) {x0 : Nat} {x1 : Int32} {x2 : Int32} {x3 : Int32} {x4 : Int32} {S : kS} (hF : KF [] [] [5, 6] [] [] S0 S) (h : wT_X1_takeLetter_25 K k25 x0 x1 x2 x3 x4 S) : wT_X1_takeLetter_25 K' k25' x0 x1 x2 x3 x4 S := by
  unfold wT_X1_takeLetter_25 at h ⊢
  intro z10 ez10
  replace h := h z10 ez10
  intro q11 eq11
  replace h := h q11 eq11
  refine ⟨h.1, ?_⟩
  replace h := h.2
  intro z12 ez12
  replace h := h z12 ez12
  refine ⟨fun c => ?_, fun c => ?_⟩
  · replace h := h.1 c
    exact hk _ _ hF h
  · replace h := h.2 c
    intro z14 ez14
    replace h := h z14 ez14
    have pz14 : ∃ o, S0.2.1 5 o = z14 := ⟨_, by rw [ez14, hF.2.1 5 (by decide)]⟩
    intro z15 ez15
    replace h := h z15 ez15
    intro z16 ez16
    replace h := h z16 ez16
    intro z17 ez17
    replace h := h z17 ez17
    intro z18 ez18
    replace h := h z18 ez18
    intro q19 eq19
    replace h := h q19 eq19
    refine ⟨h.1, ?_⟩
    replace h := h.2
    intro z20 ez20
    replace h := h z20 ez20
    intro q21 eq21
    replace h := h q21 eq21
    refine ⟨h.1, ?_⟩
    replace h := h.2
    intro S22 eS22
    replace h := h S22 eS22
    replace hF := KF_a (fid := 5) hF eS22 (by decide) (by rw [← eq21]; exact pz14)
    intro z23 ez23
    replace h := h z23 ez23
    exact hk25 _ hF h
theorem kmlT_X1_takeLetter_25 {K K' : kS → Int32 → Prop} {S0 : kS} (hk : ∀ S1 r1, KF [] [] [5, 6] [] [] S0 S1 → K S1 r1 → K' S1 r1) : ∀ (n : Nat) (u : Nat × Int32 × Int32 × Int32 × Int32 × kS), KF [] [] [5, 6] [] [] S0 u.2.2.2.2.2 → it (lT_X1_takeLetter_25 K) n u → it (lT_X1_takeLetter_25 K') n u := by
  intro n
  induction n with
  | zero => exact fun _ _ h => h
  | succ n ih => exact fun u hF h => kmT_X1_takeLetter_25 hk ih hF h
theorem kmT_X1_takeLetter (t0 : Nat) (a0 : Int32) : KmI [] [] [5, 6] [] [] (wT_X1_takeLetter t0 a0) := by
  intro S0 K K' hk h
  have hF : KF [] [] [5, 6] [] [] S0 S0 := KF_rf
  unfold wT_X1_takeLetter at h ⊢
  intro z1 ez1
  replace h := h z1 ez1
  intro z2 ez2
  replace h := h z2 ez2
  intro q3 eq3
  replace h := h q3 eq3
  refine ⟨h.1, ?_⟩
  replace h := h.2
  intro z4 ez4
  replace h := h z4 ez4
  intro z5 ez5
  replace h := h z5 ez5
  have pz5 : ∃ o, S0.2.1 6 o = z5 := ⟨_, by rw [ez5, hF.2.1 6 (by decide)]⟩
  intro q6 eq6
  replace h := h q6 eq6
  refine ⟨h.1, ?_⟩
  replace h := h.2
  intro z7 ez7
  replace h := h z7 ez7
  intro z8 ez8
  replace h := h z8 ez8
  refine ⟨h.1, ?_⟩
  replace h := h.2
  intro S9 eS9
  replace h := h S9 eS9
  replace hF := KF_a (fid := 6) hF eS9 (by decide) (by rw [← eq6]; exact pz5)
  obtain ⟨n9, h⟩ := h
  exact ⟨n9, kmlT_X1_takeLetter_25 hk n9 _ hF h⟩
theorem kmT_X3_kind (t0 : Nat) : KmI [] [] [] [] [] (wT_X3_kind t0) := by
  intro S0 K K' hk h
  have hF : KF [] [] [] [] [] S0 S0 := KF_rf
  unfold wT_X3_kind at h ⊢
  intro z1 ez1
  replace h := h z1 ez1
  intro q2 eq2
  replace h := h q2 eq2
  intro z3 ez3
  replace h := h z3 ez3
  intro z4 ez4
  replace h := h z4 ez4
  intro q5 eq5
  replace h := h q5 eq5
  refine ⟨h.1, ?_⟩
  replace h := h.2
  intro z6 ez6
  replace h := h z6 ez6
  exact hk _ _ hF h
theorem kmT_X3_step (t0 : Nat) : KmV [6] [] [] [] [] (wT_X3_step t0) := by
  intro S0 K K' hk h
  have hF : KF [6] [] [] [] [] S0 S0 := KF_rf
  unfold wT_X3_step at h ⊢
  intro z1 ez1
  replace h := h z1 ez1
  intro z2 ez2
  replace h := h z2 ez2
  intro z3 ez3
  replace h := h z3 ez3
  intro q4 eq4
  replace h := h q4 eq4
  intro z5 ez5
  replace h := h z5 ez5
  refine ⟨fun c => ?_, fun c => ?_⟩
  · replace h := h.1 c
    exact hk _ hF h
  · replace h := h.2 c
    intro z7 ez7
    replace h := h z7 ez7
    intro z8 ez8
    replace h := h z8 ez8
    intro S9 eS9
    replace h := h S9 eS9
    replace hF := KF_i hF eS9 (by decide)
    exact hk _ hF h
theorem kmT_X3_wrong (t0 : Nat) (a0 : Int32) : KmV [6, 7] [] [] [] [] (wT_X3_wrong t0 a0) := by
  intro S0 K K' hk h
  have hF : KF [6, 7] [] [] [] [] S0 S0 := KF_rf
  unfold wT_X3_wrong at h ⊢
  intro z1 ez1
  replace h := h z1 ez1
  refine ⟨fun c => ?_, fun c => ?_⟩
  · replace h := h.1 c
    exact hk _ hF h
  · replace h := h.2 c
    intro z3 ez3
    replace h := h z3 ez3
    intro q4 eq4
    replace h := h q4 eq4
    intro z5 ez5
    replace h := h z5 ez5
    intro z6 ez6
    replace h := h z6 ez6
    intro q7 eq7
    replace h := h q7 eq7
    refine ⟨h.1, ?_⟩
    replace h := h.2
    intro z8 ez8
    replace h := h z8 ez8
    intro z9 ez9
    replace h := h z9 ez9
    intro z10 ez10
    replace h := h z10 ez10
    intro S11 eS11
    replace h := h S11 eS11
    replace hF := KF_i hF eS11 (by decide)
    intro S12 eS12
    replace h := h S12 eS12
    replace hF := KF_i hF eS12 (by decide)
    exact hk _ hF h
theorem kmT_X5_cellOf_16 {K K' : kS → Int32 → Prop} {k16 k16' : Nat × Int64 × Int32 × Int32 × kS → Prop} {S0 : kS} (hk : ∀ S1 r1, KF [] [] [35] [39] [] S0 S1 → K S1 r1 → K' S1 r1) (hk16 : ∀ u : Nat × Int64 × Int32 × Int32 × kS, KF [] [] [35] [39] [] S0 u.2.2.2.2 → k16 u → k16' u) {x0 : Nat} {x1 : Int64} {x3 : Int32} {x4 : Int32} {S : kS} (hF : KF [] [] [35] [39] [] S0 S) (h : wT_X5_cellOf_16 K k16 x0 x1 x3 x4 S) : wT_X5_cellOf_16 K' k16' x0 x1 x3 x4 S := by
  unfold wT_X5_cellOf_16 at h ⊢
  intro z4 ez4
  replace h := h z4 ez4
  intro q5 eq5
  replace h := h q5 eq5
  refine ⟨h.1, ?_⟩
  replace h := h.2
  intro z6 ez6
  replace h := h z6 ez6
  refine ⟨fun c => ?_, fun c => ?_⟩
  · replace h := h.1 c
    intro z8 ez8
    replace h := h z8 ez8
    intro q9 eq9
    replace h := h q9 eq9
    refine ⟨h.1, ?_⟩
    replace h := h.2
    intro z10 ez10
    replace h := h z10 ez10
    refine ⟨fun c => ?_, fun c => ?_⟩
    · replace h := h.1 c
      intro z12 ez12
      replace h := h z12 ez12
      have pz12 : ∃ o, S0.2.1 39 o = z12 := ⟨_, by rw [ez12, hF.2.1 39 (by decide)]⟩
      intro z13 ez13
      replace h := h z13 ez13
      intro z14 ez14
      replace h := h z14 ez14
      intro q15 eq15
      replace h := h q15 eq15
      refine ⟨h.1, ?_⟩
      replace h := h.2
      intro z16 ez16
      replace h := h z16 ez16
      intro z17 ez17
      replace h := h z17 ez17
      intro q18 eq18
      replace h := h q18 eq18
      refine ⟨h.1, ?_⟩
      replace h := h.2
      intro S19 eS19
      replace h := h S19 eS19
      replace hF := KF_l (fid := 39) hF eS19 (by decide) (by rw [← eq18]; exact pz12)
      intro z20 ez20
      replace h := h z20 ez20
      have pz20 : ∃ o, S0.2.1 35 o = z20 := ⟨_, by rw [ez20, hF.2.1 35 (by decide)]⟩
      intro q21 eq21
      replace h := h q21 eq21
      refine ⟨h.1, ?_⟩
      replace h := h.2
      intro z22 ez22
      replace h := h z22 ez22
      intro z23 ez23
      replace h := h z23 ez23
      refine ⟨h.1, ?_⟩
      replace h := h.2
      intro S24 eS24
      replace h := h S24 eS24
      replace hF := KF_a (fid := 35) hF eS24 (by decide) (by rw [← eq21]; exact pz20)
      intro z25 ez25
      replace h := h z25 ez25
      intro q26 eq26
      replace h := h q26 eq26
      refine ⟨h.1, ?_⟩
      replace h := h.2
      intro z27 ez27
      replace h := h z27 ez27
      intro z28 ez28
      replace h := h z28 ez28
      exact hk _ _ hF h
    · replace h := h.2 c
      exact hk _ _ hF h
  · replace h := h.2 c
    intro z29 ez29
    replace h := h z29 ez29
    intro z30 ez30
    replace h := h z30 ez30
    intro z31 ez31
    replace h := h z31 ez31
    intro q32 eq32
    replace h := h q32 eq32
    refine ⟨h.1, ?_⟩
    replace h := h.2
    intro z33 ez33
    replace h := h z33 ez33
    intro z34 ez34
    replace h := h z34 ez34
    refine ⟨fun c => ?_, fun c => ?_⟩
    · replace h := h.1 c
      intro z36 ez36
      replace h := h z36 ez36
      exact hk16 _ hF h
    · replace h := h.2 c
      exact hk _ _ hF h
theorem kmlT_X5_cellOf_16 {K K' : kS → Int32 → Prop} {S0 : kS} (hk : ∀ S1 r1, KF [] [] [35] [39] [] S0 S1 → K S1 r1 → K' S1 r1) : ∀ (n : Nat) (u : Nat × Int64 × Int32 × Int32 × kS), KF [] [] [35] [39] [] S0 u.2.2.2.2 → it (lT_X5_cellOf_16 K) n u → it (lT_X5_cellOf_16 K') n u := by
  intro n
  induction n with
  | zero => exact fun _ _ h => h
  | succ n ih => exact fun u hF h => kmT_X5_cellOf_16 hk ih hF h
theorem kmT_X5_cellOf (t0 : Nat) (a0 : Int64) : KmI [] [] [35] [39] [] (wT_X5_cellOf t0 a0) := by
  intro S0 K K' hk h
  have hF : KF [] [] [35] [39] [] S0 S0 := KF_rf
  unfold wT_X5_cellOf at h ⊢
  intro z1 ez1
  replace h := h z1 ez1
  intro z2 ez2
  replace h := h z2 ez2
  refine ⟨fun c => ?_, fun c => ?_⟩
  · replace h := h.1 c
    obtain ⟨n9, h⟩ := h
    exact ⟨n9, kmlT_X5_cellOf_16 hk n9 _ hF h⟩
  · replace h := h.2 c
    exact hk _ _ hF h
theorem kmT_X3_cellHere (t0 : Nat) : KmI [6, 7] [] [35] [39] [] (wT_X3_cellHere t0) := by
  intro S0 K K' hk h
  have hF : KF [6, 7] [] [35] [39] [] S0 S0 := KF_rf
  unfold wT_X3_cellHere at h ⊢
  refine kmT_X3_kind _ _ _ _ (fun S1 r1 hG h => ?_) h
  replace hF := KF_t hF hG (by decide) (by decide) (by decide) (by decide) (by decide) (by decide) (by decide) (by decide)
  refine ⟨fun c => ?_, fun c => ?_⟩
  · replace h := h.1 c
    intro z3 ez3
    replace h := h z3 ez3
    intro z4 ez4
    replace h := h z4 ez4
    intro q5 eq5
    replace h := h q5 eq5
    intro z6 ez6
    replace h := h z6 ez6
    intro z7 ez7
    replace h := h z7 ez7
    intro q8 eq8
    replace h := h q8 eq8
    refine ⟨h.1, ?_⟩
    replace h := h.2
    intro z9 ez9
    replace h := h z9 ez9
    obtain ⟨q10, eq10, h9⟩ := h
    replace h := h9
    clear h9
    refine ⟨q10, eq10, ?_⟩
    refine kmT_X5_cellOf _ _ _ _ _ (fun S11 r11 hG h => ?_) h
    replace hF := KF_t hF hG (by decide) (by decide) (by decide) (by decide) (by decide) (by decide) (by decide) (by decide)
    refine ⟨fun c => ?_, fun c => ?_⟩
    · replace h := h.1 c
      refine kmT_X3_step _ _ _ _ (fun S13 hG h => ?_) h
      replace hF := KF_t hF hG (by decide) (by decide) (by decide) (by decide) (by decide) (by decide) (by decide) (by decide)
      exact hk _ _ hF h
    · replace h := h.2 c
      refine kmT_X3_wrong _ _ _ _ _ (fun S14 hG h => ?_) h
      replace hF := KF_t hF hG (by decide) (by decide) (by decide) (by decide) (by decide) (by decide) (by decide) (by decide)
      exact hk _ _ hF h
  · replace h := h.2 c
    refine kmT_X3_wrong _ _ _ _ _ (fun S15 hG h => ?_) h
    replace hF := KF_t hF hG (by decide) (by decide) (by decide) (by decide) (by decide) (by decide) (by decide) (by decide)
    exact hk _ _ hF h
theorem kmT_X5_emit (t0 : Nat) (a0 : Int32) (a1 : Int32) (a2 : Int32) : KmI [17] [] [28, 29, 30] [] [] (wT_X5_emit t0 a0 a1 a2) := by
  intro S0 K K' hk h
  have hF : KF [17] [] [28, 29, 30] [] [] S0 S0 := KF_rf
  unfold wT_X5_emit at h ⊢
  intro z1 ez1
  replace h := h z1 ez1
  refine ⟨fun c => ?_, fun c => ?_⟩
  · replace h := h.1 c
    intro z3 ez3
    replace h := h z3 ez3
    have pz3 : ∃ o, S0.2.1 28 o = z3 := ⟨_, by rw [ez3, hF.2.1 28 (by decide)]⟩
    intro z4 ez4
    replace h := h z4 ez4
    intro q5 eq5
    replace h := h q5 eq5
    refine ⟨h.1, ?_⟩
    replace h := h.2
    intro S6 eS6
    replace h := h S6 eS6
    replace hF := KF_a (fid := 28) hF eS6 (by decide) (by rw [← eq5]; exact pz3)
    intro z7 ez7
    replace h := h z7 ez7
    have pz7 : ∃ o, S0.2.1 29 o = z7 := ⟨_, by rw [ez7, hF.2.1 29 (by decide)]⟩
    intro z8 ez8
    replace h := h z8 ez8
    intro q9 eq9
    replace h := h q9 eq9
    refine ⟨h.1, ?_⟩
    replace h := h.2
    intro S10 eS10
    replace h := h S10 eS10
    replace hF := KF_a (fid := 29) hF eS10 (by decide) (by rw [← eq9]; exact pz7)
    intro z11 ez11
    replace h := h z11 ez11
    have pz11 : ∃ o, S0.2.1 30 o = z11 := ⟨_, by rw [ez11, hF.2.1 30 (by decide)]⟩
    intro z12 ez12
    replace h := h z12 ez12
    intro q13 eq13
    replace h := h q13 eq13
    refine ⟨h.1, ?_⟩
    replace h := h.2
    intro S14 eS14
    replace h := h S14 eS14
    replace hF := KF_a (fid := 30) hF eS14 (by decide) (by rw [← eq13]; exact pz11)
    intro z15 ez15
    replace h := h z15 ez15
    intro z16 ez16
    replace h := h z16 ez16
    intro S17 eS17
    replace h := h S17 eS17
    replace hF := KF_i hF eS17 (by decide)
    intro z18 ez18
    replace h := h z18 ez18
    intro z19 ez19
    replace h := h z19 ez19
    exact hk _ _ hF h
  · replace h := h.2 c
    exact hk _ _ hF h
theorem kmT_X3_emit (t0 : Nat) (a0 : Int32) (a1 : Int32) : KmI [17] [] [28, 29, 30] [] [] (wT_X3_emit t0 a0 a1) := by
  intro S0 K K' hk h
  have hF : KF [17] [] [28, 29, 30] [] [] S0 S0 := KF_rf
  unfold wT_X3_emit at h ⊢
  intro z1 ez1
  replace h := h z1 ez1
  intro z2 ez2
  replace h := h z2 ez2
  obtain ⟨q3, eq3, h9⟩ := h
  replace h := h9
  clear h9
  refine ⟨q3, eq3, ?_⟩
  refine kmT_X5_emit _ _ _ _ _ _ _ (fun S4 r4 hG h => ?_) h
  replace hF := KF_t hF hG (by decide) (by decide) (by decide) (by decide) (by decide) (by decide) (by decide) (by decide)
  exact hk _ _ hF h
theorem kmT_X3_take (t0 : Nat) (a0 : Int32) : KmI [6] [] [] [] [] (wT_X3_take t0 a0) := by
  intro S0 K K' hk h
  have hF : KF [6] [] [] [] [] S0 S0 := KF_rf
  unfold wT_X3_take at h ⊢
  intro z1 ez1
  replace h := h z1 ez1
  intro q2 eq2
  replace h := h q2 eq2
  intro z3 ez3
  replace h := h z3 ez3
  intro z4 ez4
  replace h := h z4 ez4
  intro q5 eq5
  replace h := h q5 eq5
  refine ⟨h.1, ?_⟩
  replace h := h.2
  intro z6 ez6
  replace h := h z6 ez6
  refine ⟨fun c => ?_, fun c => ?_⟩
  · replace h := h.1 c
    exact hk _ _ hF h
  · replace h := h.2 c
    intro z8 ez8
    replace h := h z8 ez8
    intro z9 ez9
    replace h := h z9 ez9
    intro z10 ez10
    replace h := h z10 ez10
    intro q11 eq11
    replace h := h q11 eq11
    intro z12 ez12
    replace h := h z12 ez12
    refine ⟨fun c => ?_, fun c => ?_⟩
    · replace h := h.1 c
      intro z14 ez14
      replace h := h z14 ez14
      intro z15 ez15
      replace h := h z15 ez15
      intro S16 eS16
      replace h := h S16 eS16
      replace hF := KF_i hF eS16 (by decide)
      exact hk _ _ hF h
    · replace h := h.2 c
      exact hk _ _ hF h
theorem kmT_X3_need (t0 : Nat) (a0 : Int32) : KmV [6, 7] [] [] [] [] (wT_X3_need t0 a0) := by
  intro S0 K K' hk h
  have hF : KF [6, 7] [] [] [] [] S0 S0 := KF_rf
  unfold wT_X3_need at h ⊢
  refine kmT_X3_take _ _ _ _ _ (fun S1 r1 hG h => ?_) h
  replace hF := KF_t hF hG (by decide) (by decide) (by decide) (by decide) (by decide) (by decide) (by decide) (by decide)
  refine ⟨fun c => ?_, fun c => ?_⟩
  · replace h := h.1 c
    exact hk _ hF h
  · replace h := h.2 c
    refine kmT_X3_wrong _ _ _ _ _ (fun S3 hG h => ?_) h
    replace hF := KF_t hF hG (by decide) (by decide) (by decide) (by decide) (by decide) (by decide) (by decide) (by decide)
    exact hk _ hF h
theorem kmT_X3_product_82 {r_X3_part : Nat → Int32 → kS → (kS → Prop) → Prop} (hr_X3_part : ∀ t0 : Nat, ∀ a0 : Int32, KmV [6, 7, 17] [] [28, 29, 30, 35] [39] [] (r_X3_part t0 a0)) {K K' : kS → Prop} {k12 k12' : Nat × Int32 × Int32 × Int32 × kS → Prop} {S0 : kS} (hk : ∀ S1, KF [6, 7, 17] [] [28, 29, 30, 35] [39] [] S0 S1 → K S1 → K' S1) (hk12 : ∀ u : Nat × Int32 × Int32 × Int32 × kS, KF [6, 7, 17] [] [28, 29, 30, 35] [39] [] S0 u.2.2.2.2 → k12 u → k12' u) {x0 : Nat} {x1 : Int32} {x3 : Int32} {S : kS} (hF : KF [6, 7, 17] [] [28, 29, 30, 35] [39] [] S0 S) (h : wT_X3_product_82 r_X3_part K k12 x0 x1 x3 S) : wT_X3_product_82 r_X3_part K' k12' x0 x1 x3 S := by
  unfold wT_X3_product_82 at h ⊢
  refine kmT_X3_kind _ _ _ _ (fun S12 r12 hG h => ?_) h
  replace hF := KF_t hF hG (by decide) (by decide) (by decide) (by decide) (by decide) (by decide) (by decide) (by decide)
  intro z13 ez13
  replace h := h z13 ez13
  exact hk12 _ hF h
theorem kmT_X3_product_77 {r_X3_part : Nat → Int32 → kS → (kS → Prop) → Prop} (hr_X3_part : ∀ t0 : Nat, ∀ a0 : Int32, KmV [6, 7, 17] [] [28, 29, 30, 35] [39] [] (r_X3_part t0 a0)) {K K' : kS → Prop} {k12 k12' : Nat × Int32 × Int32 × Int32 × kS → Prop} {S0 : kS} (hk : ∀ S1, KF [6, 7, 17] [] [28, 29, 30, 35] [39] [] S0 S1 → K S1 → K' S1) (hk12 : ∀ u : Nat × Int32 × Int32 × Int32 × kS, KF [6, 7, 17] [] [28, 29, 30, 35] [39] [] S0 u.2.2.2.2 → k12 u → k12' u) {x0 : Nat} {x1 : Int32} {x3 : Int32} {y0 : Nat} {y1 : Int32} {S : kS} (hF : KF [6, 7, 17] [] [28, 29, 30, 35] [39] [] S0 S) (h : wT_X3_product_77 r_X3_part K k12 x0 x1 x3 y0 y1 S) : wT_X3_product_77 r_X3_part K' k12' x0 x1 x3 y0 y1 S := by
  unfold wT_X3_product_77 at h ⊢
  refine kmT_X3_emit _ _ _ _ _ _ (fun S14 r14 hG h => ?_) h
  replace hF := KF_t hF hG (by decide) (by decide) (by decide) (by decide) (by decide) (by decide) (by decide) (by decide)
  exact kmT_X3_product_82 hr_X3_part hk hk12 hF h
theorem kmT_X3_product_37 {r_X3_part : Nat → Int32 → kS → (kS → Prop) → Prop} (hr_X3_part : ∀ t0 : Nat, ∀ a0 : Int32, KmV [6, 7, 17] [] [28, 29, 30, 35] [39] [] (r_X3_part t0 a0)) {K K' : kS → Prop} {k12 k12' : Nat × Int32 × Int32 × Int32 × kS → Prop} {S0 : kS} (hk : ∀ S1, KF [6, 7, 17] [] [28, 29, 30, 35] [39] [] S0 S1 → K S1 → K' S1) (hk12 : ∀ u : Nat × Int32 × Int32 × Int32 × kS, KF [6, 7, 17] [] [28, 29, 30, 35] [39] [] S0 u.2.2.2.2 → k12 u → k12' u) {x0 : Nat} {x1 : Int32} {x2 : Int32} {x3 : Int32} {S : kS} (hF : KF [6, 7, 17] [] [28, 29, 30, 35] [39] [] S0 S) (h : wT_X3_product_37 r_X3_part K k12 x0 x1 x2 x3 S) : wT_X3_product_37 r_X3_part K' k12' x0 x1 x2 x3 S := by
  unfold wT_X3_product_37 at h ⊢
  refine kmT_X3_step _ _ _ _ (fun S7 hG h => ?_) h
  replace hF := KF_t hF hG (by decide) (by decide) (by decide) (by decide) (by decide) (by decide) (by decide) (by decide)
  refine hr_X3_part _ _ _ _ _ (fun S8 hG h => ?_) h
  replace hF := KF_t hF hG (by decide) (by decide) (by decide) (by decide) (by decide) (by decide) (by decide) (by decide)
  refine ⟨fun c => ?_, fun c => ?_⟩
  · replace h := h.1 c
    refine ⟨fun c => ?_, fun c => ?_⟩
    · replace h := h.1 c
      exact kmT_X3_product_77 hr_X3_part hk hk12 hF h
    · replace h := h.2 c
      exact kmT_X3_product_77 hr_X3_part hk hk12 hF h
  · replace h := h.2 c
    refine kmT_X3_emit _ _ _ _ _ _ (fun S11 r11 hG h => ?_) h
    replace hF := KF_t hF hG (by decide) (by decide) (by decide) (by decide) (by decide) (by decide) (by decide) (by decide)
    exact kmT_X3_product_82 hr_X3_part hk hk12 hF h
theorem kmT_X3_product_12 {r_X3_part : Nat → Int32 → kS → (kS → Prop) → Prop} (hr_X3_part : ∀ t0 : Nat, ∀ a0 : Int32, KmV [6, 7, 17] [] [28, 29, 30, 35] [39] [] (r_X3_part t0 a0)) {K K' : kS → Prop} {k12 k12' : Nat × Int32 × Int32 × Int32 × kS → Prop} {S0 : kS} (hk : ∀ S1, KF [6, 7, 17] [] [28, 29, 30, 35] [39] [] S0 S1 → K S1 → K' S1) (hk12 : ∀ u : Nat × Int32 × Int32 × Int32 × kS, KF [6, 7, 17] [] [28, 29, 30, 35] [39] [] S0 u.2.2.2.2 → k12 u → k12' u) {x0 : Nat} {x1 : Int32} {x2 : Int32} {x3 : Int32} {S : kS} (hF : KF [6, 7, 17] [] [28, 29, 30, 35] [39] [] S0 S) (h : wT_X3_product_12 r_X3_part K k12 x0 x1 x2 x3 S) : wT_X3_product_12 r_X3_part K' k12' x0 x1 x2 x3 S := by
  unfold wT_X3_product_12 at h ⊢
  refine ⟨fun c => ?_, fun c => ?_⟩
  · replace h := h.1 c
    exact hk _ hF h
  · replace h := h.2 c
    refine ⟨fun c => ?_, fun c => ?_⟩
    · replace h := h.1 c
      exact kmT_X3_product_37 hr_X3_part hk hk12 hF h
    · replace h := h.2 c
      refine ⟨fun c => ?_, fun c => ?_⟩
      · replace h := h.1 c
        exact kmT_X3_product_37 hr_X3_part hk hk12 hF h
      · replace h := h.2 c
        refine ⟨fun c => ?_, fun c => ?_⟩
        · replace h := h.1 c
          exact hk _ hF h
        · replace h := h.2 c
          exact kmT_X3_product_37 hr_X3_part hk hk12 hF h
theorem kmlT_X3_product_12 {r_X3_part : Nat → Int32 → kS → (kS → Prop) → Prop} (hr_X3_part : ∀ t0 : Nat, ∀ a0 : Int32, KmV [6, 7, 17] [] [28, 29, 30, 35] [39] [] (r_X3_part t0 a0)) {K K' : kS → Prop} {S0 : kS} (hk : ∀ S1, KF [6, 7, 17] [] [28, 29, 30, 35] [39] [] S0 S1 → K S1 → K' S1) : ∀ (n : Nat) (u : Nat × Int32 × Int32 × Int32 × kS), KF [6, 7, 17] [] [28, 29, 30, 35] [39] [] S0 u.2.2.2.2 → it (lT_X3_product_12 r_X3_part K) n u → it (lT_X3_product_12 r_X3_part K') n u := by
  intro n
  induction n with
  | zero => exact fun _ _ h => h
  | succ n ih => exact fun u hF h => kmT_X3_product_12 hr_X3_part hk ih hF h
theorem kmT_X3_product {r_X3_part : Nat → Int32 → kS → (kS → Prop) → Prop} (hr_X3_part : ∀ t0 : Nat, ∀ a0 : Int32, KmV [6, 7, 17] [] [28, 29, 30, 35] [39] [] (r_X3_part t0 a0)) (t0 : Nat) (a0 : Int32) : KmV [6, 7, 17] [] [28, 29, 30, 35] [39] [] (wT_X3_product r_X3_part t0 a0) := by
  intro S0 K K' hk h
  have hF : KF [6, 7, 17] [] [28, 29, 30, 35] [39] [] S0 S0 := KF_rf
  unfold wT_X3_product at h ⊢
  refine hr_X3_part _ _ _ _ _ (fun S1 hG h => ?_) h
  replace hF := KF_t hF hG (by decide) (by decide) (by decide) (by decide) (by decide) (by decide) (by decide) (by decide)
  refine kmT_X3_kind _ _ _ _ (fun S2 r2 hG h => ?_) h
  replace hF := KF_t hF hG (by decide) (by decide) (by decide) (by decide) (by decide) (by decide) (by decide) (by decide)
  obtain ⟨n9, h⟩ := h
  exact ⟨n9, kmlT_X3_product_12 hr_X3_part hk n9 _ hF h⟩
theorem kmT_X3_sum_54 {r_X3_part : Nat → Int32 → kS → (kS → Prop) → Prop} (hr_X3_part : ∀ t0 : Nat, ∀ a0 : Int32, KmV [6, 7, 17] [] [28, 29, 30, 35] [39] [] (r_X3_part t0 a0)) {K K' : kS → Prop} {k12 k12' : Nat × Int32 × Int32 × Int32 × kS → Prop} {S0 : kS} (hk : ∀ S1, KF [6, 7, 17] [] [28, 29, 30, 35] [39] [] S0 S1 → K S1 → K' S1) (hk12 : ∀ u : Nat × Int32 × Int32 × Int32 × kS, KF [6, 7, 17] [] [28, 29, 30, 35] [39] [] S0 u.2.2.2.2 → k12 u → k12' u) {x0 : Nat} {x1 : Int32} {x3 : Int32} {y0 : Nat} {y1 : Int32} {S : kS} (hF : KF [6, 7, 17] [] [28, 29, 30, 35] [39] [] S0 S) (h : wT_X3_sum_54 r_X3_part K k12 x0 x1 x3 y0 y1 S) : wT_X3_sum_54 r_X3_part K' k12' x0 x1 x3 y0 y1 S := by
  unfold wT_X3_sum_54 at h ⊢
  refine kmT_X3_emit _ _ _ _ _ _ (fun S9 r9 hG h => ?_) h
  replace hF := KF_t hF hG (by decide) (by decide) (by decide) (by decide) (by decide) (by decide) (by decide) (by decide)
  refine kmT_X3_kind _ _ _ _ (fun S10 r10 hG h => ?_) h
  replace hF := KF_t hF hG (by decide) (by decide) (by decide) (by decide) (by decide) (by decide) (by decide) (by decide)
  intro z11 ez11
  replace h := h z11 ez11
  exact hk12 _ hF h
theorem kmT_X3_sum_31 {r_X3_part : Nat → Int32 → kS → (kS → Prop) → Prop} (hr_X3_part : ∀ t0 : Nat, ∀ a0 : Int32, KmV [6, 7, 17] [] [28, 29, 30, 35] [39] [] (r_X3_part t0 a0)) {K K' : kS → Prop} {k12 k12' : Nat × Int32 × Int32 × Int32 × kS → Prop} {S0 : kS} (hk : ∀ S1, KF [6, 7, 17] [] [28, 29, 30, 35] [39] [] S0 S1 → K S1 → K' S1) (hk12 : ∀ u : Nat × Int32 × Int32 × Int32 × kS, KF [6, 7, 17] [] [28, 29, 30, 35] [39] [] S0 u.2.2.2.2 → k12 u → k12' u) {x0 : Nat} {x1 : Int32} {x2 : Int32} {x3 : Int32} {S : kS} (hF : KF [6, 7, 17] [] [28, 29, 30, 35] [39] [] S0 S) (h : wT_X3_sum_31 r_X3_part K k12 x0 x1 x2 x3 S) : wT_X3_sum_31 r_X3_part K' k12' x0 x1 x2 x3 S := by
  unfold wT_X3_sum_31 at h ⊢
  refine kmT_X3_step _ _ _ _ (fun S6 hG h => ?_) h
  replace hF := KF_t hF hG (by decide) (by decide) (by decide) (by decide) (by decide) (by decide) (by decide) (by decide)
  refine kmT_X3_product hr_X3_part _ _ _ _ _ (fun S7 hG h => ?_) h
  replace hF := KF_t hF hG (by decide) (by decide) (by decide) (by decide) (by decide) (by decide) (by decide) (by decide)
  refine ⟨fun c => ?_, fun c => ?_⟩
  · replace h := h.1 c
    exact kmT_X3_sum_54 hr_X3_part hk hk12 hF h
  · replace h := h.2 c
    exact kmT_X3_sum_54 hr_X3_part hk hk12 hF h
theorem kmT_X3_sum_12 {r_X3_part : Nat → Int32 → kS → (kS → Prop) → Prop} (hr_X3_part : ∀ t0 : Nat, ∀ a0 : Int32, KmV [6, 7, 17] [] [28, 29, 30, 35] [39] [] (r_X3_part t0 a0)) {K K' : kS → Prop} {k12 k12' : Nat × Int32 × Int32 × Int32 × kS → Prop} {S0 : kS} (hk : ∀ S1, KF [6, 7, 17] [] [28, 29, 30, 35] [39] [] S0 S1 → K S1 → K' S1) (hk12 : ∀ u : Nat × Int32 × Int32 × Int32 × kS, KF [6, 7, 17] [] [28, 29, 30, 35] [39] [] S0 u.2.2.2.2 → k12 u → k12' u) {x0 : Nat} {x1 : Int32} {x2 : Int32} {x3 : Int32} {S : kS} (hF : KF [6, 7, 17] [] [28, 29, 30, 35] [39] [] S0 S) (h : wT_X3_sum_12 r_X3_part K k12 x0 x1 x2 x3 S) : wT_X3_sum_12 r_X3_part K' k12' x0 x1 x2 x3 S := by
  unfold wT_X3_sum_12 at h ⊢
  refine ⟨fun c => ?_, fun c => ?_⟩
  · replace h := h.1 c
    exact hk _ hF h
  · replace h := h.2 c
    refine ⟨fun c => ?_, fun c => ?_⟩
    · replace h := h.1 c
      exact kmT_X3_sum_31 hr_X3_part hk hk12 hF h
    · replace h := h.2 c
      refine ⟨fun c => ?_, fun c => ?_⟩
      · replace h := h.1 c
        exact hk _ hF h
      · replace h := h.2 c
        exact kmT_X3_sum_31 hr_X3_part hk hk12 hF h
theorem kmlT_X3_sum_12 {r_X3_part : Nat → Int32 → kS → (kS → Prop) → Prop} (hr_X3_part : ∀ t0 : Nat, ∀ a0 : Int32, KmV [6, 7, 17] [] [28, 29, 30, 35] [39] [] (r_X3_part t0 a0)) {K K' : kS → Prop} {S0 : kS} (hk : ∀ S1, KF [6, 7, 17] [] [28, 29, 30, 35] [39] [] S0 S1 → K S1 → K' S1) : ∀ (n : Nat) (u : Nat × Int32 × Int32 × Int32 × kS), KF [6, 7, 17] [] [28, 29, 30, 35] [39] [] S0 u.2.2.2.2 → it (lT_X3_sum_12 r_X3_part K) n u → it (lT_X3_sum_12 r_X3_part K') n u := by
  intro n
  induction n with
  | zero => exact fun _ _ h => h
  | succ n ih => exact fun u hF h => kmT_X3_sum_12 hr_X3_part hk ih hF h
theorem kmT_X3_sum {r_X3_part : Nat → Int32 → kS → (kS → Prop) → Prop} (hr_X3_part : ∀ t0 : Nat, ∀ a0 : Int32, KmV [6, 7, 17] [] [28, 29, 30, 35] [39] [] (r_X3_part t0 a0)) (t0 : Nat) (a0 : Int32) : KmV [6, 7, 17] [] [28, 29, 30, 35] [39] [] (wT_X3_sum r_X3_part t0 a0) := by
  intro S0 K K' hk h
  have hF : KF [6, 7, 17] [] [28, 29, 30, 35] [39] [] S0 S0 := KF_rf
  unfold wT_X3_sum at h ⊢
  refine kmT_X3_product hr_X3_part _ _ _ _ _ (fun S1 hG h => ?_) h
  replace hF := KF_t hF hG (by decide) (by decide) (by decide) (by decide) (by decide) (by decide) (by decide) (by decide)
  refine kmT_X3_kind _ _ _ _ (fun S2 r2 hG h => ?_) h
  replace hF := KF_t hF hG (by decide) (by decide) (by decide) (by decide) (by decide) (by decide) (by decide) (by decide)
  obtain ⟨n9, h⟩ := h
  exact ⟨n9, kmlT_X3_sum_12 hr_X3_part hk n9 _ hF h⟩
theorem kmT_X3_expression_45 {r_X3_part : Nat → Int32 → kS → (kS → Prop) → Prop} (hr_X3_part : ∀ t0 : Nat, ∀ a0 : Int32, KmV [6, 7, 17] [] [28, 29, 30, 35] [39] [] (r_X3_part t0 a0)) {K K' : kS → Prop} {S0 : kS} (hk : ∀ S1, KF [6, 7, 17] [] [28, 29, 30, 35] [39] [] S0 S1 → K S1 → K' S1) {y0 : Nat} {y1 : Int32} {S : kS} (hF : KF [6, 7, 17] [] [28, 29, 30, 35] [39] [] S0 S) (h : wT_X3_expression_45 r_X3_part K y0 y1 S) : wT_X3_expression_45 r_X3_part K' y0 y1 S := by
  unfold wT_X3_expression_45 at h ⊢
  refine kmT_X3_emit _ _ _ _ _ _ (fun S8 r8 hG h => ?_) h
  replace hF := KF_t hF hG (by decide) (by decide) (by decide) (by decide) (by decide) (by decide) (by decide) (by decide)
  exact hk _ hF h
theorem kmT_X3_expression_22 {r_X3_part : Nat → Int32 → kS → (kS → Prop) → Prop} (hr_X3_part : ∀ t0 : Nat, ∀ a0 : Int32, KmV [6, 7, 17] [] [28, 29, 30, 35] [39] [] (r_X3_part t0 a0)) {K K' : kS → Prop} {S0 : kS} (hk : ∀ S1, KF [6, 7, 17] [] [28, 29, 30, 35] [39] [] S0 S1 → K S1 → K' S1) {x0 : Nat} {x1 : Int32} {x2 : Int32} {S : kS} (hF : KF [6, 7, 17] [] [28, 29, 30, 35] [39] [] S0 S) (h : wT_X3_expression_22 r_X3_part K x0 x1 x2 S) : wT_X3_expression_22 r_X3_part K' x0 x1 x2 S := by
  unfold wT_X3_expression_22 at h ⊢
  refine kmT_X3_step _ _ _ _ (fun S5 hG h => ?_) h
  replace hF := KF_t hF hG (by decide) (by decide) (by decide) (by decide) (by decide) (by decide) (by decide) (by decide)
  refine kmT_X3_sum hr_X3_part _ _ _ _ _ (fun S6 hG h => ?_) h
  replace hF := KF_t hF hG (by decide) (by decide) (by decide) (by decide) (by decide) (by decide) (by decide) (by decide)
  refine ⟨fun c => ?_, fun c => ?_⟩
  · replace h := h.1 c
    exact kmT_X3_expression_45 hr_X3_part hk hF h
  · replace h := h.2 c
    exact kmT_X3_expression_45 hr_X3_part hk hF h
theorem kmT_X3_expression {r_X3_part : Nat → Int32 → kS → (kS → Prop) → Prop} (hr_X3_part : ∀ t0 : Nat, ∀ a0 : Int32, KmV [6, 7, 17] [] [28, 29, 30, 35] [39] [] (r_X3_part t0 a0)) (t0 : Nat) (a0 : Int32) : KmV [6, 7, 17] [] [28, 29, 30, 35] [39] [] (wT_X3_expression r_X3_part t0 a0) := by
  intro S0 K K' hk h
  have hF : KF [6, 7, 17] [] [28, 29, 30, 35] [39] [] S0 S0 := KF_rf
  unfold wT_X3_expression at h ⊢
  refine kmT_X3_sum hr_X3_part _ _ _ _ _ (fun S1 hG h => ?_) h
  replace hF := KF_t hF hG (by decide) (by decide) (by decide) (by decide) (by decide) (by decide) (by decide) (by decide)
  refine kmT_X3_kind _ _ _ _ (fun S2 r2 hG h => ?_) h
  replace hF := KF_t hF hG (by decide) (by decide) (by decide) (by decide) (by decide) (by decide) (by decide) (by decide)
  refine ⟨fun c => ?_, fun c => ?_⟩
  · replace h := h.1 c
    exact kmT_X3_expression_22 hr_X3_part hk hF h
  · replace h := h.2 c
    refine ⟨fun c => ?_, fun c => ?_⟩
    · replace h := h.1 c
      exact hk _ hF h
    · replace h := h.2 c
      exact kmT_X3_expression_22 hr_X3_part hk hF h
theorem kmT_X3_part_60 {r_X3_part : Nat → Int32 → kS → (kS → Prop) → Prop} (hr_X3_part : ∀ t0 : Nat, ∀ a0 : Int32, KmV [6, 7, 17] [] [28, 29, 30, 35] [39] [] (r_X3_part t0 a0)) {K K' : kS → Prop} {S0 : kS} (hk : ∀ S1, KF [6, 7, 17] [] [28, 29, 30, 35] [39] [] S0 S1 → K S1 → K' S1) {y0 : Nat} {y1 : Int32} {S : kS} (hF : KF [6, 7, 17] [] [28, 29, 30, 35] [39] [] S0 S) (h : wT_X3_part_60 r_X3_part K y0 y1 S) : wT_X3_part_60 r_X3_part K' y0 y1 S := by
  unfold wT_X3_part_60 at h ⊢
  refine kmT_X3_wrong _ _ _ _ _ (fun S34 hG h => ?_) h
  replace hF := KF_t hF hG (by decide) (by decide) (by decide) (by decide) (by decide) (by decide) (by decide) (by decide)
  exact hk _ hF h
theorem kmT_X3_part_50 {r_X3_part : Nat → Int32 → kS → (kS → Prop) → Prop} (hr_X3_part : ∀ t0 : Nat, ∀ a0 : Int32, KmV [6, 7, 17] [] [28, 29, 30, 35] [39] [] (r_X3_part t0 a0)) {K K' : kS → Prop} {S0 : kS} (hk : ∀ S1, KF [6, 7, 17] [] [28, 29, 30, 35] [39] [] S0 S1 → K S1 → K' S1) {x0 : Nat} {x3 : Int32} {S : kS} (hF : KF [6, 7, 17] [] [28, 29, 30, 35] [39] [] S0 S) (h : wT_X3_part_50 r_X3_part K x0 x3 S) : wT_X3_part_50 r_X3_part K' x0 x3 S := by
  unfold wT_X3_part_50 at h ⊢
  refine ⟨fun c => ?_, fun c => ?_⟩
  · replace h := h.1 c
    exact kmT_X3_part_60 hr_X3_part hk hF h
  · replace h := h.2 c
    exact kmT_X3_part_60 hr_X3_part hk hF h
theorem kmT_X3_part_39 {r_X3_part : Nat → Int32 → kS → (kS → Prop) → Prop} (hr_X3_part : ∀ t0 : Nat, ∀ a0 : Int32, KmV [6, 7, 17] [] [28, 29, 30, 35] [39] [] (r_X3_part t0 a0)) {K K' : kS → Prop} {S0 : kS} (hk : ∀ S1, KF [6, 7, 17] [] [28, 29, 30, 35] [39] [] S0 S1 → K S1 → K' S1) {x0 : Nat} {x1 : Int32} {x2 : Int32} {y0 : Int32} {S : kS} (hF : KF [6, 7, 17] [] [28, 29, 30, 35] [39] [] S0 S) (h : wT_X3_part_39 r_X3_part K x0 x1 x2 y0 S) : wT_X3_part_39 r_X3_part K' x0 x1 x2 y0 S := by
  unfold wT_X3_part_39 at h ⊢
  refine ⟨fun c => ?_, fun c => ?_⟩
  · replace h := h.1 c
    exact kmT_X3_part_50 hr_X3_part hk hF h
  · replace h := h.2 c
    refine ⟨fun c => ?_, fun c => ?_⟩
    · replace h := h.1 c
      refine ⟨fun c => ?_, fun c => ?_⟩
      · replace h := h.1 c
        intro z10 ez10
        replace h := h z10 ez10
        intro q11 eq11
        replace h := h q11 eq11
        intro z12 ez12
        replace h := h z12 ez12
        intro z13 ez13
        replace h := h z13 ez13
        intro q14 eq14
        replace h := h q14 eq14
        refine ⟨h.1, ?_⟩
        replace h := h.2
        intro z15 ez15
        replace h := h z15 ez15
        intro z16 ez16
        replace h := h z16 ez16
        refine kmT_X3_step _ _ _ _ (fun S17 hG h => ?_) h
        replace hF := KF_t hF hG (by decide) (by decide) (by decide) (by decide) (by decide) (by decide) (by decide) (by decide)
        refine ⟨fun c => ?_, fun c => ?_⟩
        · replace h := h.1 c
          refine ⟨fun c => ?_, fun c => ?_⟩
          · replace h := h.1 c
            refine ⟨fun c => ?_, fun c => ?_⟩
            · replace h := h.1 c
              refine kmT_X3_emit _ _ _ _ _ _ (fun S21 r21 hG h => ?_) h
              replace hF := KF_t hF hG (by decide) (by decide) (by decide) (by decide) (by decide) (by decide) (by decide) (by decide)
              intro z22 ez22
              replace h := h z22 ez22
              refine hr_X3_part _ _ _ _ _ (fun S23 hG h => ?_) h
              replace hF := KF_t hF hG (by decide) (by decide) (by decide) (by decide) (by decide) (by decide) (by decide) (by decide)
              refine kmT_X3_emit _ _ _ _ _ _ (fun S24 r24 hG h => ?_) h
              replace hF := KF_t hF hG (by decide) (by decide) (by decide) (by decide) (by decide) (by decide) (by decide) (by decide)
              exact hk _ hF h
            · replace h := h.2 c
              refine kmT_X3_emit _ _ _ _ _ _ (fun S25 r25 hG h => ?_) h
              replace hF := KF_t hF hG (by decide) (by decide) (by decide) (by decide) (by decide) (by decide) (by decide) (by decide)
              intro z26 ez26
              replace h := h z26 ez26
              refine kmT_X3_expression hr_X3_part _ _ _ _ _ (fun S27 hG h => ?_) h
              replace hF := KF_t hF hG (by decide) (by decide) (by decide) (by decide) (by decide) (by decide) (by decide) (by decide)
              refine kmT_X3_need _ _ _ _ _ (fun S28 hG h => ?_) h
              replace hF := KF_t hF hG (by decide) (by decide) (by decide) (by decide) (by decide) (by decide) (by decide) (by decide)
              exact hk _ hF h
          · replace h := h.2 c
            refine kmT_X3_emit _ _ _ _ _ _ (fun S29 r29 hG h => ?_) h
            replace hF := KF_t hF hG (by decide) (by decide) (by decide) (by decide) (by decide) (by decide) (by decide) (by decide)
            exact hk _ hF h
        · replace h := h.2 c
          refine kmT_X3_emit _ _ _ _ _ _ (fun S30 r30 hG h => ?_) h
          replace hF := KF_t hF hG (by decide) (by decide) (by decide) (by decide) (by decide) (by decide) (by decide) (by decide)
          exact hk _ hF h
      · replace h := h.2 c
        refine kmT_X3_cellHere _ _ _ _ (fun S31 r31 hG h => ?_) h
        replace hF := KF_t hF hG (by decide) (by decide) (by decide) (by decide) (by decide) (by decide) (by decide) (by decide)
        refine kmT_X3_emit _ _ _ _ _ _ (fun S32 r32 hG h => ?_) h
        replace hF := KF_t hF hG (by decide) (by decide) (by decide) (by decide) (by decide) (by decide) (by decide) (by decide)
        exact hk _ hF h
    · replace h := h.2 c
      exact kmT_X3_part_50 hr_X3_part hk hF h
theorem kmT_X3_part_34 {r_X3_part : Nat → Int32 → kS → (kS → Prop) → Prop} (hr_X3_part : ∀ t0 : Nat, ∀ a0 : Int32, KmV [6, 7, 17] [] [28, 29, 30, 35] [39] [] (r_X3_part t0 a0)) {K K' : kS → Prop} {S0 : kS} (hk : ∀ S1, KF [6, 7, 17] [] [28, 29, 30, 35] [39] [] S0 S1 → K S1 → K' S1) {x0 : Nat} {x1 : Int32} {x2 : Int32} {S : kS} (hF : KF [6, 7, 17] [] [28, 29, 30, 35] [39] [] S0 S) (h : wT_X3_part_34 r_X3_part K x0 x1 x2 S) : wT_X3_part_34 r_X3_part K' x0 x1 x2 S := by
  unfold wT_X3_part_34 at h ⊢
  exact kmT_X3_part_39 hr_X3_part hk hF h
theorem kmT_X3_part {r_X3_part : Nat → Int32 → kS → (kS → Prop) → Prop} (hr_X3_part : ∀ t0 : Nat, ∀ a0 : Int32, KmV [6, 7, 17] [] [28, 29, 30, 35] [39] [] (r_X3_part t0 a0)) (t0 : Nat) (a0 : Int32) : KmV [6, 7, 17] [] [28, 29, 30, 35] [39] [] (wT_X3_part r_X3_part t0 a0) := by
  intro S0 K K' hk h
  have hF : KF [6, 7, 17] [] [28, 29, 30, 35] [39] [] S0 S0 := KF_rf
  unfold wT_X3_part at h ⊢
  refine kmT_X3_kind _ _ _ _ (fun S1 r1 hG h => ?_) h
  replace hF := KF_t hF hG (by decide) (by decide) (by decide) (by decide) (by decide) (by decide) (by decide) (by decide)
  refine ⟨fun c => ?_, fun c => ?_⟩
  · replace h := h.1 c
    exact kmT_X3_part_34 hr_X3_part hk hF h
  · replace h := h.2 c
    refine ⟨fun c => ?_, fun c => ?_⟩
    · replace h := h.1 c
      exact kmT_X3_part_34 hr_X3_part hk hF h
    · replace h := h.2 c
      refine ⟨fun c => ?_, fun c => ?_⟩
      · replace h := h.1 c
        exact kmT_X3_part_34 hr_X3_part hk hF h
      · replace h := h.2 c
        refine ⟨fun c => ?_, fun c => ?_⟩
        · replace h := h.1 c
          exact kmT_X3_part_34 hr_X3_part hk hF h
        · replace h := h.2 c
          refine ⟨fun c => ?_, fun c => ?_⟩
          · replace h := h.1 c
            exact kmT_X3_part_39 hr_X3_part hk hF h
          · replace h := h.2 c
            exact kmT_X3_part_34 hr_X3_part hk hF h
theorem krT_X3_part : ∀ n : Nat, ∀ t0 : Nat, ∀ a0 : Int32, KmV [6, 7, 17] [] [28, 29, 30, 35] [39] [] (wV_X3_part n t0 a0) := by
  intro n
  induction n with
  | zero => exact fun _ _ _ _ _ _ h => h
  | succ n ih => exact kmT_X3_part ih
theorem kqT_X3_part (t0 : Nat) (a0 : Int32) : KmV [6, 7, 17] [] [28, 29, 30, 35] [39] [] (wU_X3_part t0 a0) := krT_X3_part 12 t0 a0
theorem kqT_X3_product (t0 : Nat) (a0 : Int32) : KmV [6, 7, 17] [] [28, 29, 30, 35] [39] [] (wU_X3_product t0 a0) := kmT_X3_product (krT_X3_part 12) t0 a0
theorem kqT_X3_sum (t0 : Nat) (a0 : Int32) : KmV [6, 7, 17] [] [28, 29, 30, 35] [39] [] (wU_X3_sum t0 a0) := kmT_X3_sum (krT_X3_part 12) t0 a0
theorem kqT_X3_expression (t0 : Nat) (a0 : Int32) : KmV [6, 7, 17] [] [28, 29, 30, 35] [39] [] (wU_X3_expression t0 a0) := kmT_X3_expression (krT_X3_part 12) t0 a0
theorem kmT_X3_keepChild (t0 : Nat) (a0 : Int32) (a1 : Int32) (a2 : Int32) : KmV [11] [] [17, 18, 19] [20] [] (wT_X3_keepChild t0 a0 a1 a2) := by
  intro S0 K K' hk h
  have hF : KF [11] [] [17, 18, 19] [20] [] S0 S0 := KF_rf
  unfold wT_X3_keepChild at h ⊢
  intro z1 ez1
  replace h := h z1 ez1
  refine ⟨fun c => ?_, fun c => ?_⟩
  · replace h := h.1 c
    exact hk _ hF h
  · replace h := h.2 c
    intro z3 ez3
    replace h := h z3 ez3
    have pz3 : ∃ o, S0.2.1 17 o = z3 := ⟨_, by rw [ez3, hF.2.1 17 (by decide)]⟩
    intro z4 ez4
    replace h := h z4 ez4
    intro q5 eq5
    replace h := h q5 eq5
    refine ⟨h.1, ?_⟩
    replace h := h.2
    intro S6 eS6
    replace h := h S6 eS6
    replace hF := KF_a (fid := 17) hF eS6 (by decide) (by rw [← eq5]; exact pz3)
    intro z7 ez7
    replace h := h z7 ez7
    have pz7 : ∃ o, S0.2.1 18 o = z7 := ⟨_, by rw [ez7, hF.2.1 18 (by decide)]⟩
    intro z8 ez8
    replace h := h z8 ez8
    intro z9 ez9
    replace h := h z9 ez9
    intro q10 eq10
    replace h := h q10 eq10
    intro z11 ez11
    replace h := h z11 ez11
    intro q12 eq12
    replace h := h q12 eq12
    refine ⟨h.1, ?_⟩
    replace h := h.2
    intro z13 ez13
    replace h := h z13 ez13
    intro q14 eq14
    replace h := h q14 eq14
    refine ⟨h.1, ?_⟩
    replace h := h.2
    intro S15 eS15
    replace h := h S15 eS15
    replace hF := KF_a (fid := 18) hF eS15 (by decide) (by rw [← eq14]; exact pz7)
    intro z16 ez16
    replace h := h z16 ez16
    have pz16 : ∃ o, S0.2.1 20 o = z16 := ⟨_, by rw [ez16, hF.2.1 20 (by decide)]⟩
    intro z17 ez17
    replace h := h z17 ez17
    intro z18 ez18
    replace h := h z18 ez18
    intro q19 eq19
    replace h := h q19 eq19
    intro z20 ez20
    replace h := h z20 ez20
    intro q21 eq21
    replace h := h q21 eq21
    refine ⟨h.1, ?_⟩
    replace h := h.2
    intro z22 ez22
    replace h := h z22 ez22
    intro q23 eq23
    replace h := h q23 eq23
    refine ⟨h.1, ?_⟩
    replace h := h.2
    intro S24 eS24
    replace h := h S24 eS24
    replace hF := KF_l (fid := 20) hF eS24 (by decide) (by rw [← eq23]; exact pz16)
    intro z25 ez25
    replace h := h z25 ez25
    have pz25 : ∃ o, S0.2.1 19 o = z25 := ⟨_, by rw [ez25, hF.2.1 19 (by decide)]⟩
    intro z26 ez26
    replace h := h z26 ez26
    intro q27 eq27
    replace h := h q27 eq27
    refine ⟨h.1, ?_⟩
    replace h := h.2
    intro S28 eS28
    replace h := h S28 eS28
    replace hF := KF_a (fid := 19) hF eS28 (by decide) (by rw [← eq27]; exact pz25)
    intro z29 ez29
    replace h := h z29 ez29
    intro z30 ez30
    replace h := h z30 ez30
    intro S31 eS31
    replace h := h S31 eS31
    replace hF := KF_i hF eS31 (by decide)
    exact hk _ hF h
theorem kmT_X3_startsWait (a0 : Int32) : KmI [] [] [] [] [] (wT_X3_startsWait a0) := by
  intro S0 K K' hk h
  have hF : KF [] [] [] [] [] S0 S0 := KF_rf
  unfold wT_X3_startsWait at h ⊢
  refine ⟨fun c => ?_, fun c => ?_⟩
  · replace h := h.1 c
    exact hk _ _ hF h
  · replace h := h.2 c
    refine ⟨fun c => ?_, fun c => ?_⟩
    · replace h := h.1 c
      exact hk _ _ hF h
    · replace h := h.2 c
      exact hk _ _ hF h
theorem kmT_X3_numberOf_42 {K K' : kS → Int32 → Prop} {S0 : kS} (hk : ∀ S1 r1, KF [6, 7] [] [] [] [] S0 S1 → K S1 r1 → K' S1 r1) {x0 : Nat} {x1 : Int32} {S : kS} (hF : KF [6, 7] [] [] [] [] S0 S) (h : wT_X3_numberOf_42 K x0 x1 S) : wT_X3_numberOf_42 K' x0 x1 S := by
  unfold wT_X3_numberOf_42 at h ⊢
  refine kmT_X3_wrong _ _ _ _ _ (fun S18 hG h => ?_) h
  replace hF := KF_t hF hG (by decide) (by decide) (by decide) (by decide) (by decide) (by decide) (by decide) (by decide)
  exact hk _ _ hF h
theorem kmT_X3_numberOf (t0 : Nat) (a0 : Int32) (a1 : Int32) : KmI [6, 7] [] [] [] [] (wT_X3_numberOf t0 a0 a1) := by
  intro S0 K K' hk h
  have hF : KF [6, 7] [] [] [] [] S0 S0 := KF_rf
  unfold wT_X3_numberOf at h ⊢
  intro z1 ez1
  replace h := h z1 ez1
  intro q2 eq2
  replace h := h q2 eq2
  intro z3 ez3
  replace h := h z3 ez3
  intro z4 ez4
  replace h := h z4 ez4
  intro q5 eq5
  replace h := h q5 eq5
  refine ⟨h.1, ?_⟩
  replace h := h.2
  intro z6 ez6
  replace h := h z6 ez6
  refine kmT_X3_kind _ _ _ _ (fun S7 r7 hG h => ?_) h
  replace hF := KF_t hF hG (by decide) (by decide) (by decide) (by decide) (by decide) (by decide) (by decide) (by decide)
  refine ⟨fun c => ?_, fun c => ?_⟩
  · replace h := h.1 c
    intro z9 ez9
    replace h := h z9 ez9
    intro z10 ez10
    replace h := h z10 ez10
    refine ⟨fun c => ?_, fun c => ?_⟩
    · replace h := h.1 c
      exact kmT_X3_numberOf_42 hk hF h
    · replace h := h.2 c
      intro z12 ez12
      replace h := h z12 ez12
      intro z13 ez13
      replace h := h z13 ez13
      refine ⟨fun c => ?_, fun c => ?_⟩
      · replace h := h.1 c
        refine kmT_X3_step _ _ _ _ (fun S15 hG h => ?_) h
        replace hF := KF_t hF hG (by decide) (by decide) (by decide) (by decide) (by decide) (by decide) (by decide) (by decide)
        intro z16 ez16
        replace h := h z16 ez16
        exact hk _ _ hF h
      · replace h := h.2 c
        exact kmT_X3_numberOf_42 hk hF h
  · replace h := h.2 c
    refine kmT_X3_wrong _ _ _ _ _ (fun S17 hG h => ?_) h
    replace hF := KF_t hF hG (by decide) (by decide) (by decide) (by decide) (by decide) (by decide) (by decide) (by decide)
    exact hk _ _ hF h
