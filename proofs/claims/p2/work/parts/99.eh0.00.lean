
theorem kmT_X0_clear (t0 : Nat) : KmV [0] [] [] [] [] (wT_X0_clear t0) := by
  intro S0 K K' hk h
  have hF : KF [0] [] [] [] [] S0 S0 := KF_rf
  unfold wT_X0_clear at h ⊢
  intro S1 eS1
  replace h := h S1 eS1
  replace hF := KF_i hF eS1 (by decide)
  exact hk _ hF h
theorem kmT_X0_note_30 {K K' : kS → Prop} {S0 : kS} (hk : ∀ S1, KF [0] [] [0, 1] [] [] S0 S1 → K S1 → K' S1) {x0 : Nat} {S : kS} (hF : KF [0] [] [0, 1] [] [] S0 S) (h : wT_X0_note_30 K x0 S) : wT_X0_note_30 K' x0 S := by
  unfold wT_X0_note_30 at h ⊢
  intro z11 ez11
  replace h := h z11 ez11
  intro z12 ez12
  replace h := h z12 ez12
  intro S13 eS13
  replace h := h S13 eS13
  replace hF := KF_i hF eS13 (by decide)
  exact hk _ hF h
theorem kmT_X0_note (t0 : Nat) (a0 : Int32) (a1 : Int32) : KmV [0] [] [0, 1] [] [] (wT_X0_note t0 a0 a1) := by
  intro S0 K K' hk h
  have hF : KF [0] [] [0, 1] [] [] S0 S0 := KF_rf
  unfold wT_X0_note at h ⊢
  intro z1 ez1
  replace h := h z1 ez1
  refine ⟨fun c => ?_, fun c => ?_⟩
  · replace h := h.1 c
    exact kmT_X0_note_30 hk hF h
  · replace h := h.2 c
    intro z3 ez3
    replace h := h z3 ez3
    have pz3 : ∃ o, S0.2.1 0 o = z3 := ⟨_, by rw [ez3, hF.2.1 0 (by decide)]⟩
    intro z4 ez4
    replace h := h z4 ez4
    intro q5 eq5
    replace h := h q5 eq5
    refine ⟨h.1, ?_⟩
    replace h := h.2
    intro S6 eS6
    replace h := h S6 eS6
    replace hF := KF_a (fid := 0) hF eS6 (by decide) (by rw [← eq5]; exact pz3)
    intro z7 ez7
    replace h := h z7 ez7
    have pz7 : ∃ o, S0.2.1 1 o = z7 := ⟨_, by rw [ez7, hF.2.1 1 (by decide)]⟩
    intro z8 ez8
    replace h := h z8 ez8
    intro q9 eq9
    replace h := h q9 eq9
    refine ⟨h.1, ?_⟩
    replace h := h.2
    intro S10 eS10
    replace h := h S10 eS10
    replace hF := KF_a (fid := 1) hF eS10 (by decide) (by rw [← eq9]; exact pz7)
    exact kmT_X0_note_30 hk hF h
theorem kmT_X0_tell (t0 : Nat) (a0 : Int32) (a1 : Int32) : KmI [] [] [] [] [] (wT_X0_tell t0 a0 a1) := by
  intro S0 K K' hk h
  have hF : KF [] [] [] [] [] S0 S0 := KF_rf
  unfold wT_X0_tell at h ⊢
  refine ⟨fun c => ?_, fun c => ?_⟩
  · replace h := h.1 c
    exact hk _ _ hF h
  · replace h := h.2 c
    intro z2 ez2
    replace h := h z2 ez2
    refine ⟨fun c => ?_, fun c => ?_⟩
    · replace h := h.1 c
      exact hk _ _ hF h
    · replace h := h.2 c
      refine ⟨fun c => ?_, fun c => ?_⟩
      · replace h := h.1 c
        exact hk _ _ hF h
      · replace h := h.2 c
        refine ⟨fun c => ?_, fun c => ?_⟩
        · replace h := h.1 c
          exact hk _ _ hF h
        · replace h := h.2 c
          refine ⟨fun c => ?_, fun c => ?_⟩
          · replace h := h.1 c
            refine ⟨fun c => ?_, fun c => ?_⟩
            · replace h := h.1 c
              intro z8 ez8
              replace h := h z8 ez8
              intro q9 eq9
              replace h := h q9 eq9
              refine ⟨h.1, ?_⟩
              replace h := h.2
              intro z10 ez10
              replace h := h z10 ez10
              exact hk _ _ hF h
            · replace h := h.2 c
              intro z11 ez11
              replace h := h z11 ez11
              intro q12 eq12
              replace h := h q12 eq12
              refine ⟨h.1, ?_⟩
              replace h := h.2
              intro z13 ez13
              replace h := h z13 ez13
              exact hk _ _ hF h
          · replace h := h.2 c
            exact hk _ _ hF h
theorem kmT_X10_add_70 {K K' : kS → Prop} {k3 k3' : Nat × Int64 × Int32 × kS → Prop} {S0 : kS} (hk : ∀ S1, KF [41] [] [67] [] [] S0 S1 → K S1 → K' S1) (hk3 : ∀ u : Nat × Int64 × Int32 × kS, KF [41] [] [67] [] [] S0 u.2.2.2 → k3 u → k3' u) {x0 : Nat} {x1 : Int64} {x3 : Int32} {S : kS} (hF : KF [41] [] [67] [] [] S0 S) (h : wT_X10_add_70 K k3 x0 x1 x3 S) : wT_X10_add_70 K' k3' x0 x1 x3 S := by
  unfold wT_X10_add_70 at h ⊢
  intro z8 ez8
  replace h := h z8 ez8
  exact hk3 _ hF h
theorem kmT_X10_add_38 {K K' : kS → Prop} {k3 k3' : Nat × Int64 × Int32 × kS → Prop} {S0 : kS} (hk : ∀ S1, KF [41] [] [67] [] [] S0 S1 → K S1 → K' S1) (hk3 : ∀ u : Nat × Int64 × Int32 × kS, KF [41] [] [67] [] [] S0 u.2.2.2 → k3 u → k3' u) {x0 : Nat} {x1 : Int64} {x3 : Int32} {x4 : Int32} {S : kS} (hF : KF [41] [] [67] [] [] S0 S) (h : wT_X10_add_38 K k3 x0 x1 x3 x4 S) : wT_X10_add_38 K' k3' x0 x1 x3 x4 S := by
  unfold wT_X10_add_38 at h ⊢
  intro z9 ez9
  replace h := h z9 ez9
  refine ⟨fun c => ?_, fun c => ?_⟩
  · replace h := h.1 c
    exact kmT_X10_add_70 hk hk3 hF h
  · replace h := h.2 c
    intro z11 ez11
    replace h := h z11 ez11
    have pz11 : ∃ o, S0.2.1 67 o = z11 := ⟨_, by rw [ez11, hF.2.1 67 (by decide)]⟩
    intro z12 ez12
    replace h := h z12 ez12
    intro z13 ez13
    replace h := h z13 ez13
    intro q14 eq14
    replace h := h q14 eq14
    refine ⟨h.1, ?_⟩
    replace h := h.2
    intro S15 eS15
    replace h := h S15 eS15
    replace hF := KF_a (fid := 67) hF eS15 (by decide) (by rw [← eq14]; exact pz11)
    intro z16 ez16
    replace h := h z16 ez16
    intro z17 ez17
    replace h := h z17 ez17
    intro S18 eS18
    replace h := h S18 eS18
    replace hF := KF_i hF eS18 (by decide)
    exact kmT_X10_add_70 hk hk3 hF h
theorem kmT_X10_add_3 {K K' : kS → Prop} {k3 k3' : Nat × Int64 × Int32 × kS → Prop} {S0 : kS} (hk : ∀ S1, KF [41] [] [67] [] [] S0 S1 → K S1 → K' S1) (hk3 : ∀ u : Nat × Int64 × Int32 × kS, KF [41] [] [67] [] [] S0 u.2.2.2 → k3 u → k3' u) {x0 : Nat} {x1 : Int64} {x3 : Int32} {S : kS} (hF : KF [41] [] [67] [] [] S0 S) (h : wT_X10_add_3 K k3 x0 x1 x3 S) : wT_X10_add_3 K' k3' x0 x1 x3 S := by
  unfold wT_X10_add_3 at h ⊢
  refine ⟨fun c => ?_, fun c => ?_⟩
  · replace h := h.1 c
    exact hk _ hF h
  · replace h := h.2 c
    intro z2 ez2
    replace h := h z2 ez2
    intro z3 ez3
    replace h := h z3 ez3
    intro z4 ez4
    replace h := h z4 ez4
    refine ⟨fun c => ?_, fun c => ?_⟩
    · replace h := h.1 c
      exact kmT_X10_add_38 hk hk3 hF h
    · replace h := h.2 c
      refine ⟨fun c => ?_, fun c => ?_⟩
      · replace h := h.1 c
        exact kmT_X10_add_70 hk hk3 hF h
      · replace h := h.2 c
        refine ⟨fun c => ?_, fun c => ?_⟩
        · replace h := h.1 c
          exact kmT_X10_add_70 hk hk3 hF h
        · replace h := h.2 c
          exact kmT_X10_add_38 hk hk3 hF h
theorem kmlT_X10_add_3 {K K' : kS → Prop} {S0 : kS} (hk : ∀ S1, KF [41] [] [67] [] [] S0 S1 → K S1 → K' S1) : ∀ (n : Nat) (u : Nat × Int64 × Int32 × kS), KF [41] [] [67] [] [] S0 u.2.2.2 → it (lT_X10_add_3 K) n u → it (lT_X10_add_3 K') n u := by
  intro n
  induction n with
  | zero => exact fun _ _ h => h
  | succ n ih => exact fun u hF h => kmT_X10_add_3 hk ih hF h
theorem kmT_X10_add (t0 : Nat) (a0 : Int64) : KmV [41] [] [67] [] [] (wT_X10_add t0 a0) := by
  intro S0 K K' hk h
  have hF : KF [41] [] [67] [] [] S0 S0 := KF_rf
  unfold wT_X10_add at h ⊢
  obtain ⟨n9, h⟩ := h
  exact ⟨n9, kmlT_X10_add_3 hk n9 _ hF h⟩
theorem kmT_X10_isDigit (a0 : Int32) : KmI [] [] [] [] [] (wT_X10_isDigit a0) := by
  intro S0 K K' hk h
  have hF : KF [] [] [] [] [] S0 S0 := KF_rf
  unfold wT_X10_isDigit at h ⊢
  refine ⟨fun c => ?_, fun c => ?_⟩
  · replace h := h.1 c
    exact hk _ _ hF h
  · replace h := h.2 c
    refine ⟨fun c => ?_, fun c => ?_⟩
    · replace h := h.1 c
      exact hk _ _ hF h
    · replace h := h.2 c
      exact hk _ _ hF h
theorem kmT_X10_isLetter (a0 : Int32) : KmI [] [] [] [] [] (wT_X10_isLetter a0) := by
  intro S0 K K' hk h
  have hF : KF [] [] [] [] [] S0 S0 := KF_rf
  unfold wT_X10_isLetter at h ⊢
  refine ⟨fun c => ?_, fun c => ?_⟩
  · replace h := h.1 c
    exact hk _ _ hF h
  · replace h := h.2 c
    refine ⟨fun c => ?_, fun c => ?_⟩
    · replace h := h.1 c
      exact hk _ _ hF h
    · replace h := h.2 c
      exact hk _ _ hF h
theorem kmT_X10_keep (t0 : Nat) (a0 : Int32) (a1 : Int32) (a2 : Int64) : KmV [40] [] [64, 65] [66] [] (wT_X10_keep t0 a0 a1 a2) := by
  intro S0 K K' hk h
  have hF : KF [40] [] [64, 65] [66] [] S0 S0 := KF_rf
  unfold wT_X10_keep at h ⊢
  intro z1 ez1
  replace h := h z1 ez1
  refine ⟨fun c => ?_, fun c => ?_⟩
  · replace h := h.1 c
    exact hk _ hF h
  · replace h := h.2 c
    intro z3 ez3
    replace h := h z3 ez3
    have pz3 : ∃ o, S0.2.1 64 o = z3 := ⟨_, by rw [ez3, hF.2.1 64 (by decide)]⟩
    intro z4 ez4
    replace h := h z4 ez4
    intro q5 eq5
    replace h := h q5 eq5
    refine ⟨h.1, ?_⟩
    replace h := h.2
    intro S6 eS6
    replace h := h S6 eS6
    replace hF := KF_a (fid := 64) hF eS6 (by decide) (by rw [← eq5]; exact pz3)
    intro z7 ez7
    replace h := h z7 ez7
    have pz7 : ∃ o, S0.2.1 65 o = z7 := ⟨_, by rw [ez7, hF.2.1 65 (by decide)]⟩
    intro z8 ez8
    replace h := h z8 ez8
    intro q9 eq9
    replace h := h q9 eq9
    refine ⟨h.1, ?_⟩
    replace h := h.2
    intro S10 eS10
    replace h := h S10 eS10
    replace hF := KF_a (fid := 65) hF eS10 (by decide) (by rw [← eq9]; exact pz7)
    intro z11 ez11
    replace h := h z11 ez11
    have pz11 : ∃ o, S0.2.1 66 o = z11 := ⟨_, by rw [ez11, hF.2.1 66 (by decide)]⟩
    intro z12 ez12
    replace h := h z12 ez12
    intro q13 eq13
    replace h := h q13 eq13
    refine ⟨h.1, ?_⟩
    replace h := h.2
    intro S14 eS14
    replace h := h S14 eS14
    replace hF := KF_l (fid := 66) hF eS14 (by decide) (by rw [← eq13]; exact pz11)
    intro z15 ez15
    replace h := h z15 ez15
    intro z16 ez16
    replace h := h z16 ez16
    intro S17 eS17
    replace h := h S17 eS17
    replace hF := KF_i hF eS17 (by decide)
    exact hk _ hF h
theorem kmT_X10_kindOf_2 {K K' : kS → Int32 → Prop} {k2 k2' : Nat × Int64 × Int32 × kS → Prop} {S0 : kS} (hk : ∀ S1 r1, KF [] [] [] [] [] S0 S1 → K S1 r1 → K' S1 r1) (hk2 : ∀ u : Nat × Int64 × Int32 × kS, KF [] [] [] [] [] S0 u.2.2.2 → k2 u → k2' u) {x0 : Nat} {x1 : Int64} {x3 : Int32} {S : kS} (hF : KF [] [] [] [] [] S0 S) (h : wT_X10_kindOf_2 K k2 x0 x1 x3 S) : wT_X10_kindOf_2 K' k2' x0 x1 x3 S := by
  unfold wT_X10_kindOf_2 at h ⊢
  refine ⟨fun c => ?_, fun c => ?_⟩
  · replace h := h.1 c
    exact hk _ _ hF h
  · replace h := h.2 c
    intro z2 ez2
    replace h := h z2 ez2
    intro q3 eq3
    replace h := h q3 eq3
    refine ⟨h.1, ?_⟩
    replace h := h.2
    intro z4 ez4
    replace h := h z4 ez4
    intro z5 ez5
    replace h := h z5 ez5
    refine ⟨fun c => ?_, fun c => ?_⟩
    · replace h := h.1 c
      intro z7 ez7
      replace h := h z7 ez7
      exact hk2 _ hF h
    · replace h := h.2 c
      intro z8 ez8
      replace h := h z8 ez8
      exact hk _ _ hF h
theorem kmlT_X10_kindOf_2 {K K' : kS → Int32 → Prop} {S0 : kS} (hk : ∀ S1 r1, KF [] [] [] [] [] S0 S1 → K S1 r1 → K' S1 r1) : ∀ (n : Nat) (u : Nat × Int64 × Int32 × kS), KF [] [] [] [] [] S0 u.2.2.2 → it (lT_X10_kindOf_2 K) n u → it (lT_X10_kindOf_2 K') n u := by
  intro n
  induction n with
  | zero => exact fun _ _ h => h
  | succ n ih => exact fun u hF h => kmT_X10_kindOf_2 hk ih hF h
theorem kmT_X10_kindOf (t0 : Nat) (a0 : Int64) : KmI [] [] [] [] [] (wT_X10_kindOf t0 a0) := by
  intro S0 K K' hk h
  have hF : KF [] [] [] [] [] S0 S0 := KF_rf
  unfold wT_X10_kindOf at h ⊢
  obtain ⟨n9, h⟩ := h
  exact ⟨n9, kmlT_X10_kindOf_2 hk n9 _ hF h⟩
theorem kmT_X10_longer_28 {K K' : kS → Int64 → Prop} {S0 : kS} (hk : ∀ S1 r1, KF [] [] [] [] [] S0 S1 → K S1 r1 → K' S1 r1) {y0 : Int64} {y1 : Int32} {S : kS} (hF : KF [] [] [] [] [] S0 S) (h : wT_X10_longer_28 K y0 y1 S) : wT_X10_longer_28 K' y0 y1 S := by
  unfold wT_X10_longer_28 at h ⊢
  intro z8 ez8
  replace h := h z8 ez8
  intro z9 ez9
  replace h := h z9 ez9
  exact hk _ _ hF h
theorem kmT_X10_longer (a0 : Int64) (a1 : Int32) : KmL [] [] [] [] [] (wT_X10_longer a0 a1) := by
  intro S0 K K' hk h
  have hF : KF [] [] [] [] [] S0 S0 := KF_rf
  unfold wT_X10_longer at h ⊢
  intro z1 ez1
  replace h := h z1 ez1
  refine kmT_X10_isDigit _ _ _ _ (fun S2 r2 hG h => ?_) h
  replace hF := KF_t hF hG (by decide) (by decide) (by decide) (by decide) (by decide) (by decide) (by decide) (by decide)
  refine ⟨fun c => ?_, fun c => ?_⟩
  · replace h := h.1 c
    intro z4 ez4
    replace h := h z4 ez4
    intro z5 ez5
    replace h := h z5 ez5
    exact kmT_X10_longer_28 hk hF h
  · replace h := h.2 c
    intro z6 ez6
    replace h := h z6 ez6
    intro z7 ez7
    replace h := h z7 ez7
    exact kmT_X10_longer_28 hk hF h
theorem kmT_X10_onlyWord_28 {K K' : kS → Int64 → Prop} {S0 : kS} (hk : ∀ S1 r1, KF [] [] [] [] [] S0 S1 → K S1 r1 → K' S1 r1) {y0 : Int64} {S : kS} (hF : KF [] [] [] [] [] S0 S) (h : wT_X10_onlyWord_28 K y0 S) : wT_X10_onlyWord_28 K' y0 S := by
  unfold wT_X10_onlyWord_28 at h ⊢
  exact hk _ _ hF h
theorem kmT_X10_onlyWord_27 {K K' : kS → Int64 → Prop} {S0 : kS} (hk : ∀ S1 r1, KF [] [] [] [] [] S0 S1 → K S1 r1 → K' S1 r1) {S : kS} (hF : KF [] [] [] [] [] S0 S) (h : wT_X10_onlyWord_27 K S) : wT_X10_onlyWord_27 K' S := by
  unfold wT_X10_onlyWord_27 at h ⊢
  exact kmT_X10_onlyWord_28 hk hF h
theorem kmT_X10_onlyWord (t0 : Nat) : KmL [] [] [] [] [] (wT_X10_onlyWord t0) := by
  intro S0 K K' hk h
  have hF : KF [] [] [] [] [] S0 S0 := KF_rf
  unfold wT_X10_onlyWord at h ⊢
  intro z1 ez1
  replace h := h z1 ez1
  refine ⟨fun c => ?_, fun c => ?_⟩
  · replace h := h.1 c
    exact kmT_X10_onlyWord_27 hk hF h
  · replace h := h.2 c
    intro z3 ez3
    replace h := h z3 ez3
    intro q4 eq4
    replace h := h q4 eq4
    refine ⟨h.1, ?_⟩
    replace h := h.2
    intro z5 ez5
    replace h := h z5 ez5
    refine ⟨fun c => ?_, fun c => ?_⟩
    · replace h := h.1 c
      exact kmT_X10_onlyWord_27 hk hF h
    · replace h := h.2 c
      intro z7 ez7
      replace h := h z7 ez7
      intro q8 eq8
      replace h := h q8 eq8
      refine ⟨h.1, ?_⟩
      replace h := h.2
      intro z9 ez9
      replace h := h z9 ez9
      exact kmT_X10_onlyWord_28 hk hF h
theorem kmT_X10_readNumber_61 {K K' : kS → Int32 → Prop} {S0 : kS} (hk : ∀ S1 r1, KF [40] [] [64, 65] [66] [] S0 S1 → K S1 r1 → K' S1 r1) {x1 : Int32} {x2 : Int32} {x3 : Int64} {y0 : Nat} {y1 : Int32} {S : kS} (hF : KF [40] [] [64, 65] [66] [] S0 S) (h : wT_X10_readNumber_61 K x1 x2 x3 y0 y1 S) : wT_X10_readNumber_61 K' x1 x2 x3 y0 y1 S := by
  unfold wT_X10_readNumber_61 at h ⊢
  refine kmT_X10_keep _ _ _ _ _ _ _ (fun S18 hG h => ?_) h
  replace hF := KF_t hF hG (by decide) (by decide) (by decide) (by decide) (by decide) (by decide) (by decide) (by decide)
  exact hk _ _ hF h
theorem kmT_X10_readNumber_47 {K K' : kS → Int32 → Prop} {S0 : kS} (hk : ∀ S1 r1, KF [40] [] [64, 65] [66] [] S0 S1 → K S1 r1 → K' S1 r1) {x0 : Nat} {x1 : Int32} {x2 : Int32} {x3 : Int64} {S : kS} (hF : KF [40] [] [64, 65] [66] [] S0 S) (h : wT_X10_readNumber_47 K x0 x1 x2 x3 S) : wT_X10_readNumber_47 K' x0 x1 x2 x3 S := by
  unfold wT_X10_readNumber_47 at h ⊢
  intro z16 ez16
  replace h := h z16 ez16
  refine ⟨fun c => ?_, fun c => ?_⟩
  · replace h := h.1 c
    exact kmT_X10_readNumber_61 hk hF h
  · replace h := h.2 c
    exact kmT_X10_readNumber_61 hk hF h
theorem kmT_X10_readNumber_4 {K K' : kS → Int32 → Prop} {k4 k4' : Nat × Int32 × Int32 × Int64 × kS → Prop} {S0 : kS} (hk : ∀ S1 r1, KF [40] [] [64, 65] [66] [] S0 S1 → K S1 r1 → K' S1 r1) (hk4 : ∀ u : Nat × Int32 × Int32 × Int64 × kS, KF [40] [] [64, 65] [66] [] S0 u.2.2.2.2 → k4 u → k4' u) {x0 : Nat} {x1 : Int32} {x2 : Int32} {x3 : Int64} {S : kS} (hF : KF [40] [] [64, 65] [66] [] S0 S) (h : wT_X10_readNumber_4 K k4 x0 x1 x2 x3 S) : wT_X10_readNumber_4 K' k4' x0 x1 x2 x3 S := by
  unfold wT_X10_readNumber_4 at h ⊢
  intro z1 ez1
  replace h := h z1 ez1
  refine ⟨fun c => ?_, fun c => ?_⟩
  · replace h := h.1 c
    exact kmT_X10_readNumber_47 hk hF h
  · replace h := h.2 c
    intro z3 ez3
    replace h := h z3 ez3
    intro q4 eq4
    replace h := h q4 eq4
    refine ⟨h.1, ?_⟩
    replace h := h.2
    intro z5 ez5
    replace h := h z5 ez5
    refine kmT_X10_isDigit _ _ _ _ (fun S6 r6 hG h => ?_) h
    replace hF := KF_t hF hG (by decide) (by decide) (by decide) (by decide) (by decide) (by decide) (by decide) (by decide)
    refine ⟨fun c => ?_, fun c => ?_⟩
    · replace h := h.1 c
      exact kmT_X10_readNumber_47 hk hF h
    · replace h := h.2 c
      intro z8 ez8
      replace h := h z8 ez8
      intro z9 ez9
      replace h := h z9 ez9
      intro q10 eq10
      replace h := h q10 eq10
      refine ⟨h.1, ?_⟩
      replace h := h.2
      intro z11 ez11
      replace h := h z11 ez11
      intro z12 ez12
      replace h := h z12 ez12
      intro z13 ez13
      replace h := h z13 ez13
      intro z14 ez14
      replace h := h z14 ez14
      intro z15 ez15
      replace h := h z15 ez15
      exact hk4 _ hF h
theorem kmlT_X10_readNumber_4 {K K' : kS → Int32 → Prop} {S0 : kS} (hk : ∀ S1 r1, KF [40] [] [64, 65] [66] [] S0 S1 → K S1 r1 → K' S1 r1) : ∀ (n : Nat) (u : Nat × Int32 × Int32 × Int64 × kS), KF [40] [] [64, 65] [66] [] S0 u.2.2.2.2 → it (lT_X10_readNumber_4 K) n u → it (lT_X10_readNumber_4 K') n u := by
  intro n
  induction n with
  | zero => exact fun _ _ h => h
  | succ n ih => exact fun u hF h => kmT_X10_readNumber_4 hk ih hF h
theorem kmT_X10_readNumber (t0 : Nat) (a0 : Int32) : KmI [40] [] [64, 65] [66] [] (wT_X10_readNumber t0 a0) := by
  intro S0 K K' hk h
  have hF : KF [40] [] [64, 65] [66] [] S0 S0 := KF_rf
  unfold wT_X10_readNumber at h ⊢
  obtain ⟨n9, h⟩ := h
  exact ⟨n9, kmlT_X10_readNumber_4 hk n9 _ hF h⟩
theorem kmT_X10_readWord_71 {K K' : kS → Int32 → Prop} {S0 : kS} (hk : ∀ S1 r1, KF [40] [] [64, 65] [66] [] S0 S1 → K S1 r1 → K' S1 r1) {x1 : Int32} {x2 : Int32} {x3 : Int64} {y0 : Nat} {y1 : Int32} {S : kS} (hF : KF [40] [] [64, 65] [66] [] S0 S) (h : wT_X10_readWord_71 K x1 x2 x3 y0 y1 S) : wT_X10_readWord_71 K' x1 x2 x3 y0 y1 S := by
  unfold wT_X10_readWord_71 at h ⊢
  refine kmT_X10_keep _ _ _ _ _ _ _ (fun S21 hG h => ?_) h
  replace hF := KF_t hF hG (by decide) (by decide) (by decide) (by decide) (by decide) (by decide) (by decide) (by decide)
  exact hk _ _ hF h
theorem kmT_X10_readWord_53 {K K' : kS → Int32 → Prop} {S0 : kS} (hk : ∀ S1 r1, KF [40] [] [64, 65] [66] [] S0 S1 → K S1 r1 → K' S1 r1) {x0 : Nat} {x1 : Int32} {x2 : Int32} {x3 : Int64} {S : kS} (hF : KF [40] [] [64, 65] [66] [] S0 S) (h : wT_X10_readWord_53 K x0 x1 x2 x3 S) : wT_X10_readWord_53 K' x0 x1 x2 x3 S := by
  unfold wT_X10_readWord_53 at h ⊢
  intro z18 ez18
  replace h := h z18 ez18
  refine ⟨fun c => ?_, fun c => ?_⟩
  · replace h := h.1 c
    refine kmT_X10_kindOf _ _ _ _ _ (fun S20 r20 hG h => ?_) h
    replace hF := KF_t hF hG (by decide) (by decide) (by decide) (by decide) (by decide) (by decide) (by decide) (by decide)
    exact kmT_X10_readWord_71 hk hF h
  · replace h := h.2 c
    exact kmT_X10_readWord_71 hk hF h
theorem kmT_X10_readWord_36 {K K' : kS → Int32 → Prop} {k4 k4' : Nat × Int32 × Int32 × Int64 × kS → Prop} {S0 : kS} (hk : ∀ S1 r1, KF [40] [] [64, 65] [66] [] S0 S1 → K S1 r1 → K' S1 r1) (hk4 : ∀ u : Nat × Int32 × Int32 × Int64 × kS, KF [40] [] [64, 65] [66] [] S0 u.2.2.2.2 → k4 u → k4' u) {x0 : Nat} {x1 : Int32} {x2 : Int32} {x3 : Int64} {S : kS} (hF : KF [40] [] [64, 65] [66] [] S0 S) (h : wT_X10_readWord_36 K k4 x0 x1 x2 x3 S) : wT_X10_readWord_36 K' k4' x0 x1 x2 x3 S := by
  unfold wT_X10_readWord_36 at h ⊢
  intro z13 ez13
  replace h := h z13 ez13
  intro q14 eq14
  replace h := h q14 eq14
  refine ⟨h.1, ?_⟩
  replace h := h.2
  intro z15 ez15
  replace h := h z15 ez15
  refine kmT_X10_longer _ _ _ _ _ (fun S16 r16 hG h => ?_) h
  replace hF := KF_t hF hG (by decide) (by decide) (by decide) (by decide) (by decide) (by decide) (by decide) (by decide)
  intro z17 ez17
  replace h := h z17 ez17
  exact hk4 _ hF h
theorem kmT_X10_readWord_4 {K K' : kS → Int32 → Prop} {k4 k4' : Nat × Int32 × Int32 × Int64 × kS → Prop} {S0 : kS} (hk : ∀ S1 r1, KF [40] [] [64, 65] [66] [] S0 S1 → K S1 r1 → K' S1 r1) (hk4 : ∀ u : Nat × Int32 × Int32 × Int64 × kS, KF [40] [] [64, 65] [66] [] S0 u.2.2.2.2 → k4 u → k4' u) {x0 : Nat} {x1 : Int32} {x2 : Int32} {x3 : Int64} {S : kS} (hF : KF [40] [] [64, 65] [66] [] S0 S) (h : wT_X10_readWord_4 K k4 x0 x1 x2 x3 S) : wT_X10_readWord_4 K' k4' x0 x1 x2 x3 S := by
  unfold wT_X10_readWord_4 at h ⊢
  intro z1 ez1
  replace h := h z1 ez1
  refine ⟨fun c => ?_, fun c => ?_⟩
  · replace h := h.1 c
    exact kmT_X10_readWord_53 hk hF h
  · replace h := h.2 c
    intro z3 ez3
    replace h := h z3 ez3
    intro q4 eq4
    replace h := h q4 eq4
    refine ⟨h.1, ?_⟩
    replace h := h.2
    intro z5 ez5
    replace h := h z5 ez5
    refine kmT_X10_isLetter _ _ _ _ (fun S6 r6 hG h => ?_) h
    replace hF := KF_t hF hG (by decide) (by decide) (by decide) (by decide) (by decide) (by decide) (by decide) (by decide)
    refine ⟨fun c => ?_, fun c => ?_⟩
    · replace h := h.1 c
      exact kmT_X10_readWord_36 hk hk4 hF h
    · replace h := h.2 c
      intro z8 ez8
      replace h := h z8 ez8
      intro q9 eq9
      replace h := h q9 eq9
      refine ⟨h.1, ?_⟩
      replace h := h.2
      intro z10 ez10
      replace h := h z10 ez10
      refine kmT_X10_isDigit _ _ _ _ (fun S11 r11 hG h => ?_) h
      replace hF := KF_t hF hG (by decide) (by decide) (by decide) (by decide) (by decide) (by decide) (by decide) (by decide)
      refine ⟨fun c => ?_, fun c => ?_⟩
      · replace h := h.1 c
        exact kmT_X10_readWord_53 hk hF h
      · replace h := h.2 c
        exact kmT_X10_readWord_36 hk hk4 hF h
theorem kmlT_X10_readWord_4 {K K' : kS → Int32 → Prop} {S0 : kS} (hk : ∀ S1 r1, KF [40] [] [64, 65] [66] [] S0 S1 → K S1 r1 → K' S1 r1) : ∀ (n : Nat) (u : Nat × Int32 × Int32 × Int64 × kS), KF [40] [] [64, 65] [66] [] S0 u.2.2.2.2 → it (lT_X10_readWord_4 K) n u → it (lT_X10_readWord_4 K') n u := by
  intro n
  induction n with
  | zero => exact fun _ _ h => h
  | succ n ih => exact fun u hF h => kmT_X10_readWord_4 hk ih hF h
theorem kmT_X10_readWord (t0 : Nat) (a0 : Int32) : KmI [40] [] [64, 65] [66] [] (wT_X10_readWord t0 a0) := by
  intro S0 K K' hk h
  have hF : KF [40] [] [64, 65] [66] [] S0 S0 := KF_rf
  unfold wT_X10_readWord at h ⊢
  obtain ⟨n9, h⟩ := h
  exact ⟨n9, kmlT_X10_readWord_4 hk n9 _ hF h⟩
theorem kmT_X11_box (t0 : Nat) (a0 : Int32) (a1 : Int32) : KmI [] [] [] [] [] (wT_X11_box t0 a0 a1) := by
  intro S0 K K' hk h
  have hF : KF [] [] [] [] [] S0 S0 := KF_rf
  unfold wT_X11_box at h ⊢
  refine ⟨fun c => ?_, fun c => ?_⟩
  · replace h := h.1 c
    exact hk _ _ hF h
  · replace h := h.2 c
    refine ⟨fun c => ?_, fun c => ?_⟩
    · replace h := h.1 c
      exact hk _ _ hF h
    · replace h := h.2 c
      refine ⟨fun c => ?_, fun c => ?_⟩
      · replace h := h.1 c
        exact hk _ _ hF h
      · replace h := h.2 c
        intro z4 ez4
        replace h := h z4 ez4
        intro q5 eq5
        replace h := h q5 eq5
        intro z6 ez6
        replace h := h z6 ez6
        intro q7 eq7
        replace h := h q7 eq7
        refine ⟨h.1, ?_⟩
        replace h := h.2
        intro z8 ez8
        replace h := h z8 ez8
        refine ⟨fun c => ?_, fun c => ?_⟩
        · replace h := h.1 c
          intro z10 ez10
          replace h := h z10 ez10
          intro q11 eq11
          replace h := h q11 eq11
          intro z12 ez12
          replace h := h z12 ez12
          intro z13 ez13
          replace h := h z13 ez13
          intro z14 ez14
          replace h := h z14 ez14
          intro q15 eq15
          replace h := h q15 eq15
          refine ⟨h.1, ?_⟩
          replace h := h.2
          intro z16 ez16
          replace h := h z16 ez16
          exact hk _ _ hF h
        · replace h := h.2 c
          exact hk _ _ hF h
theorem kmT_X1_has (t0 : Nat) (a0 : Int32) : KmI [] [] [] [] [] (wT_X1_has t0 a0) := by
  intro S0 K K' hk h
  have hF : KF [] [] [] [] [] S0 S0 := KF_rf
  unfold wT_X1_has at h ⊢
  refine ⟨fun c => ?_, fun c => ?_⟩
  · replace h := h.1 c
    exact hk _ _ hF h
  · replace h := h.2 c
    intro z2 ez2
    replace h := h z2 ez2
    refine ⟨fun c => ?_, fun c => ?_⟩
    · replace h := h.1 c
      exact hk _ _ hF h
    · replace h := h.2 c
      exact hk _ _ hF h
theorem kmT_X1_plan (t0 : Nat) (a0 : Int32) : KmV [5] [] [10] [] [] (wT_X1_plan t0 a0) := by
  intro S0 K K' hk h
  have hF : KF [5] [] [10] [] [] S0 S0 := KF_rf
  unfold wT_X1_plan at h ⊢
  intro z1 ez1
  replace h := h z1 ez1
  refine ⟨fun c => ?_, fun c => ?_⟩
  · replace h := h.1 c
    exact hk _ hF h
  · replace h := h.2 c
    intro z3 ez3
    replace h := h z3 ez3
    have pz3 : ∃ o, S0.2.1 10 o = z3 := ⟨_, by rw [ez3, hF.2.1 10 (by decide)]⟩
    intro z4 ez4
    replace h := h z4 ez4
    intro q5 eq5
    replace h := h q5 eq5
    refine ⟨h.1, ?_⟩
    replace h := h.2
    intro S6 eS6
    replace h := h S6 eS6
    replace hF := KF_a (fid := 10) hF eS6 (by decide) (by rw [← eq5]; exact pz3)
    intro z7 ez7
    replace h := h z7 ez7
    intro z8 ez8
    replace h := h z8 ez8
    intro S9 eS9
    replace h := h S9 eS9
    replace hF := KF_i hF eS9 (by decide)
    exact hk _ hF h
theorem kmT_X2_remove_58 {K K' : kS → Prop} {S0 : kS} (hk : ∀ S1, KF [] [12, 13, 25, 26, 27] [] [] [] S0 S1 → K S1 → K' S1) {x1 : Nat} {S : kS} (hF : KF [] [12, 13, 25, 26, 27] [] [] [] S0 S) (h : wT_X2_remove_58 K x1 S) : wT_X2_remove_58 K' x1 S := by
  unfold wT_X2_remove_58 at h ⊢
  intro S17 eS17
  replace h := h S17 eS17
  replace hF := KF_r hF eS17 (by decide)
  intro S18 eS18
  replace h := h S18 eS18
  replace hF := KF_r hF eS18 (by decide)
  intro S19 eS19
  replace h := h S19 eS19
  replace hF := KF_r hF eS19 (by decide)
  exact hk _ hF h
theorem kmT_X2_remove_29 {K K' : kS → Prop} {S0 : kS} (hk : ∀ S1, KF [] [12, 13, 25, 26, 27] [] [] [] S0 S1 → K S1 → K' S1) {x0 : Nat} {x1 : Nat} {S : kS} (hF : KF [] [12, 13, 25, 26, 27] [] [] [] S0 S) (h : wT_X2_remove_29 K x0 x1 S) : wT_X2_remove_29 K' x0 x1 S := by
  unfold wT_X2_remove_29 at h ⊢
  intro z9 ez9
  replace h := h z9 ez9
  refine ⟨fun c => ?_, fun q10 c => ?_⟩
  · replace h := h.1 c
    intro z11 ez11
    replace h := h z11 ez11
    intro S12 eS12
    replace h := h S12 eS12
    replace hF := KF_r hF eS12 (by decide)
    exact kmT_X2_remove_58 hk hF h
  · replace h := h.2 q10 c
    intro z13 ez13
    replace h := h z13 ez13
    intro z14 ez14
    replace h := h z14 ez14
    obtain ⟨q15, eq15, h9⟩ := h
    replace h := h9
    clear h9
    refine ⟨q15, eq15, ?_⟩
    intro S16 eS16
    replace h := h S16 eS16
    replace hF := KF_r hF eS16 (by decide)
    exact kmT_X2_remove_58 hk hF h
theorem kmT_X2_remove (t0 : Nat) (a0 : Nat) : KmV [] [12, 13, 25, 26, 27] [] [] [] (wT_X2_remove t0 a0) := by
  intro S0 K K' hk h
  have hF : KF [] [12, 13, 25, 26, 27] [] [] [] S0 S0 := KF_rf
  unfold wT_X2_remove at h ⊢
  intro z1 ez1
  replace h := h z1 ez1
  refine ⟨fun c => ?_, fun q2 c => ?_⟩
  · replace h := h.1 c
    intro z3 ez3
    replace h := h z3 ez3
    intro S4 eS4
    replace h := h S4 eS4
    replace hF := KF_r hF eS4 (by decide)
    exact kmT_X2_remove_29 hk hF h
  · replace h := h.2 q2 c
    intro z5 ez5
    replace h := h z5 ez5
    intro z6 ez6
    replace h := h z6 ez6
    obtain ⟨q7, eq7, h9⟩ := h
    replace h := h9
    clear h9
    refine ⟨q7, eq7, ?_⟩
    intro S8 eS8
    replace h := h S8 eS8
    replace hF := KF_r hF eS8 (by decide)
    exact kmT_X2_remove_29 hk hF h
theorem kmT_X4_isAdrift_5 {K K' : kS → Int32 → Prop} {k5 k5' : Option Nat × kS → Prop} {S0 : kS} (hk : ∀ S1 r1, KF [] [] [] [] [] S0 S1 → K S1 r1 → K' S1 r1) (hk5 : ∀ u : Option Nat × kS, KF [] [] [] [] [] S0 u.2 → k5 u → k5' u) {x1 : Option Nat} {S : kS} (hF : KF [] [] [] [] [] S0 S) (h : wT_X4_isAdrift_5 K k5 x1 S) : wT_X4_isAdrift_5 K' k5' x1 S := by
  unfold wT_X4_isAdrift_5 at h ⊢
  refine ⟨fun c => ?_, fun q2 c => ?_⟩
  · replace h := h.1 c
    exact hk _ _ hF h
  · replace h := h.2 q2 c
    intro z3 ez3
    replace h := h z3 ez3
    refine ⟨fun c => ?_, fun c => ?_⟩
    · replace h := h.1 c
      intro z5 ez5
      replace h := h z5 ez5
      exact hk5 _ hF h
    · replace h := h.2 c
      exact hk _ _ hF h
theorem kmlT_X4_isAdrift_5 {K K' : kS → Int32 → Prop} {S0 : kS} (hk : ∀ S1 r1, KF [] [] [] [] [] S0 S1 → K S1 r1 → K' S1 r1) : ∀ (n : Nat) (u : Option Nat × kS), KF [] [] [] [] [] S0 u.2 → it (lT_X4_isAdrift_5 K) n u → it (lT_X4_isAdrift_5 K') n u := by
  intro n
  induction n with
  | zero => exact fun _ _ h => h
  | succ n ih => exact fun u hF h => kmT_X4_isAdrift_5 hk ih hF h
theorem kmT_X4_isAdrift (t0 : Nat) : KmI [] [] [] [] [] (wT_X4_isAdrift t0) := by
  intro S0 K K' hk h
  have hF : KF [] [] [] [] [] S0 S0 := KF_rf
  unfold wT_X4_isAdrift at h ⊢
  intro z1 ez1
  replace h := h z1 ez1
  obtain ⟨n9, h⟩ := h
  exact ⟨n9, kmlT_X4_isAdrift_5 hk n9 _ hF h⟩
theorem kmT_X1_drop_65 {K K' : kS → Prop} {k5 k5' : Nat × Int32 × Option Nat × kS → Prop} {S0 : kS} (hk : ∀ S1, KF [5, 13] [12, 13, 25, 26, 27] [10] [] [] S0 S1 → K S1 → K' S1) (hk5 : ∀ u : Nat × Int32 × Option Nat × kS, KF [5, 13] [12, 13, 25, 26, 27] [10] [] [] S0 u.2.2.2 → k5 u → k5' u) {x0 : Nat} {x2 : Int32} {x3 : Nat} {S : kS} (hF : KF [5, 13] [12, 13, 25, 26, 27] [10] [] [] S0 S) (h : wT_X1_drop_65 K k5 x0 x2 x3 S) : wT_X1_drop_65 K' k5' x0 x2 x3 S := by
  unfold wT_X1_drop_65 at h ⊢
  intro z20 ez20
  replace h := h z20 ez20
  exact hk5 _ hF h
theorem kmT_X1_drop_47 {K K' : kS → Prop} {k5 k5' : Nat × Int32 × Option Nat × kS → Prop} {S0 : kS} (hk : ∀ S1, KF [5, 13] [12, 13, 25, 26, 27] [10] [] [] S0 S1 → K S1 → K' S1) (hk5 : ∀ u : Nat × Int32 × Option Nat × kS, KF [5, 13] [12, 13, 25, 26, 27] [10] [] [] S0 u.2.2.2 → k5 u → k5' u) {x0 : Nat} {x2 : Int32} {x3 : Nat} {S : kS} (hF : KF [5, 13] [12, 13, 25, 26, 27] [10] [] [] S0 S) (h : wT_X1_drop_47 K k5 x0 x2 x3 S) : wT_X1_drop_47 K' k5' x0 x2 x3 S := by
  unfold wT_X1_drop_47 at h ⊢
  intro z14 ez14
  replace h := h z14 ez14
  refine ⟨fun c => ?_, fun q15 c => ?_⟩
  · replace h := h.1 c
    exact kmT_X1_drop_65 hk hk5 hF h
  · replace h := h.2 q15 c
    intro z16 ez16
    replace h := h z16 ez16
    obtain ⟨q17, eq17, h9⟩ := h
    replace h := h9
    clear h9
    refine ⟨q17, eq17, ?_⟩
    intro z18 ez18
    replace h := h z18 ez18
    refine kmT_X1_plan _ _ _ _ _ (fun S19 hG h => ?_) h
    replace hF := KF_t hF hG (by decide) (by decide) (by decide) (by decide) (by decide) (by decide) (by decide) (by decide)
    exact kmT_X1_drop_65 hk hk5 hF h
theorem kmT_X1_drop_27 {K K' : kS → Prop} {k5 k5' : Nat × Int32 × Option Nat × kS → Prop} {S0 : kS} (hk : ∀ S1, KF [5, 13] [12, 13, 25, 26, 27] [10] [] [] S0 S1 → K S1 → K' S1) (hk5 : ∀ u : Nat × Int32 × Option Nat × kS, KF [5, 13] [12, 13, 25, 26, 27] [10] [] [] S0 u.2.2.2 → k5 u → k5' u) {x0 : Nat} {x2 : Int32} {x3 : Nat} {S : kS} (hF : KF [5, 13] [12, 13, 25, 26, 27] [10] [] [] S0 S) (h : wT_X1_drop_27 K k5 x0 x2 x3 S) : wT_X1_drop_27 K' k5' x0 x2 x3 S := by
  unfold wT_X1_drop_27 at h ⊢
  intro S8 eS8
  replace h := h S8 eS8
  replace hF := KF_i hF eS8 (by decide)
  intro z9 ez9
  replace h := h z9 ez9
  refine ⟨fun c => ?_, fun q10 c => ?_⟩
  · replace h := h.1 c
    exact kmT_X1_drop_47 hk hk5 hF h
  · replace h := h.2 q10 c
    intro z11 ez11
    replace h := h z11 ez11
    obtain ⟨q12, eq12, h9⟩ := h
    replace h := h9
    clear h9
    refine ⟨q12, eq12, ?_⟩
    refine kmT_X2_remove _ _ _ _ _ (fun S13 hG h => ?_) h
    replace hF := KF_t hF hG (by decide) (by decide) (by decide) (by decide) (by decide) (by decide) (by decide) (by decide)
    exact kmT_X1_drop_47 hk hk5 hF h
theorem kmT_X1_drop_5 {K K' : kS → Prop} {k5 k5' : Nat × Int32 × Option Nat × kS → Prop} {S0 : kS} (hk : ∀ S1, KF [5, 13] [12, 13, 25, 26, 27] [10] [] [] S0 S1 → K S1 → K' S1) (hk5 : ∀ u : Nat × Int32 × Option Nat × kS, KF [5, 13] [12, 13, 25, 26, 27] [10] [] [] S0 u.2.2.2 → k5 u → k5' u) {x0 : Nat} {x2 : Int32} {x3 : Option Nat} {S : kS} (hF : KF [5, 13] [12, 13, 25, 26, 27] [10] [] [] S0 S) (h : wT_X1_drop_5 K k5 x0 x2 x3 S) : wT_X1_drop_5 K' k5' x0 x2 x3 S := by
  unfold wT_X1_drop_5 at h ⊢
  refine ⟨fun c => ?_, fun q2 c => ?_⟩
  · replace h := h.1 c
    exact hk _ hF h
  · replace h := h.2 q2 c
    intro z3 ez3
    replace h := h z3 ez3
    refine ⟨fun c => ?_, fun c => ?_⟩
    · replace h := h.1 c
      exact kmT_X1_drop_65 hk hk5 hF h
    · replace h := h.2 c
      refine ⟨fun c => ?_, fun c => ?_⟩
      · replace h := h.1 c
        exact kmT_X1_drop_27 hk hk5 hF h
      · replace h := h.2 c
        refine kmT_X4_isAdrift _ _ _ _ (fun S6 r6 hG h => ?_) h
        replace hF := KF_t hF hG (by decide) (by decide) (by decide) (by decide) (by decide) (by decide) (by decide) (by decide)
        refine ⟨fun c => ?_, fun c => ?_⟩
        · replace h := h.1 c
          exact kmT_X1_drop_65 hk hk5 hF h
        · replace h := h.2 c
          exact kmT_X1_drop_27 hk hk5 hF h
theorem kmlT_X1_drop_5 {K K' : kS → Prop} {S0 : kS} (hk : ∀ S1, KF [5, 13] [12, 13, 25, 26, 27] [10] [] [] S0 S1 → K S1 → K' S1) : ∀ (n : Nat) (u : Nat × Int32 × Option Nat × kS), KF [5, 13] [12, 13, 25, 26, 27] [10] [] [] S0 u.2.2.2 → it (lT_X1_drop_5 K) n u → it (lT_X1_drop_5 K') n u := by
  intro n
  induction n with
  | zero => exact fun _ _ h => h
  | succ n ih => exact fun u hF h => kmT_X1_drop_5 hk ih hF h
theorem kmT_X1_drop (t0 : Nat) (a0 : Nat) (a1 : Int32) : KmV [5, 13] [12, 13, 25, 26, 27] [10] [] [] (wT_X1_drop t0 a0 a1) := by
  intro S0 K K' hk h
  have hF : KF [5, 13] [12, 13, 25, 26, 27] [10] [] [] S0 S0 := KF_rf
  unfold wT_X1_drop at h ⊢
  intro z1 ez1
  replace h := h z1 ez1
  obtain ⟨n9, h⟩ := h
  exact ⟨n9, kmlT_X1_drop_5 hk n9 _ hF h⟩
theorem kmT_X1_turnRound_9 {K K' : kS → Prop} {k9 k9' : Nat × Int32 × Int32 × kS → Prop} {S0 : kS} (hk : ∀ S1, KF [] [] [10] [] [] S0 S1 → K S1 → K' S1) (hk9 : ∀ u : Nat × Int32 × Int32 × kS, KF [] [] [10] [] [] S0 u.2.2.2 → k9 u → k9' u) {x0 : Nat} {x2 : Int32} {x3 : Int32} {S : kS} (hF : KF [] [] [10] [] [] S0 S) (h : wT_X1_turnRound_9 K k9 x0 x2 x3 S) : wT_X1_turnRound_9 K' k9' x0 x2 x3 S := by
  unfold wT_X1_turnRound_9 at h ⊢
  refine ⟨fun c => ?_, fun c => ?_⟩
  · replace h := h.1 c
    exact hk _ hF h
  · replace h := h.2 c
    intro z4 ez4
    replace h := h z4 ez4
    intro q5 eq5
    replace h := h q5 eq5
    refine ⟨h.1, ?_⟩
    replace h := h.2
    intro z6 ez6
    replace h := h z6 ez6
    intro z7 ez7
    replace h := h z7 ez7
    have pz7 : ∃ o, S0.2.1 10 o = z7 := ⟨_, by rw [ez7, hF.2.1 10 (by decide)]⟩
    intro z8 ez8
    replace h := h z8 ez8
    intro q9 eq9
    replace h := h q9 eq9
    refine ⟨h.1, ?_⟩
    replace h := h.2
    intro z10 ez10
    replace h := h z10 ez10
    intro q11 eq11
    replace h := h q11 eq11
    refine ⟨h.1, ?_⟩
    replace h := h.2
    intro S12 eS12
    replace h := h S12 eS12
    replace hF := KF_a (fid := 10) hF eS12 (by decide) (by rw [← eq11]; exact pz7)
    intro z13 ez13
    replace h := h z13 ez13
    have pz13 : ∃ o, S0.2.1 10 o = z13 := ⟨_, by rw [ez13, hF.2.1 10 (by decide)]⟩
    intro q14 eq14
    replace h := h q14 eq14
    refine ⟨h.1, ?_⟩
    replace h := h.2
    intro S15 eS15
    replace h := h S15 eS15
    replace hF := KF_a (fid := 10) hF eS15 (by decide) (by rw [← eq14]; exact pz13)
    intro z16 ez16
    replace h := h z16 ez16
    intro z17 ez17
    replace h := h z17 ez17
    exact hk9 _ hF h
theorem kmlT_X1_turnRound_9 {K K' : kS → Prop} {S0 : kS} (hk : ∀ S1, KF [] [] [10] [] [] S0 S1 → K S1 → K' S1) : ∀ (n : Nat) (u : Nat × Int32 × Int32 × kS), KF [] [] [10] [] [] S0 u.2.2.2 → it (lT_X1_turnRound_9 K) n u → it (lT_X1_turnRound_9 K') n u := by
  intro n
  induction n with
  | zero => exact fun _ _ h => h
  | succ n ih => exact fun u hF h => kmT_X1_turnRound_9 hk ih hF h
theorem kmT_X1_turnRound (t0 : Nat) (a0 : Int32) : KmV [] [] [10] [] [] (wT_X1_turnRound t0 a0) := by
  intro S0 K K' hk h
  have hF : KF [] [] [10] [] [] S0 S0 := KF_rf
  unfold wT_X1_turnRound at h ⊢
  intro z1 ez1
  replace h := h z1 ez1
  intro z2 ez2
  replace h := h z2 ez2
  obtain ⟨n9, h⟩ := h
  exact ⟨n9, kmlT_X1_turnRound_9 hk n9 _ hF h⟩
theorem kmT_X4_hears_50 {K K' : kS → Int32 → Prop} {S0 : kS} (hk : ∀ S1 r1, KF [13, 14, 15] [] [] [] [] S0 S1 → K S1 r1 → K' S1 r1) {x0 : Nat} {x1 : Int32} {x2 : Int32} {S : kS} (hF : KF [13, 14, 15] [] [] [] [] S0 S) (h : wT_X4_hears_50 K x0 x1 x2 S) : wT_X4_hears_50 K' x0 x1 x2 S := by
  unfold wT_X4_hears_50 at h ⊢
  intro S13 eS13
  replace h := h S13 eS13
  replace hF := KF_i hF eS13 (by decide)
  intro S14 eS14
  replace h := h S14 eS14
  replace hF := KF_i hF eS14 (by decide)
  exact hk _ _ hF h
theorem kmT_X4_hears (t0 : Nat) (a0 : Int32) (a1 : Int32) : KmI [13, 14, 15] [] [] [] [] (wT_X4_hears t0 a0 a1) := by
  intro S0 K K' hk h
  have hF : KF [13, 14, 15] [] [] [] [] S0 S0 := KF_rf
  unfold wT_X4_hears at h ⊢
  intro z1 ez1
  replace h := h z1 ez1
  refine ⟨fun c => ?_, fun c => ?_⟩
  · replace h := h.1 c
    exact kmT_X4_hears_50 hk hF h
  · replace h := h.2 c
    refine ⟨fun c => ?_, fun c => ?_⟩
    · replace h := h.1 c
      exact kmT_X4_hears_50 hk hF h
    · replace h := h.2 c
      intro z4 ez4
      replace h := h z4 ez4
      intro z5 ez5
      replace h := h z5 ez5
      intro S6 eS6
      replace h := h S6 eS6
      replace hF := KF_i hF eS6 (by decide)
      intro z7 ez7
      replace h := h z7 ez7
      intro z8 ez8
      replace h := h z8 ez8
      intro S9 eS9
      replace h := h S9 eS9
      replace hF := KF_i hF eS9 (by decide)
      intro z10 ez10
      replace h := h z10 ez10
      refine ⟨fun c => ?_, fun c => ?_⟩
      · replace h := h.1 c
        intro S12 eS12
        replace h := h S12 eS12
        replace hF := KF_i hF eS12 (by decide)
        exact hk _ _ hF h
      · replace h := h.2 c
        exact hk _ _ hF h
theorem kmT_X1_report_145 {K K' : kS → Prop} {S0 : kS} (hk : ∀ S1, KF [5, 13, 14, 15, 38, 39] [12, 13, 25, 26, 27] [10] [] [] S0 S1 → K S1 → K' S1) {x0 : Nat} {x5 : Int32} {S : kS} (hF : KF [5, 13, 14, 15, 38, 39] [12, 13, 25, 26, 27] [10] [] [] S0 S) (h : wT_X1_report_145 K x0 x5 S) : wT_X1_report_145 K' x0 x5 S := by
  unfold wT_X1_report_145 at h ⊢
  refine kmT_X1_turnRound _ _ _ _ _ (fun S31 hG h => ?_) h
  replace hF := KF_t hF hG (by decide) (by decide) (by decide) (by decide) (by decide) (by decide) (by decide) (by decide)
  exact hk _ hF h
theorem kmT_X1_report_137 {K K' : kS → Prop} {k39 k39' : Nat × Nat × Int32 × Option Nat × Int32 × kS → Prop} {S0 : kS} (hk : ∀ S1, KF [5, 13, 14, 15, 38, 39] [12, 13, 25, 26, 27] [10] [] [] S0 S1 → K S1 → K' S1) (hk39 : ∀ u : Nat × Nat × Int32 × Option Nat × Int32 × kS, KF [5, 13, 14, 15, 38, 39] [12, 13, 25, 26, 27] [10] [] [] S0 u.2.2.2.2.2 → k39 u → k39' u) {x0 : Nat} {x4 : Nat} {x5 : Int32} {x7 : Int32} {y0 : Option Nat} {S : kS} (hF : KF [5, 13, 14, 15, 38, 39] [12, 13, 25, 26, 27] [10] [] [] S0 S) (h : wT_X1_report_137 K k39 x0 x4 x5 x7 y0 S) : wT_X1_report_137 K' k39' x0 x4 x5 x7 y0 S := by
  unfold wT_X1_report_137 at h ⊢
  intro z30 ez30
  replace h := h z30 ez30
  exact hk39 _ hF h
theorem kmT_X1_report_69 {K K' : kS → Prop} {k39 k39' : Nat × Nat × Int32 × Option Nat × Int32 × kS → Prop} {S0 : kS} (hk : ∀ S1, KF [5, 13, 14, 15, 38, 39] [12, 13, 25, 26, 27] [10] [] [] S0 S1 → K S1 → K' S1) (hk39 : ∀ u : Nat × Nat × Int32 × Option Nat × Int32 × kS, KF [5, 13, 14, 15, 38, 39] [12, 13, 25, 26, 27] [10] [] [] S0 u.2.2.2.2.2 → k39 u → k39' u) {x0 : Nat} {x4 : Nat} {x5 : Int32} {x6 : Nat} {x7 : Int32} {S : kS} (hF : KF [5, 13, 14, 15, 38, 39] [12, 13, 25, 26, 27] [10] [] [] S0 S) (h : wT_X1_report_69 K k39 x0 x4 x5 x6 x7 S) : wT_X1_report_69 K' k39' x0 x4 x5 x6 x7 S := by
  unfold wT_X1_report_69 at h ⊢
  refine kmT_X1_drop _ _ _ _ _ _ (fun S16 hG h => ?_) h
  replace hF := KF_t hF hG (by decide) (by decide) (by decide) (by decide) (by decide) (by decide) (by decide) (by decide)
  intro z17 ez17
  replace h := h z17 ez17
  refine ⟨fun c => ?_, fun q18 c => ?_⟩
  · replace h := h.1 c
    intro z19 ez19
    replace h := h z19 ez19
    intro S20 eS20
    replace h := h S20 eS20
    replace hF := KF_i hF eS20 (by decide)
    intro z21 ez21
    replace h := h z21 ez21
    intro S22 eS22
    replace h := h S22 eS22
    replace hF := KF_i hF eS22 (by decide)
    exact kmT_X1_report_145 hk hF h
  · replace h := h.2 q18 c
    intro z23 ez23
    replace h := h z23 ez23
    intro z24 ez24
    replace h := h z24 ez24
    intro z25 ez25
    replace h := h z25 ez25
    obtain ⟨q26, eq26, h9⟩ := h
    replace h := h9
    clear h9
    refine ⟨q26, eq26, ?_⟩
    refine kmT_X4_hears _ _ _ _ _ _ (fun S27 r27 hG h => ?_) h
    replace hF := KF_t hF hG (by decide) (by decide) (by decide) (by decide) (by decide) (by decide) (by decide) (by decide)
    refine ⟨fun c => ?_, fun c => ?_⟩
    · replace h := h.1 c
      exact kmT_X1_report_137 hk hk39 hF h
    · replace h := h.2 c
      intro z29 ez29
      replace h := h z29 ez29
      exact kmT_X1_report_137 hk hk39 hF h
theorem kmT_X1_report_39 {K K' : kS → Prop} {k39 k39' : Nat × Nat × Int32 × Option Nat × Int32 × kS → Prop} {S0 : kS} (hk : ∀ S1, KF [5, 13, 14, 15, 38, 39] [12, 13, 25, 26, 27] [10] [] [] S0 S1 → K S1 → K' S1) (hk39 : ∀ u : Nat × Nat × Int32 × Option Nat × Int32 × kS, KF [5, 13, 14, 15, 38, 39] [12, 13, 25, 26, 27] [10] [] [] S0 u.2.2.2.2.2 → k39 u → k39' u) {x0 : Nat} {x4 : Nat} {x5 : Int32} {x6 : Option Nat} {x7 : Int32} {S : kS} (hF : KF [5, 13, 14, 15, 38, 39] [12, 13, 25, 26, 27] [10] [] [] S0 S) (h : wT_X1_report_39 K k39 x0 x4 x5 x6 x7 S) : wT_X1_report_39 K' k39' x0 x4 x5 x6 x7 S := by
  unfold wT_X1_report_39 at h ⊢
  refine ⟨fun c => ?_, fun c => ?_⟩
  · replace h := h.1 c
    exact kmT_X1_report_145 hk hF h
  · replace h := h.2 c
    refine ⟨fun c => ?_, fun q10 c => ?_⟩
    · replace h := h.1 c
      exact kmT_X1_report_145 hk hF h
    · replace h := h.2 q10 c
      intro z11 ez11
      replace h := h z11 ez11
      refine ⟨fun c => ?_, fun q12 c => ?_⟩
      · replace h := h.1 c
        exact kmT_X1_report_69 hk hk39 hF h
      · replace h := h.2 q12 c
        intro z13 ez13
        replace h := h z13 ez13
        obtain ⟨q14, eq14, h9⟩ := h
        replace h := h9
        clear h9
        refine ⟨q14, eq14, ?_⟩
        refine kmT_X2_remove _ _ _ _ _ (fun S15 hG h => ?_) h
        replace hF := KF_t hF hG (by decide) (by decide) (by decide) (by decide) (by decide) (by decide) (by decide) (by decide)
        exact kmT_X1_report_69 hk hk39 hF h
theorem kmlT_X1_report_39 {K K' : kS → Prop} {S0 : kS} (hk : ∀ S1, KF [5, 13, 14, 15, 38, 39] [12, 13, 25, 26, 27] [10] [] [] S0 S1 → K S1 → K' S1) : ∀ (n : Nat) (u : Nat × Nat × Int32 × Option Nat × Int32 × kS), KF [5, 13, 14, 15, 38, 39] [12, 13, 25, 26, 27] [10] [] [] S0 u.2.2.2.2.2 → it (lT_X1_report_39 K) n u → it (lT_X1_report_39 K') n u := by
  intro n
  induction n with
  | zero => exact fun _ _ h => h
  | succ n ih => exact fun u hF h => kmT_X1_report_39 hk ih hF h
theorem kmT_X1_report (t0 : Nat) (a0 : Nat) (a1 : Int32) (a2 : Int32) : KmV [5, 13, 14, 15, 38, 39] [12, 13, 25, 26, 27] [10] [] [] (wT_X1_report t0 a0 a1 a2) := by
  intro S0 K K' hk h
  have hF : KF [5, 13, 14, 15, 38, 39] [12, 13, 25, 26, 27] [10] [] [] S0 S0 := KF_rf
  unfold wT_X1_report at h ⊢
  intro z1 ez1
  replace h := h z1 ez1
  obtain ⟨q2, eq2, h9⟩ := h
  replace h := h9
  clear h9
  refine ⟨q2, eq2, ?_⟩
  intro z3 ez3
  replace h := h z3 ez3
  intro z4 ez4
  replace h := h z4 ez4
  refine kmT_X1_plan _ _ _ _ _ (fun S5 hG h => ?_) h
  replace hF := KF_t hF hG (by decide) (by decide) (by decide) (by decide) (by decide) (by decide) (by decide) (by decide)
  intro z6 ez6
  replace h := h z6 ez6
  intro S7 eS7
  replace h := h S7 eS7
  replace hF := KF_i hF eS7 (by decide)
  intro S8 eS8
  replace h := h S8 eS8
  replace hF := KF_i hF eS8 (by decide)
  obtain ⟨n9, h⟩ := h
  exact ⟨n9, kmlT_X1_report_39 hk n9 _ hF h⟩
theorem kmT_X1_tellParent (t0 : Nat) (a0 : Nat) : KmV [5, 13, 14, 15, 38, 39] [12, 13, 25, 26, 27] [10] [] [] (wT_X1_tellParent t0 a0) := by
  intro S0 K K' hk h
  have hF : KF [5, 13, 14, 15, 38, 39] [12, 13, 25, 26, 27] [10] [] [] S0 S0 := KF_rf
  unfold wT_X1_tellParent at h ⊢
  intro z1 ez1
  replace h := h z1 ez1
  refine ⟨fun c => ?_, fun q2 c => ?_⟩
  · replace h := h.1 c
    exact hk _ hF h
  · replace h := h.2 q2 c
    intro z3 ez3
    replace h := h z3 ez3
    refine ⟨fun c => ?_, fun c => ?_⟩
    · replace h := h.1 c
      intro z5 ez5
      replace h := h z5 ez5
      refine ⟨fun c => ?_, fun c => ?_⟩
      · replace h := h.1 c
        intro z7 ez7
        replace h := h z7 ez7
        refine kmT_X1_report _ _ _ _ _ _ _ (fun S8 hG h => ?_) h
        replace hF := KF_t hF hG (by decide) (by decide) (by decide) (by decide) (by decide) (by decide) (by decide) (by decide)
        exact hk _ hF h
      · replace h := h.2 c
        intro z9 ez9
        replace h := h z9 ez9
        refine kmT_X1_report _ _ _ _ _ _ _ (fun S10 hG h => ?_) h
        replace hF := KF_t hF hG (by decide) (by decide) (by decide) (by decide) (by decide) (by decide) (by decide) (by decide)
        exact hk _ hF h
    · replace h := h.2 c
      exact hk _ hF h
theorem kmT_X1_enterRow (t0 : Nat) (a0 : Nat) : KmV [3, 30] [] [4] [] [] (wT_X1_enterRow t0 a0) := by
  intro S0 K K' hk h
  have hF : KF [3, 30] [] [4] [] [] S0 S0 := KF_rf
  unfold wT_X1_enterRow at h ⊢
  intro z1 ez1
  replace h := h z1 ez1
  refine ⟨fun c => ?_, fun c => ?_⟩
  · replace h := h.1 c
    intro S3 eS3
    replace h := h S3 eS3
    replace hF := KF_i hF eS3 (by decide)
    exact hk _ hF h
  · replace h := h.2 c
    intro z4 ez4
    replace h := h z4 ez4
    have pz4 : ∃ o, S0.2.1 4 o = z4 := ⟨_, by rw [ez4, hF.2.1 4 (by decide)]⟩
    intro z5 ez5
    replace h := h z5 ez5
    intro z6 ez6
    replace h := h z6 ez6
    intro q7 eq7
    replace h := h q7 eq7
    refine ⟨h.1, ?_⟩
    replace h := h.2
    intro S8 eS8
    replace h := h S8 eS8
    replace hF := KF_a (fid := 4) hF eS8 (by decide) (by rw [← eq7]; exact pz4)
    intro z9 ez9
    replace h := h z9 ez9
    intro z10 ez10
    replace h := h z10 ez10
    intro S11 eS11
    replace h := h S11 eS11
    replace hF := KF_i hF eS11 (by decide)
    intro S12 eS12
    replace h := h S12 eS12
    replace hF := KF_i hF eS12 (by decide)
    exact hk _ hF h
theorem kmT_X1_settle (t0 : Nat) (a0 : Nat) : KmV [3, 30] [] [4] [] [] (wT_X1_settle t0 a0) := by
  intro S0 K K' hk h
  have hF : KF [3, 30] [] [4] [] [] S0 S0 := KF_rf
  unfold wT_X1_settle at h ⊢
  intro z1 ez1
  replace h := h z1 ez1
  refine ⟨fun c => ?_, fun c => ?_⟩
  · replace h := h.1 c
    exact hk _ hF h
  · replace h := h.2 c
    intro z3 ez3
    replace h := h z3 ez3
    refine ⟨fun c => ?_, fun c => ?_⟩
    · replace h := h.1 c
      exact hk _ hF h
    · replace h := h.2 c
      intro z5 ez5
      replace h := h z5 ez5
      refine ⟨fun c => ?_, fun c => ?_⟩
      · replace h := h.1 c
        intro S7 eS7
        replace h := h S7 eS7
        replace hF := KF_i hF eS7 (by decide)
        exact hk _ hF h
      · replace h := h.2 c
        refine kmT_X1_enterRow _ _ _ _ _ (fun S8 hG h => ?_) h
        replace hF := KF_t hF hG (by decide) (by decide) (by decide) (by decide) (by decide) (by decide) (by decide) (by decide)
        exact hk _ hF h
theorem kmT_X1_leaveRow_38 {K K' : kS → Option Nat → Prop} {k38 k38' : Nat × Option Nat × Int32 × kS → Prop} {S0 : kS} (hk : ∀ S1 r1, KF [3] [] [4] [] [] S0 S1 → K S1 r1 → K' S1 r1) (hk38 : ∀ u : Nat × Option Nat × Int32 × kS, KF [3] [] [4] [] [] S0 u.2.2.2 → k38 u → k38' u) {x0 : Nat} {x2 : Option Nat} {x3 : Int32} {S : kS} (hF : KF [3] [] [4] [] [] S0 S) (h : wT_X1_leaveRow_38 K k38 x0 x2 x3 S) : wT_X1_leaveRow_38 K' k38' x0 x2 x3 S := by
  unfold wT_X1_leaveRow_38 at h ⊢
  intro z13 ez13
  replace h := h z13 ez13
  refine ⟨fun c => ?_, fun c => ?_⟩
  · replace h := h.1 c
    exact hk _ _ hF h
  · replace h := h.2 c
    intro z15 ez15
    replace h := h z15 ez15
    have pz15 : ∃ o, S0.2.1 4 o = z15 := ⟨_, by rw [ez15, hF.2.1 4 (by decide)]⟩
    intro z16 ez16
    replace h := h z16 ez16
    intro z17 ez17
    replace h := h z17 ez17
    intro q18 eq18
    replace h := h q18 eq18
    refine ⟨h.1, ?_⟩
    replace h := h.2
    intro z19 ez19
    replace h := h z19 ez19
    intro q20 eq20
    replace h := h q20 eq20
    refine ⟨h.1, ?_⟩
    replace h := h.2
    intro S21 eS21
    replace h := h S21 eS21
    replace hF := KF_a (fid := 4) hF eS21 (by decide) (by rw [← eq20]; exact pz15)
    intro z22 ez22
    replace h := h z22 ez22
    exact hk38 _ hF h
theorem kmlT_X1_leaveRow_38 {K K' : kS → Option Nat → Prop} {S0 : kS} (hk : ∀ S1 r1, KF [3] [] [4] [] [] S0 S1 → K S1 r1 → K' S1 r1) : ∀ (n : Nat) (u : Nat × Option Nat × Int32 × kS), KF [3] [] [4] [] [] S0 u.2.2.2 → it (lT_X1_leaveRow_38 K) n u → it (lT_X1_leaveRow_38 K') n u := by
  intro n
  induction n with
  | zero => exact fun _ _ h => h
  | succ n ih => exact fun u hF h => kmT_X1_leaveRow_38 hk ih hF h
theorem kmT_X1_leaveRow_12 {K K' : kS → Option Nat → Prop} {S0 : kS} (hk : ∀ S1 r1, KF [3] [] [4] [] [] S0 S1 → K S1 r1 → K' S1 r1) {S : kS} (hF : KF [3] [] [4] [] [] S0 S) (h : wT_X1_leaveRow_12 K S) : wT_X1_leaveRow_12 K' S := by
  unfold wT_X1_leaveRow_12 at h ⊢
  exact hk _ _ hF h
theorem kmT_X1_leaveRow (t0 : Nat) (a0 : Int32) : KmO [3] [] [4] [] [] (wT_X1_leaveRow t0 a0) := by
  intro S0 K K' hk h
  have hF : KF [3] [] [4] [] [] S0 S0 := KF_rf
  unfold wT_X1_leaveRow at h ⊢
  refine ⟨fun c => ?_, fun c => ?_⟩
  · replace h := h.1 c
    exact kmT_X1_leaveRow_12 hk hF h
  · replace h := h.2 c
    intro z2 ez2
    replace h := h z2 ez2
    refine ⟨fun c => ?_, fun c => ?_⟩
    · replace h := h.1 c
      intro z4 ez4
      replace h := h z4 ez4
      intro z5 ez5
      replace h := h z5 ez5
      intro q6 eq6
      replace h := h q6 eq6
      refine ⟨h.1, ?_⟩
      replace h := h.2
      intro z7 ez7
      replace h := h z7 ez7
      intro q8 eq8
      replace h := h q8 eq8
      refine ⟨h.1, ?_⟩
      replace h := h.2
      intro z9 ez9
      replace h := h z9 ez9
      intro z10 ez10
      replace h := h z10 ez10
      intro z11 ez11
      replace h := h z11 ez11
      intro S12 eS12
      replace h := h S12 eS12
      replace hF := KF_i hF eS12 (by decide)
      obtain ⟨n9, h⟩ := h
      exact ⟨n9, kmlT_X1_leaveRow_38 hk n9 _ hF h⟩
    · replace h := h.2 c
      exact kmT_X1_leaveRow_12 hk hF h
theorem kmT_X1_close_42 {K K' : kS → Prop} {S0 : kS} (hk : ∀ S1, KF [2, 3, 30, 37] [] [4] [] [] S0 S1 → K S1 → K' S1) {x0 : Nat} {x1 : Nat} {S : kS} (hF : KF [2, 3, 30, 37] [] [4] [] [] S0 S) (h : wT_X1_close_42 K x0 x1 S) : wT_X1_close_42 K' x0 x1 S := by
  unfold wT_X1_close_42 at h ⊢
  intro S12 eS12
  replace h := h S12 eS12
  replace hF := KF_i hF eS12 (by decide)
  intro z13 ez13
  replace h := h z13 ez13
  intro z14 ez14
  replace h := h z14 ez14
  intro S15 eS15
  replace h := h S15 eS15
  replace hF := KF_i hF eS15 (by decide)
  intro z16 ez16
  replace h := h z16 ez16
  refine ⟨fun c => ?_, fun q17 c => ?_⟩
  · replace h := h.1 c
    exact hk _ hF h
  · replace h := h.2 q17 c
    intro z18 ez18
    replace h := h z18 ez18
    intro z19 ez19
    replace h := h z19 ez19
    intro S20 eS20
    replace h := h S20 eS20
    replace hF := KF_i hF eS20 (by decide)
    intro z21 ez21
    replace h := h z21 ez21
    refine ⟨fun c => ?_, fun c => ?_⟩
    · replace h := h.1 c
      exact hk _ hF h
    · replace h := h.2 c
      intro z23 ez23
      replace h := h z23 ez23
      refine ⟨fun c => ?_, fun c => ?_⟩
      · replace h := h.1 c
        exact hk _ hF h
      · replace h := h.2 c
        refine kmT_X1_enterRow _ _ _ _ _ (fun S25 hG h => ?_) h
        replace hF := KF_t hF hG (by decide) (by decide) (by decide) (by decide) (by decide) (by decide) (by decide) (by decide)
        exact hk _ hF h
theorem kmT_X1_close_36 {K K' : kS → Prop} {S0 : kS} (hk : ∀ S1, KF [2, 3, 30, 37] [] [4] [] [] S0 S1 → K S1 → K' S1) {x0 : Nat} {x1 : Nat} {x2 : Int32} {S : kS} (hF : KF [2, 3, 30, 37] [] [4] [] [] S0 S) (h : wT_X1_close_36 K x0 x1 x2 S) : wT_X1_close_36 K' x0 x1 x2 S := by
  unfold wT_X1_close_36 at h ⊢
  refine kmT_X1_leaveRow _ _ _ _ _ (fun S11 o11 hG h => ?_) h
  replace hF := KF_t hF hG (by decide) (by decide) (by decide) (by decide) (by decide) (by decide) (by decide) (by decide)
  exact kmT_X1_close_42 hk hF h
theorem kmT_X1_close_9 {K K' : kS → Prop} {k9 k9' : Nat × Nat × Int32 × kS → Prop} {S0 : kS} (hk : ∀ S1, KF [2, 3, 30, 37] [] [4] [] [] S0 S1 → K S1 → K' S1) (hk9 : ∀ u : Nat × Nat × Int32 × kS, KF [2, 3, 30, 37] [] [4] [] [] S0 u.2.2.2 → k9 u → k9' u) {x0 : Nat} {x1 : Nat} {x2 : Int32} {S : kS} (hF : KF [2, 3, 30, 37] [] [4] [] [] S0 S) (h : wT_X1_close_9 K k9 x0 x1 x2 S) : wT_X1_close_9 K' k9' x0 x1 x2 S := by
  unfold wT_X1_close_9 at h ⊢
  intro z3 ez3
  replace h := h z3 ez3
  refine ⟨fun c => ?_, fun c => ?_⟩
  · replace h := h.1 c
    exact kmT_X1_close_36 hk hF h
  · replace h := h.2 c
    intro z5 ez5
    replace h := h z5 ez5
    intro q6 eq6
    replace h := h q6 eq6
    refine ⟨h.1, ?_⟩
    replace h := h.2
    intro z7 ez7
    replace h := h z7 ez7
    intro z8 ez8
    replace h := h z8 ez8
    refine ⟨fun c => ?_, fun c => ?_⟩
    · replace h := h.1 c
      exact kmT_X1_close_36 hk hF h
    · replace h := h.2 c
      intro z10 ez10
      replace h := h z10 ez10
      exact hk9 _ hF h
theorem kmlT_X1_close_9 {K K' : kS → Prop} {S0 : kS} (hk : ∀ S1, KF [2, 3, 30, 37] [] [4] [] [] S0 S1 → K S1 → K' S1) : ∀ (n : Nat) (u : Nat × Nat × Int32 × kS), KF [2, 3, 30, 37] [] [4] [] [] S0 u.2.2.2 → it (lT_X1_close_9 K) n u → it (lT_X1_close_9 K') n u := by
  intro n
  induction n with
  | zero => exact fun _ _ h => h
  | succ n ih => exact fun u hF h => kmT_X1_close_9 hk ih hF h
theorem kmT_X1_close (t0 : Nat) (a0 : Nat) : KmV [2, 3, 30, 37] [] [4] [] [] (wT_X1_close t0 a0) := by
  intro S0 K K' hk h
  have hF : KF [2, 3, 30, 37] [] [4] [] [] S0 S0 := KF_rf
  unfold wT_X1_close at h ⊢
  intro z1 ez1
  replace h := h z1 ez1
  refine ⟨fun c => ?_, fun c => ?_⟩
  · replace h := h.1 c
    exact kmT_X1_close_42 hk hF h
  · replace h := h.2 c
    obtain ⟨n9, h⟩ := h
    exact ⟨n9, kmlT_X1_close_9 hk n9 _ hF h⟩
theorem kmT_X1_letGo (t0 : Nat) (a0 : Nat) (a1 : Int32) : KmV [5, 13] [12, 13, 25, 26, 27] [10] [] [] (wT_X1_letGo t0 a0 a1) := by
  intro S0 K K' hk h
  have hF : KF [5, 13] [12, 13, 25, 26, 27] [10] [] [] S0 S0 := KF_rf
  unfold wT_X1_letGo at h ⊢
  intro z1 ez1
  replace h := h z1 ez1
  refine kmT_X1_drop _ _ _ _ _ _ (fun S2 hG h => ?_) h
  replace hF := KF_t hF hG (by decide) (by decide) (by decide) (by decide) (by decide) (by decide) (by decide) (by decide)
  refine kmT_X1_turnRound _ _ _ _ _ (fun S3 hG h => ?_) h
  replace hF := KF_t hF hG (by decide) (by decide) (by decide) (by decide) (by decide) (by decide) (by decide) (by decide)
  exact hk _ hF h
theorem kmT_X1_stop_63 {K K' : kS → Prop} {S0 : kS} (hk : ∀ S1, KF [0, 2, 3, 5, 13, 30, 31, 35, 37, 38] [12, 13, 25, 26, 27] [0, 1, 4, 10] [] [] S0 S1 → K S1 → K' S1) {x0 : Nat} {x1 : Nat} {S : kS} (hF : KF [0, 2, 3, 5, 13, 30, 31, 35, 37, 38] [12, 13, 25, 26, 27] [0, 1, 4, 10] [] [] S0 S) (h : wT_X1_stop_63 K x0 x1 S) : wT_X1_stop_63 K' x0 x1 S := by
  unfold wT_X1_stop_63 at h ⊢
  intro S17 eS17
  replace h := h S17 eS17
  replace hF := KF_i hF eS17 (by decide)
  intro z18 ez18
  replace h := h z18 ez18
  refine ⟨fun c => ?_, fun c => ?_⟩
  · replace h := h.1 c
    exact hk _ hF h
  · replace h := h.2 c
    intro z20 ez20
    replace h := h z20 ez20
    intro z21 ez21
    replace h := h z21 ez21
    refine kmT_X1_plan _ _ _ _ _ (fun S22 hG h => ?_) h
    replace hF := KF_t hF hG (by decide) (by decide) (by decide) (by decide) (by decide) (by decide) (by decide) (by decide)
    refine kmT_X1_letGo _ _ _ _ _ _ (fun S23 hG h => ?_) h
    replace hF := KF_t hF hG (by decide) (by decide) (by decide) (by decide) (by decide) (by decide) (by decide) (by decide)
    exact hk _ hF h
theorem kmT_X1_stop (t0 : Nat) (a0 : Nat) : KmV [0, 2, 3, 5, 13, 30, 31, 35, 37, 38] [12, 13, 25, 26, 27] [0, 1, 4, 10] [] [] (wT_X1_stop t0 a0) := by
  intro S0 K K' hk h
  have hF : KF [0, 2, 3, 5, 13, 30, 31, 35, 37, 38] [12, 13, 25, 26, 27] [0, 1, 4, 10] [] [] S0 S0 := KF_rf
  unfold wT_X1_stop at h ⊢
  intro z1 ez1
  replace h := h z1 ez1
  refine ⟨fun c => ?_, fun c => ?_⟩
  · replace h := h.1 c
    exact hk _ hF h
  · replace h := h.2 c
    intro z3 ez3
    replace h := h z3 ez3
    refine ⟨fun c => ?_, fun c => ?_⟩
    · replace h := h.1 c
      intro S5 eS5
      replace h := h S5 eS5
      replace hF := KF_i hF eS5 (by decide)
      intro z6 ez6
      replace h := h z6 ez6
      refine ⟨fun c => ?_, fun c => ?_⟩
      · replace h := h.1 c
        intro z8 ez8
        replace h := h z8 ez8
        refine ⟨fun c => ?_, fun c => ?_⟩
        · replace h := h.1 c
          exact kmT_X1_stop_63 hk hF h
        · replace h := h.2 c
          intro z10 ez10
          replace h := h z10 ez10
          intro z11 ez11
          replace h := h z11 ez11
          intro z12 ez12
          replace h := h z12 ez12
          intro q13 eq13
          replace h := h q13 eq13
          refine kmT_X0_note _ _ _ _ _ _ (fun S14 hG h => ?_) h
          replace hF := KF_t hF hG (by decide) (by decide) (by decide) (by decide) (by decide) (by decide) (by decide) (by decide)
          exact kmT_X1_stop_63 hk hF h
      · replace h := h.2 c
        intro S15 eS15
        replace h := h S15 eS15
        replace hF := KF_i hF eS15 (by decide)
        refine kmT_X1_close _ _ _ _ _ (fun S16 hG h => ?_) h
        replace hF := KF_t hF hG (by decide) (by decide) (by decide) (by decide) (by decide) (by decide) (by decide) (by decide)
        exact hk _ hF h
    · replace h := h.2 c
      exact hk _ hF h
theorem kmT_X1_work_64 {K K' : kS → Prop} {k2 k2' : Nat × Int32 × kS → Prop} {S0 : kS} (hk : ∀ S1, KF [0, 2, 3, 5, 13, 30, 31, 35, 37, 38] [12, 13, 25, 26, 27] [0, 1, 4, 10] [] [] S0 S1 → K S1 → K' S1) (hk2 : ∀ u : Nat × Int32 × kS, KF [0, 2, 3, 5, 13, 30, 31, 35, 37, 38] [12, 13, 25, 26, 27] [0, 1, 4, 10] [] [] S0 u.2.2 → k2 u → k2' u) {x0 : Nat} {x1 : Int32} {S : kS} (hF : KF [0, 2, 3, 5, 13, 30, 31, 35, 37, 38] [12, 13, 25, 26, 27] [0, 1, 4, 10] [] [] S0 S) (h : wT_X1_work_64 K k2 x0 x1 S) : wT_X1_work_64 K' k2' x0 x1 S := by
  unfold wT_X1_work_64 at h ⊢
  intro z23 ez23
  replace h := h z23 ez23
  exact hk2 _ hF h
theorem kmT_X1_work_2 {K K' : kS → Prop} {k2 k2' : Nat × Int32 × kS → Prop} {S0 : kS} (hk : ∀ S1, KF [0, 2, 3, 5, 13, 30, 31, 35, 37, 38] [12, 13, 25, 26, 27] [0, 1, 4, 10] [] [] S0 S1 → K S1 → K' S1) (hk2 : ∀ u : Nat × Int32 × kS, KF [0, 2, 3, 5, 13, 30, 31, 35, 37, 38] [12, 13, 25, 26, 27] [0, 1, 4, 10] [] [] S0 u.2.2 → k2 u → k2' u) {x0 : Nat} {x1 : Int32} {S : kS} (hF : KF [0, 2, 3, 5, 13, 30, 31, 35, 37, 38] [12, 13, 25, 26, 27] [0, 1, 4, 10] [] [] S0 S) (h : wT_X1_work_2 K k2 x0 x1 S) : wT_X1_work_2 K' k2' x0 x1 S := by
  unfold wT_X1_work_2 at h ⊢
  refine ⟨fun c => ?_, fun c => ?_⟩
  · replace h := h.1 c
    exact hk _ hF h
  · replace h := h.2 c
    intro z2 ez2
    replace h := h z2 ez2
    refine ⟨fun c => ?_, fun c => ?_⟩
    · replace h := h.1 c
      exact hk _ hF h
    · replace h := h.2 c
      intro z4 ez4
      replace h := h z4 ez4
      intro z5 ez5
      replace h := h z5 ez5
      intro S6 eS6
      replace h := h S6 eS6
      replace hF := KF_i hF eS6 (by decide)
      intro z7 ez7
      replace h := h z7 ez7
      intro z8 ez8
      replace h := h z8 ez8
      intro q9 eq9
      replace h := h q9 eq9
      refine ⟨h.1, ?_⟩
      replace h := h.2
      intro z10 ez10
      replace h := h z10 ez10
      refine ⟨fun c => ?_, fun c => ?_⟩
      · replace h := h.1 c
        intro z12 ez12
        replace h := h z12 ez12
        intro q13 eq13
        replace h := h q13 eq13
        refine ⟨h.1, ?_⟩
        replace h := h.2
        intro z14 ez14
        replace h := h z14 ez14
        obtain ⟨q15, eq15, h9⟩ := h
        replace h := h9
        clear h9
        refine ⟨q15, eq15, ?_⟩
        refine kmT_X1_stop _ _ _ _ _ (fun S16 hG h => ?_) h
        replace hF := KF_t hF hG (by decide) (by decide) (by decide) (by decide) (by decide) (by decide) (by decide) (by decide)
        exact kmT_X1_work_64 hk hk2 hF h
      · replace h := h.2 c
        intro z17 ez17
        replace h := h z17 ez17
        intro z18 ez18
        replace h := h z18 ez18
        intro q19 eq19
        replace h := h q19 eq19
        refine ⟨h.1, ?_⟩
        replace h := h.2
        intro z20 ez20
        replace h := h z20 ez20
        obtain ⟨q21, eq21, h9⟩ := h
        replace h := h9
        clear h9
        refine ⟨q21, eq21, ?_⟩
        refine kmT_X1_settle _ _ _ _ _ (fun S22 hG h => ?_) h
        replace hF := KF_t hF hG (by decide) (by decide) (by decide) (by decide) (by decide) (by decide) (by decide) (by decide)
        exact kmT_X1_work_64 hk hk2 hF h
theorem kmlT_X1_work_2 {K K' : kS → Prop} {S0 : kS} (hk : ∀ S1, KF [0, 2, 3, 5, 13, 30, 31, 35, 37, 38] [12, 13, 25, 26, 27] [0, 1, 4, 10] [] [] S0 S1 → K S1 → K' S1) : ∀ (n : Nat) (u : Nat × Int32 × kS), KF [0, 2, 3, 5, 13, 30, 31, 35, 37, 38] [12, 13, 25, 26, 27] [0, 1, 4, 10] [] [] S0 u.2.2 → it (lT_X1_work_2 K) n u → it (lT_X1_work_2 K') n u := by
  intro n
  induction n with
  | zero => exact fun _ _ h => h
  | succ n ih => exact fun u hF h => kmT_X1_work_2 hk ih hF h
theorem kmT_X1_work (t0 : Nat) : KmV [0, 2, 3, 5, 13, 30, 31, 35, 37, 38] [12, 13, 25, 26, 27] [0, 1, 4, 10] [] [] (wT_X1_work t0) := by
  intro S0 K K' hk h
  have hF : KF [0, 2, 3, 5, 13, 30, 31, 35, 37, 38] [12, 13, 25, 26, 27] [0, 1, 4, 10] [] [] S0 S0 := KF_rf
  unfold wT_X1_work at h ⊢
  obtain ⟨n9, h⟩ := h
  exact ⟨n9, kmlT_X1_work_2 hk n9 _ hF h⟩
theorem kmT_X1_callOff (t0 : Nat) (a0 : Int32) : KmI [0, 2, 3, 5, 13, 14, 15, 30, 31, 35, 37, 38, 39] [12, 13, 25, 26, 27] [0, 1, 4, 10] [] [] (wT_X1_callOff t0 a0) := by
  intro S0 K K' hk h
  have hF : KF [0, 2, 3, 5, 13, 14, 15, 30, 31, 35, 37, 38, 39] [12, 13, 25, 26, 27] [0, 1, 4, 10] [] [] S0 S0 := KF_rf
  unfold wT_X1_callOff at h ⊢
  refine kmT_X1_has _ _ _ _ _ (fun S1 r1 hG h => ?_) h
  replace hF := KF_t hF hG (by decide) (by decide) (by decide) (by decide) (by decide) (by decide) (by decide) (by decide)
  refine ⟨fun c => ?_, fun c => ?_⟩
  · replace h := h.1 c
    exact hk _ _ hF h
  · replace h := h.2 c
    intro z3 ez3
    replace h := h z3 ez3
    intro q4 eq4
    replace h := h q4 eq4
    refine ⟨h.1, ?_⟩
    replace h := h.2
    intro z5 ez5
    replace h := h z5 ez5
    obtain ⟨q6, eq6, h9⟩ := h
    replace h := h9
    clear h9
    refine ⟨q6, eq6, ?_⟩
    intro z7 ez7
    replace h := h z7 ez7
    refine ⟨fun c => ?_, fun c => ?_⟩
    · replace h := h.1 c
      exact hk _ _ hF h
    · replace h := h.2 c
      intro z9 ez9
      replace h := h z9 ez9
      intro q10 eq10
      replace h := h q10 eq10
      refine ⟨h.1, ?_⟩
      replace h := h.2
      intro z11 ez11
      replace h := h z11 ez11
      obtain ⟨q12, eq12, h9⟩ := h
      replace h := h9
      clear h9
      refine ⟨q12, eq12, ?_⟩
      intro z13 ez13
      replace h := h z13 ez13
      refine ⟨fun c => ?_, fun c => ?_⟩
      · replace h := h.1 c
        intro z15 ez15
        replace h := h z15 ez15
        intro q16 eq16
        replace h := h q16 eq16
        refine ⟨h.1, ?_⟩
        replace h := h.2
        intro z17 ez17
        replace h := h z17 ez17
        refine kmT_X1_plan _ _ _ _ _ (fun S18 hG h => ?_) h
        replace hF := KF_t hF hG (by decide) (by decide) (by decide) (by decide) (by decide) (by decide) (by decide) (by decide)
        refine kmT_X1_work _ _ _ _ (fun S19 hG h => ?_) h
        replace hF := KF_t hF hG (by decide) (by decide) (by decide) (by decide) (by decide) (by decide) (by decide) (by decide)
        obtain ⟨q20, eq20, h9⟩ := h
        replace h := h9
        clear h9
        refine ⟨q20, eq20, ?_⟩
        intro z21 ez21
        replace h := h z21 ez21
        refine ⟨fun c => ?_, fun c => ?_⟩
        · replace h := h.1 c
          exact hk _ _ hF h
        · replace h := h.2 c
          refine kmT_X1_tellParent _ _ _ _ _ (fun S23 hG h => ?_) h
          replace hF := KF_t hF hG (by decide) (by decide) (by decide) (by decide) (by decide) (by decide) (by decide) (by decide)
          refine kmT_X1_work _ _ _ _ (fun S24 hG h => ?_) h
          replace hF := KF_t hF hG (by decide) (by decide) (by decide) (by decide) (by decide) (by decide) (by decide) (by decide)
          exact hk _ _ hF h
      · replace h := h.2 c
        exact hk _ _ hF h
theorem kmT_X11_cancel (t0 : Nat) (a0 : Int32) : KmI [0, 2, 3, 5, 13, 14, 15, 30, 31, 35, 37, 38, 39] [12, 13, 25, 26, 27] [0, 1, 4, 10] [] [] (wT_X11_cancel t0 a0) := by
  intro S0 K K' hk h
  have hF : KF [0, 2, 3, 5, 13, 14, 15, 30, 31, 35, 37, 38, 39] [12, 13, 25, 26, 27] [0, 1, 4, 10] [] [] S0 S0 := KF_rf
  unfold wT_X11_cancel at h ⊢
  intro z1 ez1
  replace h := h z1 ez1
  intro q2 eq2
  replace h := h q2 eq2
  refine kmT_X1_callOff _ _ _ _ _ (fun S3 r3 hG h => ?_) h
  replace hF := KF_t hF hG (by decide) (by decide) (by decide) (by decide) (by decide) (by decide) (by decide) (by decide)
  refine ⟨h.1, ?_⟩
  replace h := h.2
  exact hk _ _ hF h
theorem kmT_X1_lettersLying_4 {K K' : kS → Int32 → Prop} {k4 k4' : Nat × Int32 × Int32 × kS → Prop} {S0 : kS} (hk : ∀ S1 r1, KF [] [] [] [] [] S0 S1 → K S1 r1 → K' S1 r1) (hk4 : ∀ u : Nat × Int32 × Int32 × kS, KF [] [] [] [] [] S0 u.2.2.2 → k4 u → k4' u) {x0 : Nat} {x1 : Int32} {x2 : Int32} {S : kS} (hF : KF [] [] [] [] [] S0 S) (h : wT_X1_lettersLying_4 K k4 x0 x1 x2 S) : wT_X1_lettersLying_4 K' k4' x0 x1 x2 S := by
  unfold wT_X1_lettersLying_4 at h ⊢
  refine ⟨fun c => ?_, fun c => ?_⟩
  · replace h := h.1 c
    exact hk _ _ hF h
  · replace h := h.2 c
    intro z2 ez2
    replace h := h z2 ez2
    intro q3 eq3
    replace h := h q3 eq3
    refine ⟨h.1, ?_⟩
    replace h := h.2
    intro z4 ez4
    replace h := h z4 ez4
    intro z5 ez5
    replace h := h z5 ez5
    intro z6 ez6
    replace h := h z6 ez6
    exact hk4 _ hF h
theorem kmlT_X1_lettersLying_4 {K K' : kS → Int32 → Prop} {S0 : kS} (hk : ∀ S1 r1, KF [] [] [] [] [] S0 S1 → K S1 r1 → K' S1 r1) : ∀ (n : Nat) (u : Nat × Int32 × Int32 × kS), KF [] [] [] [] [] S0 u.2.2.2 → it (lT_X1_lettersLying_4 K) n u → it (lT_X1_lettersLying_4 K') n u := by
  intro n
  induction n with
  | zero => exact fun _ _ h => h
  | succ n ih => exact fun u hF h => kmT_X1_lettersLying_4 hk ih hF h
theorem kmT_X1_lettersLying (t0 : Nat) : KmI [] [] [] [] [] (wT_X1_lettersLying t0) := by
  intro S0 K K' hk h
  have hF : KF [] [] [] [] [] S0 S0 := KF_rf
  unfold wT_X1_lettersLying at h ⊢
  obtain ⟨n9, h⟩ := h
  exact ⟨n9, kmlT_X1_lettersLying_4 hk n9 _ hF h⟩
