
theorem krT_X3_block : ∀ n : Nat, ∀ t0 : Nat, ∀ a0 : Int32, KmV [6, 7, 8, 9, 10, 11, 17, 24, 25] [] [17, 18, 19, 28, 29, 30, 35, 36, 37, 43, 44, 45, 46, 47, 48, 49, 50, 51, 52] [20, 39] [] (wV_X3_block n t0 a0) := by
  intro n
  induction n with
  | zero => exact fun _ _ _ _ _ _ h => h
  | succ n ih => exact kmT_X3_block ih
theorem kqT_X3_finished (t0 : Nat) (a0 : Int32) (a1 : Int32) : KmV [6, 7, 8, 9, 10, 11, 17, 24, 25] [] [17, 18, 19, 28, 29, 30, 35, 36, 37, 43, 44, 45, 46, 47, 48, 49, 50, 51, 52] [20, 39] [] (wU_X3_finished t0 a0 a1) := kmT_X3_finished (krT_X3_block 12) t0 a0 a1
theorem kqT_X3_tried (t0 : Nat) (a0 : Int32) : KmV [6, 7, 8, 9, 10, 11, 17, 24, 25] [] [17, 18, 19, 28, 29, 30, 35, 36, 37, 43, 44, 45, 46, 47, 48, 49, 50, 51, 52] [20, 39] [] (wU_X3_tried t0 a0) := kmT_X3_tried (krT_X3_block 12) t0 a0
theorem kqT_X3_repeated (t0 : Nat) (a0 : Int32) (a1 : Int32) : KmV [6, 7, 8, 9, 10, 11, 17, 24, 25] [] [17, 18, 19, 28, 29, 30, 35, 36, 37, 43, 44, 45, 46, 47, 48, 49, 50, 51, 52] [20, 39] [] (wU_X3_repeated t0 a0 a1) := kmT_X3_repeated (krT_X3_block 12) t0 a0 a1
theorem kqT_X3_choice (t0 : Nat) (a0 : Int32) : KmV [6, 7, 8, 9, 10, 11, 17, 24, 25] [] [17, 18, 19, 28, 29, 30, 35, 36, 37, 43, 44, 45, 46, 47, 48, 49, 50, 51, 52] [20, 39] [] (wU_X3_choice t0 a0) := kmT_X3_choice (krT_X3_block 12) t0 a0
theorem kqT_X3_statement (t0 : Nat) (a0 : Int32) : KmV [6, 7, 8, 9, 10, 11, 17, 24, 25] [] [17, 18, 19, 28, 29, 30, 35, 36, 37, 43, 44, 45, 46, 47, 48, 49, 50, 51, 52] [20, 39] [] (wU_X3_statement t0 a0) := kmT_X3_statement (krT_X3_block 12) t0 a0
theorem kqT_X3_block (t0 : Nat) (a0 : Int32) : KmV [6, 7, 8, 9, 10, 11, 17, 24, 25] [] [17, 18, 19, 28, 29, 30, 35, 36, 37, 43, 44, 45, 46, 47, 48, 49, 50, 51, 52] [20, 39] [] (wU_X3_block t0 a0) := krT_X3_block 12 t0 a0
theorem kmT_X5_routineNamed_2 {K K' : kS → Int32 → Prop} {k2 k2' : Nat × Int64 × Int32 × kS → Prop} {S0 : kS} (hk : ∀ S1 r1, KF [] [] [] [] [] S0 S1 → K S1 r1 → K' S1 r1) (hk2 : ∀ u : Nat × Int64 × Int32 × kS, KF [] [] [] [] [] S0 u.2.2.2 → k2 u → k2' u) {x0 : Nat} {x1 : Int64} {x3 : Int32} {S : kS} (hF : KF [] [] [] [] [] S0 S) (h : wT_X5_routineNamed_2 K k2 x0 x1 x3 S) : wT_X5_routineNamed_2 K' k2' x0 x1 x3 S := by
  unfold wT_X5_routineNamed_2 at h ⊢
  intro z1 ez1
  replace h := h z1 ez1
  refine ⟨fun c => ?_, fun c => ?_⟩
  · replace h := h.1 c
    exact hk _ _ hF h
  · replace h := h.2 c
    intro z3 ez3
    replace h := h z3 ez3
    intro q4 eq4
    replace h := h q4 eq4
    refine ⟨h.1, ?_⟩
    replace h := h.2
    intro z5 ez5
    replace h := h z5 ez5
    intro z6 ez6
    replace h := h z6 ez6
    refine ⟨fun c => ?_, fun c => ?_⟩
    · replace h := h.1 c
      intro z8 ez8
      replace h := h z8 ez8
      exact hk2 _ hF h
    · replace h := h.2 c
      exact hk _ _ hF h
theorem kmlT_X5_routineNamed_2 {K K' : kS → Int32 → Prop} {S0 : kS} (hk : ∀ S1 r1, KF [] [] [] [] [] S0 S1 → K S1 r1 → K' S1 r1) : ∀ (n : Nat) (u : Nat × Int64 × Int32 × kS), KF [] [] [] [] [] S0 u.2.2.2 → it (lT_X5_routineNamed_2 K) n u → it (lT_X5_routineNamed_2 K') n u := by
  intro n
  induction n with
  | zero => exact fun _ _ h => h
  | succ n ih => exact fun u hF h => kmT_X5_routineNamed_2 hk ih hF h
theorem kmT_X5_routineNamed (t0 : Nat) (a0 : Int64) : KmI [] [] [] [] [] (wT_X5_routineNamed t0 a0) := by
  intro S0 K K' hk h
  have hF : KF [] [] [] [] [] S0 S0 := KF_rf
  unfold wT_X5_routineNamed at h ⊢
  obtain ⟨n9, h⟩ := h
  exact ⟨n9, kmlT_X5_routineNamed_2 hk n9 _ hF h⟩
theorem kmT_X3_findChildren_106 {K K' : kS → Prop} {k2 k2' : Nat × Int32 × kS → Prop} {S0 : kS} (hk : ∀ S1, KF [7] [] [29] [] [] S0 S1 → K S1 → K' S1) (hk2 : ∀ u : Nat × Int32 × kS, KF [7] [] [29] [] [] S0 u.2.2 → k2 u → k2' u) {x0 : Nat} {x1 : Int32} {S : kS} (hF : KF [7] [] [29] [] [] S0 S) (h : wT_X3_findChildren_106 K k2 x0 x1 S) : wT_X3_findChildren_106 K' k2' x0 x1 S := by
  unfold wT_X3_findChildren_106 at h ⊢
  intro z41 ez41
  replace h := h z41 ez41
  exact hk2 _ hF h
theorem kmT_X3_findChildren_2 {K K' : kS → Prop} {k2 k2' : Nat × Int32 × kS → Prop} {S0 : kS} (hk : ∀ S1, KF [7] [] [29] [] [] S0 S1 → K S1 → K' S1) (hk2 : ∀ u : Nat × Int32 × kS, KF [7] [] [29] [] [] S0 u.2.2 → k2 u → k2' u) {x0 : Nat} {x1 : Int32} {S : kS} (hF : KF [7] [] [29] [] [] S0 S) (h : wT_X3_findChildren_2 K k2 x0 x1 S) : wT_X3_findChildren_2 K' k2' x0 x1 S := by
  unfold wT_X3_findChildren_2 at h ⊢
  intro z1 ez1
  replace h := h z1 ez1
  refine ⟨fun c => ?_, fun c => ?_⟩
  · replace h := h.1 c
    exact hk _ hF h
  · replace h := h.2 c
    intro z3 ez3
    replace h := h z3 ez3
    refine ⟨fun c => ?_, fun c => ?_⟩
    · replace h := h.1 c
      exact hk _ hF h
    · replace h := h.2 c
      intro z5 ez5
      replace h := h z5 ez5
      intro z6 ez6
      replace h := h z6 ez6
      intro q7 eq7
      replace h := h q7 eq7
      refine ⟨h.1, ?_⟩
      replace h := h.2
      intro z8 ez8
      replace h := h z8 ez8
      obtain ⟨q9, eq9, h9⟩ := h
      replace h := h9
      clear h9
      refine ⟨q9, eq9, ?_⟩
      refine kmT_X5_routineNamed _ _ _ _ _ (fun S10 r10 hG h => ?_) h
      replace hF := KF_t hF hG (by decide) (by decide) (by decide) (by decide) (by decide) (by decide) (by decide) (by decide)
      refine ⟨fun c => ?_, fun c => ?_⟩
      · replace h := h.1 c
        intro z12 ez12
        replace h := h z12 ez12
        obtain ⟨q13, eq13, h9⟩ := h
        replace h := h9
        clear h9
        refine ⟨q13, eq13, ?_⟩
        intro z14 ez14
        replace h := h z14 ez14
        intro q15 eq15
        replace h := h q15 eq15
        refine ⟨h.1, ?_⟩
        replace h := h.2
        intro z16 ez16
        replace h := h z16 ez16
        intro z17 ez17
        replace h := h z17 ez17
        intro q18 eq18
        replace h := h q18 eq18
        refine ⟨h.1, ?_⟩
        replace h := h.2
        intro z19 ez19
        replace h := h z19 ez19
        refine ⟨fun c => ?_, fun c => ?_⟩
        · replace h := h.1 c
          intro z21 ez21
          replace h := h z21 ez21
          obtain ⟨q22, eq22, h9⟩ := h
          replace h := h9
          clear h9
          refine ⟨q22, eq22, ?_⟩
          intro z23 ez23
          replace h := h z23 ez23
          have pz23 : ∃ o, S0.2.1 29 o = z23 := ⟨_, by rw [ez23, hF.2.1 29 (by decide)]⟩
          intro z24 ez24
          replace h := h z24 ez24
          intro q25 eq25
          replace h := h q25 eq25
          refine ⟨h.1, ?_⟩
          replace h := h.2
          intro z26 ez26
          replace h := h z26 ez26
          intro q27 eq27
          replace h := h q27 eq27
          refine ⟨h.1, ?_⟩
          replace h := h.2
          intro S28 eS28
          replace h := h S28 eS28
          replace hF := KF_a (fid := 29) hF eS28 (by decide) (by rw [← eq27]; exact pz23)
          exact kmT_X3_findChildren_106 hk hk2 hF h
        · replace h := h.2 c
          intro z29 ez29
          replace h := h z29 ez29
          intro q30 eq30
          replace h := h q30 eq30
          refine ⟨h.1, ?_⟩
          replace h := h.2
          intro z31 ez31
          replace h := h z31 ez31
          intro z32 ez32
          replace h := h z32 ez32
          intro z33 ez33
          replace h := h z33 ez33
          intro S34 eS34
          replace h := h S34 eS34
          replace hF := KF_i hF eS34 (by decide)
          exact kmT_X3_findChildren_106 hk hk2 hF h
      · replace h := h.2 c
        intro z35 ez35
        replace h := h z35 ez35
        intro q36 eq36
        replace h := h q36 eq36
        refine ⟨h.1, ?_⟩
        replace h := h.2
        intro z37 ez37
        replace h := h z37 ez37
        intro z38 ez38
        replace h := h z38 ez38
        intro z39 ez39
        replace h := h z39 ez39
        intro S40 eS40
        replace h := h S40 eS40
        replace hF := KF_i hF eS40 (by decide)
        exact kmT_X3_findChildren_106 hk hk2 hF h
theorem kmlT_X3_findChildren_2 {K K' : kS → Prop} {S0 : kS} (hk : ∀ S1, KF [7] [] [29] [] [] S0 S1 → K S1 → K' S1) : ∀ (n : Nat) (u : Nat × Int32 × kS), KF [7] [] [29] [] [] S0 u.2.2 → it (lT_X3_findChildren_2 K) n u → it (lT_X3_findChildren_2 K') n u := by
  intro n
  induction n with
  | zero => exact fun _ _ h => h
  | succ n ih => exact fun u hF h => kmT_X3_findChildren_2 hk ih hF h
theorem kmT_X3_findChildren (t0 : Nat) : KmV [7] [] [29] [] [] (wT_X3_findChildren t0) := by
  intro S0 K K' hk h
  have hF : KF [7] [] [29] [] [] S0 S0 := KF_rf
  unfold wT_X3_findChildren at h ⊢
  obtain ⟨n9, h⟩ := h
  exact ⟨n9, kmlT_X3_findChildren_2 hk n9 _ hF h⟩
theorem kmT_X5_cellNamed_23 {K K' : kS → Int32 → Prop} {k23 k23' : Nat × Int32 × Int64 × Int32 × Int32 × kS → Prop} {S0 : kS} (hk : ∀ S1 r1, KF [] [] [] [] [] S0 S1 → K S1 r1 → K' S1 r1) (hk23 : ∀ u : Nat × Int32 × Int64 × Int32 × Int32 × kS, KF [] [] [] [] [] S0 u.2.2.2.2.2 → k23 u → k23' u) {x0 : Nat} {x1 : Int32} {x2 : Int64} {x4 : Int32} {x5 : Int32} {S : kS} (hF : KF [] [] [] [] [] S0 S) (h : wT_X5_cellNamed_23 K k23 x0 x1 x2 x4 x5 S) : wT_X5_cellNamed_23 K' k23' x0 x1 x2 x4 x5 S := by
  unfold wT_X5_cellNamed_23 at h ⊢
  refine ⟨fun c => ?_, fun c => ?_⟩
  · replace h := h.1 c
    exact hk _ _ hF h
  · replace h := h.2 c
    intro z7 ez7
    replace h := h z7 ez7
    intro z8 ez8
    replace h := h z8 ez8
    intro z9 ez9
    replace h := h z9 ez9
    intro q10 eq10
    replace h := h q10 eq10
    refine ⟨h.1, ?_⟩
    replace h := h.2
    intro z11 ez11
    replace h := h z11 ez11
    intro z12 ez12
    replace h := h z12 ez12
    refine ⟨fun c => ?_, fun c => ?_⟩
    · replace h := h.1 c
      intro z14 ez14
      replace h := h z14 ez14
      exact hk23 _ hF h
    · replace h := h.2 c
      exact hk _ _ hF h
theorem kmlT_X5_cellNamed_23 {K K' : kS → Int32 → Prop} {S0 : kS} (hk : ∀ S1 r1, KF [] [] [] [] [] S0 S1 → K S1 r1 → K' S1 r1) : ∀ (n : Nat) (u : Nat × Int32 × Int64 × Int32 × Int32 × kS), KF [] [] [] [] [] S0 u.2.2.2.2.2 → it (lT_X5_cellNamed_23 K) n u → it (lT_X5_cellNamed_23 K') n u := by
  intro n
  induction n with
  | zero => exact fun _ _ h => h
  | succ n ih => exact fun u hF h => kmT_X5_cellNamed_23 hk ih hF h
theorem kmT_X5_cellNamed_18 {K K' : kS → Int32 → Prop} {S0 : kS} (hk : ∀ S1 r1, KF [] [] [] [] [] S0 S1 → K S1 r1 → K' S1 r1) {x0 : Nat} {x1 : Int32} {x2 : Int64} {y0 : Int32} {S : kS} (hF : KF [] [] [] [] [] S0 S) (h : wT_X5_cellNamed_18 K x0 x1 x2 y0 S) : wT_X5_cellNamed_18 K' x0 x1 x2 y0 S := by
  unfold wT_X5_cellNamed_18 at h ⊢
  obtain ⟨n9, h⟩ := h
  exact ⟨n9, kmlT_X5_cellNamed_23 hk n9 _ hF h⟩
theorem kmT_X5_cellNamed (t0 : Nat) (a0 : Int32) (a1 : Int64) : KmI [] [] [] [] [] (wT_X5_cellNamed t0 a0 a1) := by
  intro S0 K K' hk h
  have hF : KF [] [] [] [] [] S0 S0 := KF_rf
  unfold wT_X5_cellNamed at h ⊢
  refine kmT_X5_has _ _ _ _ _ (fun S1 r1 hG h => ?_) h
  replace hF := KF_t hF hG (by decide) (by decide) (by decide) (by decide) (by decide) (by decide) (by decide) (by decide)
  refine ⟨fun c => ?_, fun c => ?_⟩
  · replace h := h.1 c
    exact kmT_X5_cellNamed_18 hk hF h
  · replace h := h.2 c
    intro z3 ez3
    replace h := h z3 ez3
    intro q4 eq4
    replace h := h q4 eq4
    refine ⟨h.1, ?_⟩
    replace h := h.2
    intro z5 ez5
    replace h := h z5 ez5
    exact kmT_X5_cellNamed_18 hk hF h
theorem kmT_X3_givenCell (t0 : Nat) : KmV [6, 7] [] [34, 35] [39] [] (wT_X3_givenCell t0) := by
  intro S0 K K' hk h
  have hF : KF [6, 7] [] [34, 35] [39] [] S0 S0 := KF_rf
  unfold wT_X3_givenCell at h ⊢
  intro z1 ez1
  replace h := h z1 ez1
  obtain ⟨q2, eq2, h9⟩ := h
  replace h := h9
  clear h9
  refine ⟨q2, eq2, ?_⟩
  intro z3 ez3
  replace h := h z3 ez3
  intro z4 ez4
  replace h := h z4 ez4
  refine kmT_X3_kind _ _ _ _ (fun S5 r5 hG h => ?_) h
  replace hF := KF_t hF hG (by decide) (by decide) (by decide) (by decide) (by decide) (by decide) (by decide) (by decide)
  refine ⟨fun c => ?_, fun c => ?_⟩
  · replace h := h.1 c
    intro z7 ez7
    replace h := h z7 ez7
    intro z8 ez8
    replace h := h z8 ez8
    intro q9 eq9
    replace h := h q9 eq9
    intro z10 ez10
    replace h := h z10 ez10
    intro z11 ez11
    replace h := h z11 ez11
    intro q12 eq12
    replace h := h q12 eq12
    refine ⟨h.1, ?_⟩
    replace h := h.2
    intro z13 ez13
    replace h := h z13 ez13
    obtain ⟨q14, eq14, h9⟩ := h
    replace h := h9
    clear h9
    refine ⟨q14, eq14, ?_⟩
    refine kmT_X5_cellNamed _ _ _ _ _ _ (fun S15 r15 hG h => ?_) h
    replace hF := KF_t hF hG (by decide) (by decide) (by decide) (by decide) (by decide) (by decide) (by decide) (by decide)
    refine ⟨fun c => ?_, fun c => ?_⟩
    · replace h := h.1 c
      intro z17 ez17
      replace h := h z17 ez17
      intro z18 ez18
      replace h := h z18 ez18
      intro q19 eq19
      replace h := h q19 eq19
      intro z20 ez20
      replace h := h z20 ez20
      intro z21 ez21
      replace h := h z21 ez21
      intro q22 eq22
      replace h := h q22 eq22
      refine ⟨h.1, ?_⟩
      replace h := h.2
      intro z23 ez23
      replace h := h z23 ez23
      obtain ⟨q24, eq24, h9⟩ := h
      replace h := h9
      clear h9
      refine ⟨q24, eq24, ?_⟩
      refine kmT_X5_cellOf _ _ _ _ _ (fun S25 r25 hG h => ?_) h
      replace hF := KF_t hF hG (by decide) (by decide) (by decide) (by decide) (by decide) (by decide) (by decide) (by decide)
      refine ⟨fun c => ?_, fun c => ?_⟩
      · replace h := h.1 c
        intro z27 ez27
        replace h := h z27 ez27
        obtain ⟨q28, eq28, h9⟩ := h
        replace h := h9
        clear h9
        refine ⟨q28, eq28, ?_⟩
        intro z29 ez29
        replace h := h z29 ez29
        have pz29 : ∃ o, S0.2.1 34 o = z29 := ⟨_, by rw [ez29, hF.2.1 34 (by decide)]⟩
        intro q30 eq30
        replace h := h q30 eq30
        refine ⟨h.1, ?_⟩
        replace h := h.2
        intro z31 ez31
        replace h := h z31 ez31
        intro z32 ez32
        replace h := h z32 ez32
        refine ⟨h.1, ?_⟩
        replace h := h.2
        intro S33 eS33
        replace h := h S33 eS33
        replace hF := KF_a (fid := 34) hF eS33 (by decide) (by rw [← eq30]; exact pz29)
        refine kmT_X3_step _ _ _ _ (fun S34 hG h => ?_) h
        replace hF := KF_t hF hG (by decide) (by decide) (by decide) (by decide) (by decide) (by decide) (by decide) (by decide)
        exact hk _ hF h
      · replace h := h.2 c
        refine kmT_X3_wrong _ _ _ _ _ (fun S35 hG h => ?_) h
        replace hF := KF_t hF hG (by decide) (by decide) (by decide) (by decide) (by decide) (by decide) (by decide) (by decide)
        exact hk _ hF h
    · replace h := h.2 c
      refine kmT_X3_wrong _ _ _ _ _ (fun S36 hG h => ?_) h
      replace hF := KF_t hF hG (by decide) (by decide) (by decide) (by decide) (by decide) (by decide) (by decide) (by decide)
      exact hk _ hF h
  · replace h := h.2 c
    refine kmT_X3_wrong _ _ _ _ _ (fun S37 hG h => ?_) h
    replace hF := KF_t hF hG (by decide) (by decide) (by decide) (by decide) (by decide) (by decide) (by decide) (by decide)
    exact hk _ hF h
theorem kmT_X5_openRoutine (t0 : Nat) (a0 : Int64) : KmV [18] [] [32, 34, 35, 36] [38] [] (wT_X5_openRoutine t0 a0) := by
  intro S0 K K' hk h
  have hF : KF [18] [] [32, 34, 35, 36] [38] [] S0 S0 := KF_rf
  unfold wT_X5_openRoutine at h ⊢
  intro z1 ez1
  replace h := h z1 ez1
  refine ⟨fun c => ?_, fun c => ?_⟩
  · replace h := h.1 c
    exact hk _ hF h
  · replace h := h.2 c
    intro z3 ez3
    replace h := h z3 ez3
    have pz3 : ∃ o, S0.2.1 38 o = z3 := ⟨_, by rw [ez3, hF.2.1 38 (by decide)]⟩
    intro z4 ez4
    replace h := h z4 ez4
    intro q5 eq5
    replace h := h q5 eq5
    refine ⟨h.1, ?_⟩
    replace h := h.2
    intro S6 eS6
    replace h := h S6 eS6
    replace hF := KF_l (fid := 38) hF eS6 (by decide) (by rw [← eq5]; exact pz3)
    intro z7 ez7
    replace h := h z7 ez7
    have pz7 : ∃ o, S0.2.1 32 o = z7 := ⟨_, by rw [ez7, hF.2.1 32 (by decide)]⟩
    intro z8 ez8
    replace h := h z8 ez8
    intro z9 ez9
    replace h := h z9 ez9
    intro q10 eq10
    replace h := h q10 eq10
    refine ⟨h.1, ?_⟩
    replace h := h.2
    intro S11 eS11
    replace h := h S11 eS11
    replace hF := KF_a (fid := 32) hF eS11 (by decide) (by rw [← eq10]; exact pz7)
    intro z12 ez12
    replace h := h z12 ez12
    have pz12 : ∃ o, S0.2.1 34 o = z12 := ⟨_, by rw [ez12, hF.2.1 34 (by decide)]⟩
    intro z13 ez13
    replace h := h z13 ez13
    intro q14 eq14
    replace h := h q14 eq14
    refine ⟨h.1, ?_⟩
    replace h := h.2
    intro S15 eS15
    replace h := h S15 eS15
    replace hF := KF_a (fid := 34) hF eS15 (by decide) (by rw [← eq14]; exact pz12)
    intro z16 ez16
    replace h := h z16 ez16
    have pz16 : ∃ o, S0.2.1 35 o = z16 := ⟨_, by rw [ez16, hF.2.1 35 (by decide)]⟩
    intro z17 ez17
    replace h := h z17 ez17
    intro q18 eq18
    replace h := h q18 eq18
    refine ⟨h.1, ?_⟩
    replace h := h.2
    intro S19 eS19
    replace h := h S19 eS19
    replace hF := KF_a (fid := 35) hF eS19 (by decide) (by rw [← eq18]; exact pz16)
    intro z20 ez20
    replace h := h z20 ez20
    have pz20 : ∃ o, S0.2.1 36 o = z20 := ⟨_, by rw [ez20, hF.2.1 36 (by decide)]⟩
    intro z21 ez21
    replace h := h z21 ez21
    intro q22 eq22
    replace h := h q22 eq22
    refine ⟨h.1, ?_⟩
    replace h := h.2
    intro S23 eS23
    replace h := h S23 eS23
    replace hF := KF_a (fid := 36) hF eS23 (by decide) (by rw [← eq22]; exact pz20)
    intro z24 ez24
    replace h := h z24 ez24
    intro z25 ez25
    replace h := h z25 ez25
    intro S26 eS26
    replace h := h S26 eS26
    replace hF := KF_i hF eS26 (by decide)
    exact hk _ hF h
theorem kmT_X3_header_137 {K K' : kS → Prop} {S0 : kS} (hk : ∀ S1, KF [6, 7, 18] [] [32, 34, 35, 36] [38, 39] [] S0 S1 → K S1 → K' S1) {x0 : Nat} {S : kS} (hF : KF [6, 7, 18] [] [32, 34, 35, 36] [38, 39] [] S0 S) (h : wT_X3_header_137 K x0 S) : wT_X3_header_137 K' x0 S := by
  unfold wT_X3_header_137 at h ⊢
  refine kmT_X3_need _ _ _ _ _ (fun S40 hG h => ?_) h
  replace hF := KF_t hF hG (by decide) (by decide) (by decide) (by decide) (by decide) (by decide) (by decide) (by decide)
  exact hk _ hF h
theorem kmT_X3_header_111 {K K' : kS → Prop} {k111 k111' : Nat × Int32 × kS → Prop} {S0 : kS} (hk : ∀ S1, KF [6, 7, 18] [] [32, 34, 35, 36] [38, 39] [] S0 S1 → K S1 → K' S1) (hk111 : ∀ u : Nat × Int32 × kS, KF [6, 7, 18] [] [32, 34, 35, 36] [38, 39] [] S0 u.2.2 → k111 u → k111' u) {x0 : Nat} {x1 : Int32} {S : kS} (hF : KF [6, 7, 18] [] [32, 34, 35, 36] [38, 39] [] S0 S) (h : wT_X3_header_111 K k111 x0 x1 S) : wT_X3_header_111 K' k111' x0 x1 S := by
  unfold wT_X3_header_111 at h ⊢
  refine ⟨fun c => ?_, fun c => ?_⟩
  · replace h := h.1 c
    exact kmT_X3_header_137 hk hF h
  · replace h := h.2 c
    refine kmT_X3_take _ _ _ _ _ (fun S36 r36 hG h => ?_) h
    replace hF := KF_t hF hG (by decide) (by decide) (by decide) (by decide) (by decide) (by decide) (by decide) (by decide)
    refine ⟨fun c => ?_, fun c => ?_⟩
    · replace h := h.1 c
      exact kmT_X3_header_137 hk hF h
    · replace h := h.2 c
      refine kmT_X3_givenCell _ _ _ _ (fun S38 hG h => ?_) h
      replace hF := KF_t hF hG (by decide) (by decide) (by decide) (by decide) (by decide) (by decide) (by decide) (by decide)
      intro z39 ez39
      replace h := h z39 ez39
      exact hk111 _ hF h
theorem kmlT_X3_header_111 {K K' : kS → Prop} {S0 : kS} (hk : ∀ S1, KF [6, 7, 18] [] [32, 34, 35, 36] [38, 39] [] S0 S1 → K S1 → K' S1) : ∀ (n : Nat) (u : Nat × Int32 × kS), KF [6, 7, 18] [] [32, 34, 35, 36] [38, 39] [] S0 u.2.2 → it (lT_X3_header_111 K) n u → it (lT_X3_header_111 K') n u := by
  intro n
  induction n with
  | zero => exact fun _ _ h => h
  | succ n ih => exact fun u hF h => kmT_X3_header_111 hk ih hF h
theorem kmT_X3_header_91 {K K' : kS → Prop} {S0 : kS} (hk : ∀ S1, KF [6, 7, 18] [] [32, 34, 35, 36] [38, 39] [] S0 S1 → K S1 → K' S1) {x0 : Nat} {S : kS} (hF : KF [6, 7, 18] [] [32, 34, 35, 36] [38, 39] [] S0 S) (h : wT_X3_header_91 K x0 S) : wT_X3_header_91 K' x0 S := by
  unfold wT_X3_header_91 at h ⊢
  refine kmT_X3_need _ _ _ _ _ (fun S31 hG h => ?_) h
  replace hF := KF_t hF hG (by decide) (by decide) (by decide) (by decide) (by decide) (by decide) (by decide) (by decide)
  refine kmT_X3_kind _ _ _ _ (fun S32 r32 hG h => ?_) h
  replace hF := KF_t hF hG (by decide) (by decide) (by decide) (by decide) (by decide) (by decide) (by decide) (by decide)
  refine ⟨fun c => ?_, fun c => ?_⟩
  · replace h := h.1 c
    exact kmT_X3_header_137 hk hF h
  · replace h := h.2 c
    refine kmT_X3_givenCell _ _ _ _ (fun S34 hG h => ?_) h
    replace hF := KF_t hF hG (by decide) (by decide) (by decide) (by decide) (by decide) (by decide) (by decide) (by decide)
    obtain ⟨n9, h⟩ := h
    exact ⟨n9, kmlT_X3_header_111 hk n9 _ hF h⟩
theorem kmT_X3_header_17 {K K' : kS → Prop} {S0 : kS} (hk : ∀ S1, KF [6, 7, 18] [] [32, 34, 35, 36] [38, 39] [] S0 S1 → K S1 → K' S1) {x0 : Nat} {S : kS} (hF : KF [6, 7, 18] [] [32, 34, 35, 36] [38, 39] [] S0 S) (h : wT_X3_header_17 K x0 S) : wT_X3_header_17 K' x0 S := by
  unfold wT_X3_header_17 at h ⊢
  refine kmT_X3_step _ _ _ _ (fun S6 hG h => ?_) h
  replace hF := KF_t hF hG (by decide) (by decide) (by decide) (by decide) (by decide) (by decide) (by decide) (by decide)
  refine kmT_X3_kind _ _ _ _ (fun S7 r7 hG h => ?_) h
  replace hF := KF_t hF hG (by decide) (by decide) (by decide) (by decide) (by decide) (by decide) (by decide) (by decide)
  refine ⟨fun c => ?_, fun c => ?_⟩
  · replace h := h.1 c
    intro z9 ez9
    replace h := h z9 ez9
    intro z10 ez10
    replace h := h z10 ez10
    intro q11 eq11
    replace h := h q11 eq11
    intro z12 ez12
    replace h := h z12 ez12
    intro z13 ez13
    replace h := h z13 ez13
    intro q14 eq14
    replace h := h q14 eq14
    refine ⟨h.1, ?_⟩
    replace h := h.2
    intro z15 ez15
    replace h := h z15 ez15
    obtain ⟨q16, eq16, h9⟩ := h
    replace h := h9
    clear h9
    refine ⟨q16, eq16, ?_⟩
    refine kmT_X5_routineNamed _ _ _ _ _ (fun S17 r17 hG h => ?_) h
    replace hF := KF_t hF hG (by decide) (by decide) (by decide) (by decide) (by decide) (by decide) (by decide) (by decide)
    refine ⟨fun c => ?_, fun c => ?_⟩
    · replace h := h.1 c
      intro z19 ez19
      replace h := h z19 ez19
      intro z20 ez20
      replace h := h z20 ez20
      intro q21 eq21
      replace h := h q21 eq21
      intro z22 ez22
      replace h := h z22 ez22
      intro z23 ez23
      replace h := h z23 ez23
      intro q24 eq24
      replace h := h q24 eq24
      refine ⟨h.1, ?_⟩
      replace h := h.2
      intro z25 ez25
      replace h := h z25 ez25
      obtain ⟨q26, eq26, h9⟩ := h
      replace h := h9
      clear h9
      refine ⟨q26, eq26, ?_⟩
      refine kmT_X5_openRoutine _ _ _ _ _ (fun S27 hG h => ?_) h
      replace hF := KF_t hF hG (by decide) (by decide) (by decide) (by decide) (by decide) (by decide) (by decide) (by decide)
      refine kmT_X3_step _ _ _ _ (fun S28 hG h => ?_) h
      replace hF := KF_t hF hG (by decide) (by decide) (by decide) (by decide) (by decide) (by decide) (by decide) (by decide)
      exact kmT_X3_header_91 hk hF h
    · replace h := h.2 c
      refine kmT_X3_wrong _ _ _ _ _ (fun S29 hG h => ?_) h
      replace hF := KF_t hF hG (by decide) (by decide) (by decide) (by decide) (by decide) (by decide) (by decide) (by decide)
      exact kmT_X3_header_91 hk hF h
  · replace h := h.2 c
    refine kmT_X3_wrong _ _ _ _ _ (fun S30 hG h => ?_) h
    replace hF := KF_t hF hG (by decide) (by decide) (by decide) (by decide) (by decide) (by decide) (by decide) (by decide)
    exact kmT_X3_header_91 hk hF h
theorem kmT_X3_header (t0 : Nat) : KmV [6, 7, 18] [] [32, 34, 35, 36] [38, 39] [] (wT_X3_header t0) := by
  intro S0 K K' hk h
  have hF : KF [6, 7, 18] [] [32, 34, 35, 36] [38, 39] [] S0 S0 := KF_rf
  unfold wT_X3_header at h ⊢
  intro z1 ez1
  replace h := h z1 ez1
  obtain ⟨q2, eq2, h9⟩ := h
  replace h := h9
  clear h9
  refine ⟨q2, eq2, ?_⟩
  intro z3 ez3
  replace h := h z3 ez3
  refine ⟨fun c => ?_, fun c => ?_⟩
  · replace h := h.1 c
    exact kmT_X3_header_17 hk hF h
  · replace h := h.2 c
    refine kmT_X3_wrong _ _ _ _ _ (fun S5 hG h => ?_) h
    replace hF := KF_t hF hG (by decide) (by decide) (by decide) (by decide) (by decide) (by decide) (by decide) (by decide)
    exact kmT_X3_header_17 hk hF h
theorem kmT_X7_clear (t0 : Nat) : KmV [24, 25] [] [] [] [] (wT_X7_clear t0) := by
  intro S0 K K' hk h
  have hF : KF [24, 25] [] [] [] [] S0 S0 := KF_rf
  unfold wT_X7_clear at h ⊢
  intro S1 eS1
  replace h := h S1 eS1
  replace hF := KF_i hF eS1 (by decide)
  intro S2 eS2
  replace h := h S2 eS2
  replace hF := KF_i hF eS2 (by decide)
  exact hk _ hF h
theorem kmT_X5_clear (t0 : Nat) : KmV [17, 18, 24, 25] [] [] [] [] (wT_X5_clear t0) := by
  intro S0 K K' hk h
  have hF : KF [17, 18, 24, 25] [] [] [] [] S0 S0 := KF_rf
  unfold wT_X5_clear at h ⊢
  intro S1 eS1
  replace h := h S1 eS1
  replace hF := KF_i hF eS1 (by decide)
  intro S2 eS2
  replace h := h S2 eS2
  replace hF := KF_i hF eS2 (by decide)
  intro z3 ez3
  replace h := h z3 ez3
  intro q4 eq4
  replace h := h q4 eq4
  refine kmT_X7_clear _ _ _ _ (fun S5 hG h => ?_) h
  replace hF := KF_t hF hG (by decide) (by decide) (by decide) (by decide) (by decide) (by decide) (by decide) (by decide)
  exact hk _ hF h
theorem kmT_X5_closeRoutine (t0 : Nat) : KmV [17] [] [28, 29, 30, 33] [] [] (wT_X5_closeRoutine t0) := by
  intro S0 K K' hk h
  have hF : KF [17] [] [28, 29, 30, 33] [] [] S0 S0 := KF_rf
  unfold wT_X5_closeRoutine at h ⊢
  intro z1 ez1
  replace h := h z1 ez1
  refine ⟨fun c => ?_, fun c => ?_⟩
  · replace h := h.1 c
    exact hk _ hF h
  · replace h := h.2 c
    intro z3 ez3
    replace h := h z3 ez3
    have pz3 : ∃ o, S0.2.1 33 o = z3 := ⟨_, by rw [ez3, hF.2.1 33 (by decide)]⟩
    intro z4 ez4
    replace h := h z4 ez4
    intro z5 ez5
    replace h := h z5 ez5
    refine kmT_X5_emit _ _ _ _ _ _ _ (fun S6 r6 hG h => ?_) h
    replace hF := KF_t hF hG (by decide) (by decide) (by decide) (by decide) (by decide) (by decide) (by decide) (by decide)
    intro q7 eq7
    replace h := h q7 eq7
    refine ⟨h.1, ?_⟩
    replace h := h.2
    intro S8 eS8
    replace h := h S8 eS8
    replace hF := KF_a (fid := 33) hF eS8 (by decide) (by rw [← eq7]; exact pz3)
    exact hk _ hF h
theorem kmT_X3_read_105 {K K' : kS → Int32 → Prop} {S0 : kS} (hk : ∀ S1 r1, KF [6, 7, 8, 9, 10, 11, 17, 18, 24, 25] [15, 16] [17, 18, 19, 28, 29, 30, 32, 33, 34, 35, 36, 37, 43, 44, 45, 46, 47, 48, 49, 50, 51, 52] [20, 38, 39] [] S0 S1 → K S1 r1 → K' S1 r1) {x0 : Nat} {S : kS} (hF : KF [6, 7, 8, 9, 10, 11, 17, 18, 24, 25] [15, 16] [17, 18, 19, 28, 29, 30, 32, 33, 34, 35, 36, 37, 43, 44, 45, 46, 47, 48, 49, 50, 51, 52] [20, 38, 39] [] S0 S) (h : wT_X3_read_105 K x0 S) : wT_X3_read_105 K' x0 S := by
  unfold wT_X3_read_105 at h ⊢
  refine kmT_X3_findChildren _ _ _ _ (fun S27 hG h => ?_) h
  replace hF := KF_t hF hG (by decide) (by decide) (by decide) (by decide) (by decide) (by decide) (by decide) (by decide)
  intro z28 ez28
  replace h := h z28 ez28
  exact hk _ _ hF h
theorem kmT_X3_read_93 {K K' : kS → Int32 → Prop} {S0 : kS} (hk : ∀ S1 r1, KF [6, 7, 8, 9, 10, 11, 17, 18, 24, 25] [15, 16] [17, 18, 19, 28, 29, 30, 32, 33, 34, 35, 36, 37, 43, 44, 45, 46, 47, 48, 49, 50, 51, 52] [20, 38, 39] [] S0 S1 → K S1 r1 → K' S1 r1) {x0 : Nat} {S : kS} (hF : KF [6, 7, 8, 9, 10, 11, 17, 18, 24, 25] [15, 16] [17, 18, 19, 28, 29, 30, 32, 33, 34, 35, 36, 37, 43, 44, 45, 46, 47, 48, 49, 50, 51, 52] [20, 38, 39] [] S0 S) (h : wT_X3_read_93 K x0 S) : wT_X3_read_93 K' x0 S := by
  unfold wT_X3_read_93 at h ⊢
  refine kmT_X3_kind _ _ _ _ (fun S24 r24 hG h => ?_) h
  replace hF := KF_t hF hG (by decide) (by decide) (by decide) (by decide) (by decide) (by decide) (by decide) (by decide)
  refine ⟨fun c => ?_, fun c => ?_⟩
  · replace h := h.1 c
    exact kmT_X3_read_105 hk hF h
  · replace h := h.2 c
    refine kmT_X3_wrong _ _ _ _ _ (fun S26 hG h => ?_) h
    replace hF := KF_t hF hG (by decide) (by decide) (by decide) (by decide) (by decide) (by decide) (by decide) (by decide)
    exact kmT_X3_read_105 hk hF h
theorem kmT_X3_read_55 {K K' : kS → Int32 → Prop} {k55 k55' : Nat × Int32 × kS → Prop} {S0 : kS} (hk : ∀ S1 r1, KF [6, 7, 8, 9, 10, 11, 17, 18, 24, 25] [15, 16] [17, 18, 19, 28, 29, 30, 32, 33, 34, 35, 36, 37, 43, 44, 45, 46, 47, 48, 49, 50, 51, 52] [20, 38, 39] [] S0 S1 → K S1 r1 → K' S1 r1) (hk55 : ∀ u : Nat × Int32 × kS, KF [6, 7, 8, 9, 10, 11, 17, 18, 24, 25] [15, 16] [17, 18, 19, 28, 29, 30, 32, 33, 34, 35, 36, 37, 43, 44, 45, 46, 47, 48, 49, 50, 51, 52] [20, 38, 39] [] S0 u.2.2 → k55 u → k55' u) {x0 : Nat} {x2 : Int32} {S : kS} (hF : KF [6, 7, 8, 9, 10, 11, 17, 18, 24, 25] [15, 16] [17, 18, 19, 28, 29, 30, 32, 33, 34, 35, 36, 37, 43, 44, 45, 46, 47, 48, 49, 50, 51, 52] [20, 38, 39] [] S0 S) (h : wT_X3_read_55 K k55 x0 x2 S) : wT_X3_read_55 K' k55' x0 x2 S := by
  unfold wT_X3_read_55 at h ⊢
  refine ⟨fun c => ?_, fun c => ?_⟩
  · replace h := h.1 c
    exact kmT_X3_read_93 hk hF h
  · replace h := h.2 c
    refine kmT_X3_kind _ _ _ _ (fun S16 r16 hG h => ?_) h
    replace hF := KF_t hF hG (by decide) (by decide) (by decide) (by decide) (by decide) (by decide) (by decide) (by decide)
    refine ⟨fun c => ?_, fun c => ?_⟩
    · replace h := h.1 c
      exact kmT_X3_read_93 hk hF h
    · replace h := h.2 c
      refine kmT_X3_header _ _ _ _ (fun S18 hG h => ?_) h
      replace hF := KF_t hF hG (by decide) (by decide) (by decide) (by decide) (by decide) (by decide) (by decide) (by decide)
      refine kqT_X3_block _ _ _ _ _ (fun S19 hG h => ?_) h
      replace hF := KF_t hF hG (by decide) (by decide) (by decide) (by decide) (by decide) (by decide) (by decide) (by decide)
      intro z20 ez20
      replace h := h z20 ez20
      obtain ⟨q21, eq21, h9⟩ := h
      replace h := h9
      clear h9
      refine ⟨q21, eq21, ?_⟩
      refine kmT_X5_closeRoutine _ _ _ _ (fun S22 hG h => ?_) h
      replace hF := KF_t hF hG (by decide) (by decide) (by decide) (by decide) (by decide) (by decide) (by decide) (by decide)
      intro z23 ez23
      replace h := h z23 ez23
      exact hk55 _ hF h
theorem kmlT_X3_read_55 {K K' : kS → Int32 → Prop} {S0 : kS} (hk : ∀ S1 r1, KF [6, 7, 8, 9, 10, 11, 17, 18, 24, 25] [15, 16] [17, 18, 19, 28, 29, 30, 32, 33, 34, 35, 36, 37, 43, 44, 45, 46, 47, 48, 49, 50, 51, 52] [20, 38, 39] [] S0 S1 → K S1 r1 → K' S1 r1) : ∀ (n : Nat) (u : Nat × Int32 × kS), KF [6, 7, 8, 9, 10, 11, 17, 18, 24, 25] [15, 16] [17, 18, 19, 28, 29, 30, 32, 33, 34, 35, 36, 37, 43, 44, 45, 46, 47, 48, 49, 50, 51, 52] [20, 38, 39] [] S0 u.2.2 → it (lT_X3_read_55 K) n u → it (lT_X3_read_55 K') n u := by
  intro n
  induction n with
  | zero => exact fun _ _ h => h
  | succ n ih => exact fun u hF h => kmT_X3_read_55 hk ih hF h
theorem kmT_X3_read (t0 : Nat) (a0 : Nat) : KmI [6, 7, 8, 9, 10, 11, 17, 18, 24, 25] [15, 16] [17, 18, 19, 28, 29, 30, 32, 33, 34, 35, 36, 37, 43, 44, 45, 46, 47, 48, 49, 50, 51, 52] [20, 38, 39] [] (wT_X3_read t0 a0) := by
  intro S0 K K' hk h
  have hF : KF [6, 7, 8, 9, 10, 11, 17, 18, 24, 25] [15, 16] [17, 18, 19, 28, 29, 30, 32, 33, 34, 35, 36, 37, 43, 44, 45, 46, 47, 48, 49, 50, 51, 52] [20, 38, 39] [] S0 S0 := KF_rf
  unfold wT_X3_read at h ⊢
  intro S1 eS1
  replace h := h S1 eS1
  replace hF := KF_r hF eS1 (by decide)
  intro z2 ez2
  replace h := h z2 ez2
  obtain ⟨q3, eq3, h9⟩ := h
  replace h := h9
  clear h9
  refine ⟨q3, eq3, ?_⟩
  refine kmT_X5_clear _ _ _ _ (fun S4 hG h => ?_) h
  replace hF := KF_t hF hG (by decide) (by decide) (by decide) (by decide) (by decide) (by decide) (by decide) (by decide)
  intro z5 ez5
  replace h := h z5 ez5
  obtain ⟨q6, eq6, h9⟩ := h
  replace h := h9
  clear h9
  refine ⟨q6, eq6, ?_⟩
  intro z7 ez7
  replace h := h z7 ez7
  intro S8 eS8
  replace h := h S8 eS8
  replace hF := KF_r hF eS8 (by decide)
  intro S9 eS9
  replace h := h S9 eS9
  replace hF := KF_i hF eS9 (by decide)
  intro S10 eS10
  replace h := h S10 eS10
  replace hF := KF_i hF eS10 (by decide)
  intro S11 eS11
  replace h := h S11 eS11
  replace hF := KF_i hF eS11 (by decide)
  intro S12 eS12
  replace h := h S12 eS12
  replace hF := KF_i hF eS12 (by decide)
  intro S13 eS13
  replace h := h S13 eS13
  replace hF := KF_i hF eS13 (by decide)
  intro S14 eS14
  replace h := h S14 eS14
  replace hF := KF_i hF eS14 (by decide)
  obtain ⟨n9, h⟩ := h
  exact ⟨n9, kmlT_X3_read_55 hk n9 _ hF h⟩
theorem kmT_X5_isStep (a0 : Int32) : KmI [] [] [] [] [] (wT_X5_isStep a0) := by
  intro S0 K K' hk h
  have hF : KF [] [] [] [] [] S0 S0 := KF_rf
  unfold wT_X5_isStep at h ⊢
  intro z1 ez1
  replace h := h z1 ez1
  intro z2 ez2
  replace h := h z2 ez2
  intro z3 ez3
  replace h := h z3 ez3
  refine ⟨fun c => ?_, fun c => ?_⟩
  · replace h := h.1 c
    exact hk _ _ hF h
  · replace h := h.2 c
    exact hk _ _ hF h
theorem kmT_X5_scopeAt (t0 : Nat) (a0 : Int32) : KmI [] [] [] [] [] (wT_X5_scopeAt t0 a0) := by
  intro S0 K K' hk h
  have hF : KF [] [] [] [] [] S0 S0 := KF_rf
  unfold wT_X5_scopeAt at h ⊢
  refine ⟨fun c => ?_, fun c => ?_⟩
  · replace h := h.1 c
    exact hk _ _ hF h
  · replace h := h.2 c
    intro z2 ez2
    replace h := h z2 ez2
    refine ⟨fun c => ?_, fun c => ?_⟩
    · replace h := h.1 c
      exact hk _ _ hF h
    · replace h := h.2 c
      intro z4 ez4
      replace h := h z4 ez4
      intro q5 eq5
      replace h := h q5 eq5
      refine ⟨h.1, ?_⟩
      replace h := h.2
      intro z6 ez6
      replace h := h z6 ez6
      exact hk _ _ hF h
theorem kmT_X6_tellAbout (t0 : Nat) (a0 : Nat) : KmV [13, 14, 15] [] [] [] [] (wT_X6_tellAbout t0 a0) := by
  intro S0 K K' hk h
  have hF : KF [13, 14, 15] [] [] [] [] S0 S0 := KF_rf
  unfold wT_X6_tellAbout at h ⊢
  intro z1 ez1
  replace h := h z1 ez1
  refine ⟨fun c => ?_, fun q2 c => ?_⟩
  · replace h := h.1 c
    exact hk _ hF h
  · replace h := h.2 q2 c
    intro z3 ez3
    replace h := h z3 ez3
    refine ⟨fun c => ?_, fun c => ?_⟩
    · replace h := h.1 c
      exact hk _ hF h
    · replace h := h.2 c
      intro z5 ez5
      replace h := h z5 ez5
      intro z6 ez6
      replace h := h z6 ez6
      refine kmT_X4_hears _ _ _ _ _ _ (fun S7 r7 hG h => ?_) h
      replace hF := KF_t hF hG (by decide) (by decide) (by decide) (by decide) (by decide) (by decide) (by decide) (by decide)
      exact hk _ hF h
theorem kmT_X6_closePart_67 {K K' : kS → Prop} {S0 : kS} (hk : ∀ S1, KF [13, 14, 15, 16] [12, 13, 25, 26, 27, 63] [] [] [] S0 S1 → K S1 → K' S1) {x0 : Nat} {x2 : Nat} {S : kS} (hF : KF [13, 14, 15, 16] [12, 13, 25, 26, 27, 63] [] [] [] S0 S) (h : wT_X6_closePart_67 K x0 x2 S) : wT_X6_closePart_67 K' x0 x2 S := by
  unfold wT_X6_closePart_67 at h ⊢
  intro z17 ez17
  replace h := h z17 ez17
  refine ⟨fun c => ?_, fun c => ?_⟩
  · replace h := h.1 c
    exact hk _ hF h
  · replace h := h.2 c
    refine kmT_X6_tellAbout _ _ _ _ _ (fun S19 hG h => ?_) h
    replace hF := KF_t hF hG (by decide) (by decide) (by decide) (by decide) (by decide) (by decide) (by decide) (by decide)
    exact hk _ hF h
theorem kmT_X6_closePart (t0 : Nat) (a0 : Nat) : KmV [13, 14, 15, 16] [12, 13, 25, 26, 27, 63] [] [] [] (wT_X6_closePart t0 a0) := by
  intro S0 K K' hk h
  have hF : KF [13, 14, 15, 16] [12, 13, 25, 26, 27, 63] [] [] [] S0 S0 := KF_rf
  unfold wT_X6_closePart at h ⊢
  intro z1 ez1
  replace h := h z1 ez1
  refine ⟨fun c => ?_, fun q2 c => ?_⟩
  · replace h := h.1 c
    exact hk _ hF h
  · replace h := h.2 q2 c
    intro z3 ez3
    replace h := h z3 ez3
    intro S4 eS4
    replace h := h S4 eS4
    replace hF := KF_r hF eS4 (by decide)
    intro z5 ez5
    replace h := h z5 ez5
    refine ⟨fun c => ?_, fun c => ?_⟩
    · replace h := h.1 c
      exact kmT_X6_closePart_67 hk hF h
    · replace h := h.2 c
      intro z7 ez7
      replace h := h z7 ez7
      refine ⟨fun c => ?_, fun c => ?_⟩
      · replace h := h.1 c
        exact kmT_X6_closePart_67 hk hF h
      · replace h := h.2 c
        intro z9 ez9
        replace h := h z9 ez9
        refine ⟨fun c => ?_, fun c => ?_⟩
        · replace h := h.1 c
          intro S11 eS11
          replace h := h S11 eS11
          replace hF := KF_i hF eS11 (by decide)
          intro S12 eS12
          replace h := h S12 eS12
          replace hF := KF_i hF eS12 (by decide)
          exact kmT_X6_closePart_67 hk hF h
        · replace h := h.2 c
          intro z13 ez13
          replace h := h z13 ez13
          intro z14 ez14
          replace h := h z14 ez14
          intro q15 eq15
          replace h := h q15 eq15
          refine kmT_X1_setAlarm _ _ _ _ _ _ (fun S16 hG h => ?_) h
          replace hF := KF_t hF hG (by decide) (by decide) (by decide) (by decide) (by decide) (by decide) (by decide) (by decide)
          exact kmT_X6_closePart_67 hk hF h
theorem kmT_X6_come (t0 : Nat) (a0 : Nat) (a1 : Int32) : KmV [13, 14, 15] [] [] [] [] (wT_X6_come t0 a0 a1) := by
  intro S0 K K' hk h
  have hF : KF [13, 14, 15] [] [] [] [] S0 S0 := KF_rf
  unfold wT_X6_come at h ⊢
  intro S1 eS1
  replace h := h S1 eS1
  replace hF := KF_i hF eS1 (by decide)
  intro S2 eS2
  replace h := h S2 eS2
  replace hF := KF_i hF eS2 (by decide)
  refine kmT_X6_tellAbout _ _ _ _ _ (fun S3 hG h => ?_) h
  replace hF := KF_t hF hG (by decide) (by decide) (by decide) (by decide) (by decide) (by decide) (by decide) (by decide)
  exact hk _ hF h
theorem kmT_X6_end (t0 : Nat) (a0 : Nat) (a1 : Int32) (a2 : Int32) : KmV [22, 31, 32] [] [] [] [] (wT_X6_end t0 a0 a1 a2) := by
  intro S0 K K' hk h
  have hF : KF [22, 31, 32] [] [] [] [] S0 S0 := KF_rf
  unfold wT_X6_end at h ⊢
  intro S1 eS1
  replace h := h S1 eS1
  replace hF := KF_i hF eS1 (by decide)
  intro S2 eS2
  replace h := h S2 eS2
  replace hF := KF_i hF eS2 (by decide)
  intro S3 eS3
  replace h := h S3 eS3
  replace hF := KF_i hF eS3 (by decide)
  exact hk _ hF h
theorem kmT_X6_leave_295 {K K' : kS → Prop} {S0 : kS} (hk : ∀ S1, KF [22, 23, 31, 32, 36] [] [59, 60] [] [] S0 S1 → K S1 → K' S1) {y0 : Nat} {y1 : Nat} {y2 : Int32} {S : kS} (hF : KF [22, 23, 31, 32, 36] [] [59, 60] [] [] S0 S) (h : wT_X6_leave_295 K y0 y1 y2 S) : wT_X6_leave_295 K' y0 y1 y2 S := by
  unfold wT_X6_leave_295 at h ⊢
  refine kmT_X6_end _ _ _ _ _ _ _ (fun S68 hG h => ?_) h
  replace hF := KF_t hF hG (by decide) (by decide) (by decide) (by decide) (by decide) (by decide) (by decide) (by decide)
  exact hk _ hF h
theorem kmT_X6_leave_230 {K K' : kS → Prop} {S0 : kS} (hk : ∀ S1, KF [22, 23, 31, 32, 36] [] [59, 60] [] [] S0 S1 → K S1 → K' S1) {x0 : Nat} {x1 : Nat} {x3 : Int32} {x5 : Option Nat} {x6 : Int32} {x8 : Int32} {S : kS} (hF : KF [22, 23, 31, 32, 36] [] [59, 60] [] [] S0 S) (h : wT_X6_leave_230 K x0 x1 x3 x5 x6 x8 S) : wT_X6_leave_230 K' x0 x1 x3 x5 x6 x8 S := by
  unfold wT_X6_leave_230 at h ⊢
  refine ⟨fun c => ?_, fun c => ?_⟩
  · replace h := h.1 c
    refine ⟨fun c => ?_, fun c => ?_⟩
    · replace h := h.1 c
      refine ⟨fun c => ?_, fun c => ?_⟩
      · replace h := h.1 c
        exact kmT_X6_leave_295 hk hF h
      · replace h := h.2 c
        exact kmT_X6_leave_295 hk hF h
    · replace h := h.2 c
      refine kmT_X6_end _ _ _ _ _ _ _ (fun S56 hG h => ?_) h
      replace hF := KF_t hF hG (by decide) (by decide) (by decide) (by decide) (by decide) (by decide) (by decide) (by decide)
      exact hk _ hF h
  · replace h := h.2 c
    refine ⟨fun c => ?_, fun c => ?_⟩
    · replace h := h.1 c
      intro q58 eq58
      replace h := h q58 eq58
      intro z59 ez59
      replace h := h z59 ez59
      intro q60 eq60
      replace h := h q60 eq60
      refine ⟨h.1, ?_⟩
      replace h := h.2
      intro z61 ez61
      replace h := h z61 ez61
      intro S62 eS62
      replace h := h S62 eS62
      replace hF := KF_i hF eS62 (by decide)
      exact hk _ hF h
    · replace h := h.2 c
      intro q63 eq63
      replace h := h q63 eq63
      intro z64 ez64
      replace h := h z64 ez64
      intro q65 eq65
      replace h := h q65 eq65
      refine ⟨h.1, ?_⟩
      replace h := h.2
      intro z66 ez66
      replace h := h z66 ez66
      intro S67 eS67
      replace h := h S67 eS67
      replace hF := KF_i hF eS67 (by decide)
      exact hk _ hF h
theorem kmT_X6_leave_214 {K K' : kS → Prop} {k57 k57' : Nat × Nat × Int32 × Option Nat × Int32 × Int32 × Int32 × Int32 × Int32 × kS → Prop} {S0 : kS} (hk : ∀ S1, KF [22, 23, 31, 32, 36] [] [59, 60] [] [] S0 S1 → K S1 → K' S1) (hk57 : ∀ u : Nat × Nat × Int32 × Option Nat × Int32 × Int32 × Int32 × Int32 × Int32 × kS, KF [22, 23, 31, 32, 36] [] [59, 60] [] [] S0 u.2.2.2.2.2.2.2.2.2 → k57 u → k57' u) {x0 : Nat} {x1 : Nat} {x3 : Int32} {x5 : Nat} {x6 : Int32} {x7 : Int32} {x8 : Int32} {x10 : Int32} {x11 : Int32} {S : kS} (hF : KF [22, 23, 31, 32, 36] [] [59, 60] [] [] S0 S) (h : wT_X6_leave_214 K k57 x0 x1 x3 x5 x6 x7 x8 x10 x11 S) : wT_X6_leave_214 K' k57' x0 x1 x3 x5 x6 x7 x8 x10 x11 S := by
  unfold wT_X6_leave_214 at h ⊢
  intro z37 ez37
  replace h := h z37 ez37
  intro q38 eq38
  replace h := h q38 eq38
  refine ⟨h.1, ?_⟩
  replace h := h.2
  intro z39 ez39
  replace h := h z39 ez39
  intro z40 ez40
  replace h := h z40 ez40
  exact hk57 _ hF h
theorem kmT_X6_leave_173 {K K' : kS → Prop} {k57 k57' : Nat × Nat × Int32 × Option Nat × Int32 × Int32 × Int32 × Int32 × Int32 × kS → Prop} {S0 : kS} (hk : ∀ S1, KF [22, 23, 31, 32, 36] [] [59, 60] [] [] S0 S1 → K S1 → K' S1) (hk57 : ∀ u : Nat × Nat × Int32 × Option Nat × Int32 × Int32 × Int32 × Int32 × Int32 × kS, KF [22, 23, 31, 32, 36] [] [59, 60] [] [] S0 u.2.2.2.2.2.2.2.2.2 → k57 u → k57' u) {x0 : Nat} {x1 : Nat} {x3 : Int32} {x5 : Nat} {x6 : Int32} {x7 : Int32} {x8 : Int32} {x10 : Int32} {x11 : Int32} {x13 : Int32} {S : kS} (hF : KF [22, 23, 31, 32, 36] [] [59, 60] [] [] S0 S) (h : wT_X6_leave_173 K k57 x0 x1 x3 x5 x6 x7 x8 x10 x11 x13 S) : wT_X6_leave_173 K' k57' x0 x1 x3 x5 x6 x7 x8 x10 x11 x13 S := by
  unfold wT_X6_leave_173 at h ⊢
  refine kmT_X7_is _ _ _ _ _ _ (fun S41 r41 hG h => ?_) h
  replace hF := KF_t hF hG (by decide) (by decide) (by decide) (by decide) (by decide) (by decide) (by decide) (by decide)
  refine ⟨fun c => ?_, fun c => ?_⟩
  · replace h := h.1 c
    exact kmT_X6_leave_214 hk hk57 hF h
  · replace h := h.2 c
    intro z43 ez43
    replace h := h z43 ez43
    have pz43 : ∃ o, S0.2.1 59 o = z43 := ⟨_, by rw [ez43, hF.2.1 59 (by decide)]⟩
    intro q44 eq44
    replace h := h q44 eq44
    refine ⟨h.1, ?_⟩
    replace h := h.2
    intro S45 eS45
    replace h := h S45 eS45
    replace hF := KF_a (fid := 59) hF eS45 (by decide) (by rw [← eq44]; exact pz43)
    intro z46 ez46
    replace h := h z46 ez46
    have pz46 : ∃ o, S0.2.1 60 o = z46 := ⟨_, by rw [ez46, hF.2.1 60 (by decide)]⟩
    intro q47 eq47
    replace h := h q47 eq47
    refine ⟨h.1, ?_⟩
    replace h := h.2
    intro S48 eS48
    replace h := h S48 eS48
    replace hF := KF_a (fid := 60) hF eS48 (by decide) (by rw [← eq47]; exact pz46)
    intro z49 ez49
    replace h := h z49 ez49
    intro q50 eq50
    replace h := h q50 eq50
    refine ⟨h.1, ?_⟩
    replace h := h.2
    intro z51 ez51
    replace h := h z51 ez51
    intro S52 eS52
    replace h := h S52 eS52
    replace hF := KF_i hF eS52 (by decide)
    exact hk _ hF h
theorem kmT_X6_leave_128 {K K' : kS → Prop} {k57 k57' : Nat × Nat × Int32 × Option Nat × Int32 × Int32 × Int32 × Int32 × Int32 × kS → Prop} {S0 : kS} (hk : ∀ S1, KF [22, 23, 31, 32, 36] [] [59, 60] [] [] S0 S1 → K S1 → K' S1) (hk57 : ∀ u : Nat × Nat × Int32 × Option Nat × Int32 × Int32 × Int32 × Int32 × Int32 × kS, KF [22, 23, 31, 32, 36] [] [59, 60] [] [] S0 u.2.2.2.2.2.2.2.2.2 → k57 u → k57' u) {x0 : Nat} {x1 : Nat} {x3 : Int32} {x5 : Nat} {x6 : Int32} {x7 : Int32} {x10 : Int32} {x11 : Int32} {y0 : Int32} {S : kS} (hF : KF [22, 23, 31, 32, 36] [] [59, 60] [] [] S0 S) (h : wT_X6_leave_128 K k57 x0 x1 x3 x5 x6 x7 x10 x11 y0 S) : wT_X6_leave_128 K' k57' x0 x1 x3 x5 x6 x7 x10 x11 y0 S := by
  unfold wT_X6_leave_128 at h ⊢
  exact kmT_X6_leave_214 hk hk57 hF h
theorem kmT_X6_leave_126 {K K' : kS → Prop} {k57 k57' : Nat × Nat × Int32 × Option Nat × Int32 × Int32 × Int32 × Int32 × Int32 × kS → Prop} {S0 : kS} (hk : ∀ S1, KF [22, 23, 31, 32, 36] [] [59, 60] [] [] S0 S1 → K S1 → K' S1) (hk57 : ∀ u : Nat × Nat × Int32 × Option Nat × Int32 × Int32 × Int32 × Int32 × Int32 × kS, KF [22, 23, 31, 32, 36] [] [59, 60] [] [] S0 u.2.2.2.2.2.2.2.2.2 → k57 u → k57' u) {x0 : Nat} {x1 : Nat} {x3 : Int32} {x5 : Nat} {x6 : Int32} {x7 : Int32} {x8 : Int32} {x10 : Int32} {x11 : Int32} {S : kS} (hF : KF [22, 23, 31, 32, 36] [] [59, 60] [] [] S0 S) (h : wT_X6_leave_126 K k57 x0 x1 x3 x5 x6 x7 x8 x10 x11 S) : wT_X6_leave_126 K' k57' x0 x1 x3 x5 x6 x7 x8 x10 x11 S := by
  unfold wT_X6_leave_126 at h ⊢
  exact kmT_X6_leave_128 hk hk57 hF h
theorem kmT_X6_leave_57 {K K' : kS → Prop} {k57 k57' : Nat × Nat × Int32 × Option Nat × Int32 × Int32 × Int32 × Int32 × Int32 × kS → Prop} {S0 : kS} (hk : ∀ S1, KF [22, 23, 31, 32, 36] [] [59, 60] [] [] S0 S1 → K S1 → K' S1) (hk57 : ∀ u : Nat × Nat × Int32 × Option Nat × Int32 × Int32 × Int32 × Int32 × Int32 × kS, KF [22, 23, 31, 32, 36] [] [59, 60] [] [] S0 u.2.2.2.2.2.2.2.2.2 → k57 u → k57' u) {x0 : Nat} {x1 : Nat} {x3 : Int32} {x5 : Option Nat} {x6 : Int32} {x7 : Int32} {x8 : Int32} {x9 : Int32} {x10 : Int32} {S : kS} (hF : KF [22, 23, 31, 32, 36] [] [59, 60] [] [] S0 S) (h : wT_X6_leave_57 K k57 x0 x1 x3 x5 x6 x7 x8 x9 x10 S) : wT_X6_leave_57 K' k57' x0 x1 x3 x5 x6 x7 x8 x9 x10 S := by
  unfold wT_X6_leave_57 at h ⊢
  refine ⟨fun c => ?_, fun c => ?_⟩
  · replace h := h.1 c
    exact kmT_X6_leave_230 hk hF h
  · replace h := h.2 c
    refine ⟨fun c => ?_, fun c => ?_⟩
    · replace h := h.1 c
      exact kmT_X6_leave_230 hk hF h
    · replace h := h.2 c
      refine ⟨fun c => ?_, fun c => ?_⟩
      · replace h := h.1 c
        exact kmT_X6_leave_230 hk hF h
      · replace h := h.2 c
        refine ⟨h.1, ?_⟩
        replace h := h.2
        intro z16 ez16
        replace h := h z16 ez16
        refine ⟨h.1, ?_⟩
        replace h := h.2
        intro z17 ez17
        replace h := h z17 ez17
        intro q18 eq18
        replace h := h q18 eq18
        intro z19 ez19
        replace h := h z19 ez19
        intro q20 eq20
        replace h := h q20 eq20
        refine ⟨h.1, ?_⟩
        replace h := h.2
        intro z21 ez21
        replace h := h z21 ez21
        refine ⟨fun c => ?_, fun c => ?_⟩
        · replace h := h.1 c
          refine ⟨fun c => ?_, fun c => ?_⟩
          · replace h := h.1 c
            exact kmT_X6_leave_173 hk hk57 hF h
          · replace h := h.2 c
            refine ⟨fun c => ?_, fun c => ?_⟩
            · replace h := h.1 c
              exact kmT_X6_leave_173 hk hk57 hF h
            · replace h := h.2 c
              refine kmT_X7_is _ _ _ _ _ _ (fun S25 r25 hG h => ?_) h
              replace hF := KF_t hF hG (by decide) (by decide) (by decide) (by decide) (by decide) (by decide) (by decide) (by decide)
              refine ⟨fun c => ?_, fun c => ?_⟩
              · replace h := h.1 c
                exact kmT_X6_leave_173 hk hk57 hF h
              · replace h := h.2 c
                intro S27 eS27
                replace h := h S27 eS27
                replace hF := KF_i hF eS27 (by decide)
                intro z28 ez28
                replace h := h z28 ez28
                intro q29 eq29
                replace h := h q29 eq29
                refine ⟨h.1, ?_⟩
                replace h := h.2
                intro z30 ez30
                replace h := h z30 ez30
                intro S31 eS31
                replace h := h S31 eS31
                replace hF := KF_i hF eS31 (by decide)
                exact hk _ hF h
        · replace h := h.2 c
          refine ⟨fun c => ?_, fun c => ?_⟩
          · replace h := h.1 c
            exact kmT_X6_leave_126 hk hk57 hF h
          · replace h := h.2 c
            intro z33 ez33
            replace h := h z33 ez33
            intro q34 eq34
            replace h := h q34 eq34
            refine ⟨h.1, ?_⟩
            replace h := h.2
            intro z35 ez35
            replace h := h z35 ez35
            refine ⟨fun c => ?_, fun c => ?_⟩
            · replace h := h.1 c
              exact kmT_X6_leave_126 hk hk57 hF h
            · replace h := h.2 c
              exact kmT_X6_leave_128 hk hk57 hF h
theorem kmlT_X6_leave_57 {K K' : kS → Prop} {S0 : kS} (hk : ∀ S1, KF [22, 23, 31, 32, 36] [] [59, 60] [] [] S0 S1 → K S1 → K' S1) : ∀ (n : Nat) (u : Nat × Nat × Int32 × Option Nat × Int32 × Int32 × Int32 × Int32 × Int32 × kS), KF [22, 23, 31, 32, 36] [] [59, 60] [] [] S0 u.2.2.2.2.2.2.2.2.2 → it (lT_X6_leave_57 K) n u → it (lT_X6_leave_57 K') n u := by
  intro n
  induction n with
  | zero => exact fun _ _ h => h
  | succ n ih => exact fun u hF h => kmT_X6_leave_57 hk ih hF h
theorem kmT_X6_leave_45 {K K' : kS → Prop} {S0 : kS} (hk : ∀ S1, KF [22, 23, 31, 32, 36] [] [59, 60] [] [] S0 S1 → K S1 → K' S1) {x0 : Nat} {x1 : Nat} {x2 : Int32} {x3 : Int32} {x4 : Int32} {x5 : Option Nat} {x6 : Int32} {y0 : Int32} {S : kS} (hF : KF [22, 23, 31, 32, 36] [] [59, 60] [] [] S0 S) (h : wT_X6_leave_45 K x0 x1 x2 x3 x4 x5 x6 y0 S) : wT_X6_leave_45 K' x0 x1 x2 x3 x4 x5 x6 y0 S := by
  unfold wT_X6_leave_45 at h ⊢
  obtain ⟨n9, h⟩ := h
  exact ⟨n9, kmlT_X6_leave_57 hk n9 _ hF h⟩
theorem kmT_X6_leave_27 {K K' : kS → Prop} {S0 : kS} (hk : ∀ S1, KF [22, 23, 31, 32, 36] [] [59, 60] [] [] S0 S1 → K S1 → K' S1) {x0 : Nat} {x1 : Nat} {x2 : Int32} {x3 : Int32} {x4 : Int32} {x5 : Option Nat} {y0 : Int32} {S : kS} (hF : KF [22, 23, 31, 32, 36] [] [59, 60] [] [] S0 S) (h : wT_X6_leave_27 K x0 x1 x2 x3 x4 x5 y0 S) : wT_X6_leave_27 K' x0 x1 x2 x3 x4 x5 y0 S := by
  unfold wT_X6_leave_27 at h ⊢
  refine ⟨fun c => ?_, fun c => ?_⟩
  · replace h := h.1 c
    exact kmT_X6_leave_45 hk hF h
  · replace h := h.2 c
    intro q9 eq9
    replace h := h q9 eq9
    intro z10 ez10
    replace h := h z10 ez10
    intro q11 eq11
    replace h := h q11 eq11
    refine ⟨h.1, ?_⟩
    replace h := h.2
    intro z12 ez12
    replace h := h z12 ez12
    exact kmT_X6_leave_45 hk hF h
theorem kmT_X6_leave_22 {K K' : kS → Prop} {S0 : kS} (hk : ∀ S1, KF [22, 23, 31, 32, 36] [] [59, 60] [] [] S0 S1 → K S1 → K' S1) {x0 : Nat} {x1 : Nat} {x2 : Int32} {x3 : Int32} {x4 : Int32} {x5 : Option Nat} {S : kS} (hF : KF [22, 23, 31, 32, 36] [] [59, 60] [] [] S0 S) (h : wT_X6_leave_22 K x0 x1 x2 x3 x4 x5 S) : wT_X6_leave_22 K' x0 x1 x2 x3 x4 x5 S := by
  unfold wT_X6_leave_22 at h ⊢
  exact kmT_X6_leave_27 hk hF h
theorem kmT_X6_leave (t0 : Nat) (a0 : Nat) (a1 : Int32) (a2 : Int32) (a3 : Int32) : KmV [22, 23, 31, 32, 36] [] [59, 60] [] [] (wT_X6_leave t0 a0 a1 a2 a3) := by
  intro S0 K K' hk h
  have hF : KF [22, 23, 31, 32, 36] [] [59, 60] [] [] S0 S0 := KF_rf
  unfold wT_X6_leave at h ⊢
  intro z1 ez1
  replace h := h z1 ez1
  intro q2 eq2
  replace h := h q2 eq2
  intro z3 ez3
  replace h := h z3 ez3
  obtain ⟨q4, eq4, h9⟩ := h
  replace h := h9
  clear h9
  refine ⟨q4, eq4, ?_⟩
  intro z5 ez5
  replace h := h z5 ez5
  refine ⟨fun c => ?_, fun c => ?_⟩
  · replace h := h.1 c
    exact kmT_X6_leave_22 hk hF h
  · replace h := h.2 c
    refine ⟨fun c => ?_, fun c => ?_⟩
    · replace h := h.1 c
      exact kmT_X6_leave_27 hk hF h
    · replace h := h.2 c
      exact kmT_X6_leave_22 hk hF h
theorem kmT_X6_fail (t0 : Nat) (a0 : Nat) (a1 : Int32) (a2 : Int32) : KmV [22, 23, 31, 32, 36] [] [59, 60] [] [] (wT_X6_fail t0 a0 a1 a2) := by
  intro S0 K K' hk h
  have hF : KF [22, 23, 31, 32, 36] [] [59, 60] [] [] S0 S0 := KF_rf
  unfold wT_X6_fail at h ⊢
  intro z1 ez1
  replace h := h z1 ez1
  refine ⟨fun c => ?_, fun c => ?_⟩
  · replace h := h.1 c
    intro z3 ez3
    replace h := h z3 ez3
    intro q4 eq4
    replace h := h q4 eq4
    intro z5 ez5
    replace h := h z5 ez5
    obtain ⟨q6, eq6, h9⟩ := h
    replace h := h9
    clear h9
    refine ⟨q6, eq6, ?_⟩
    intro z7 ez7
    replace h := h z7 ez7
    intro q8 eq8
    replace h := h q8 eq8
    refine ⟨h.1, ?_⟩
    replace h := h.2
    intro z9 ez9
    replace h := h z9 ez9
    refine kmT_X6_leave _ _ _ _ _ _ _ _ (fun S10 hG h => ?_) h
    replace hF := KF_t hF hG (by decide) (by decide) (by decide) (by decide) (by decide) (by decide) (by decide) (by decide)
    exact hk _ hF h
  · replace h := h.2 c
    intro S11 eS11
    replace h := h S11 eS11
    replace hF := KF_i hF eS11 (by decide)
    intro S12 eS12
    replace h := h S12 eS12
    replace hF := KF_i hF eS12 (by decide)
    intro S13 eS13
    replace h := h S13 eS13
    replace hF := KF_i hF eS13 (by decide)
    exact hk _ hF h
theorem kmT_X6_finishEnd (t0 : Nat) (a0 : Nat) (a1 : Int32) : KmV [22, 23, 31, 32, 36] [] [59, 60] [] [] (wT_X6_finishEnd t0 a0 a1) := by
  intro S0 K K' hk h
  have hF : KF [22, 23, 31, 32, 36] [] [59, 60] [] [] S0 S0 := KF_rf
  unfold wT_X6_finishEnd at h ⊢
  intro z1 ez1
  replace h := h z1 ez1
  intro q2 eq2
  replace h := h q2 eq2
  intro z3 ez3
  replace h := h z3 ez3
  obtain ⟨q4, eq4, h9⟩ := h
  replace h := h9
  clear h9
  refine ⟨q4, eq4, ?_⟩
  intro z5 ez5
  replace h := h z5 ez5
  intro q6 eq6
  replace h := h q6 eq6
  intro z7 ez7
  replace h := h z7 ez7
  intro q8 eq8
  replace h := h q8 eq8
  refine ⟨h.1, ?_⟩
  replace h := h.2
  intro z9 ez9
  replace h := h z9 ez9
  intro z10 ez10
  replace h := h z10 ez10
  intro q11 eq11
  replace h := h q11 eq11
  refine ⟨h.1, ?_⟩
  replace h := h.2
  intro z12 ez12
  replace h := h z12 ez12
  refine ⟨fun c => ?_, fun c => ?_⟩
  · replace h := h.1 c
    intro z14 ez14
    replace h := h z14 ez14
    intro q15 eq15
    replace h := h q15 eq15
    refine ⟨h.1, ?_⟩
    replace h := h.2
    intro z16 ez16
    replace h := h z16 ez16
    intro z17 ez17
    replace h := h z17 ez17
    intro q18 eq18
    replace h := h q18 eq18
    refine ⟨h.1, ?_⟩
    replace h := h.2
    intro z19 ez19
    replace h := h z19 ez19
    intro z20 ez20
    replace h := h z20 ez20
    intro q21 eq21
    replace h := h q21 eq21
    refine ⟨h.1, ?_⟩
    replace h := h.2
    intro z22 ez22
    replace h := h z22 ez22
    refine kmT_X6_leave _ _ _ _ _ _ _ _ (fun S23 hG h => ?_) h
    replace hF := KF_t hF hG (by decide) (by decide) (by decide) (by decide) (by decide) (by decide) (by decide) (by decide)
    exact hk _ hF h
  · replace h := h.2 c
    intro z24 ez24
    replace h := h z24 ez24
    intro q25 eq25
    replace h := h q25 eq25
    refine ⟨h.1, ?_⟩
    replace h := h.2
    intro z26 ez26
    replace h := h z26 ez26
    intro S27 eS27
    replace h := h S27 eS27
    replace hF := KF_i hF eS27 (by decide)
    exact hk _ hF h
theorem kmT_X6_pop (t0 : Nat) : KmI [21] [] [] [] [] (wT_X6_pop t0) := by
  intro S0 K K' hk h
  have hF : KF [21] [] [] [] [] S0 S0 := KF_rf
  unfold wT_X6_pop at h ⊢
  intro z1 ez1
  replace h := h z1 ez1
  refine ⟨fun c => ?_, fun c => ?_⟩
  · replace h := h.1 c
    intro z3 ez3
    replace h := h z3 ez3
    intro z4 ez4
    replace h := h z4 ez4
    intro S5 eS5
    replace h := h S5 eS5
    replace hF := KF_i hF eS5 (by decide)
    intro z6 ez6
    replace h := h z6 ez6
    intro z7 ez7
    replace h := h z7 ez7
    intro q8 eq8
    replace h := h q8 eq8
    refine ⟨h.1, ?_⟩
    replace h := h.2
    intro z9 ez9
    replace h := h z9 ez9
    exact hk _ _ hF h
  · replace h := h.2 c
    exact hk _ _ hF h
theorem kmT_X9_set (t0 : Nat) (a0 : Int32) (a1 : Int32) : KmV [] [] [58] [] [] (wT_X9_set t0 a0 a1) := by
  intro S0 K K' hk h
  have hF : KF [] [] [58] [] [] S0 S0 := KF_rf
  unfold wT_X9_set at h ⊢
  refine ⟨fun c => ?_, fun c => ?_⟩
  · replace h := h.1 c
    exact hk _ hF h
  · replace h := h.2 c
    refine ⟨fun c => ?_, fun c => ?_⟩
    · replace h := h.1 c
      exact hk _ hF h
    · replace h := h.2 c
      intro z3 ez3
      replace h := h z3 ez3
      have pz3 : ∃ o, S0.2.1 58 o = z3 := ⟨_, by rw [ez3, hF.2.1 58 (by decide)]⟩
      intro q4 eq4
      replace h := h q4 eq4
      refine ⟨h.1, ?_⟩
      replace h := h.2
      intro S5 eS5
      replace h := h S5 eS5
      replace hF := KF_a (fid := 58) hF eS5 (by decide) (by rw [← eq4]; exact pz3)
      exact hk _ hF h
theorem kmT_X6_flow (t0 : Nat) (a0 : Nat) (a1 : Int32) (a2 : Int32) : KmV [0, 21, 22, 23, 31, 32, 36] [] [0, 1, 58, 59, 60] [] [] (wT_X6_flow t0 a0 a1 a2) := by
  intro S0 K K' hk h
  have hF : KF [0, 21, 22, 23, 31, 32, 36] [] [0, 1, 58, 59, 60] [] [] S0 S0 := KF_rf
  unfold wT_X6_flow at h ⊢
  intro z1 ez1
  replace h := h z1 ez1
  intro q2 eq2
  replace h := h q2 eq2
  intro z3 ez3
  replace h := h z3 ez3
  obtain ⟨q4, eq4, h9⟩ := h
  replace h := h9
  clear h9
  refine ⟨q4, eq4, ?_⟩
  intro z5 ez5
  replace h := h z5 ez5
  intro z6 ez6
  replace h := h z6 ez6
  intro q7 eq7
  replace h := h q7 eq7
  refine ⟨h.1, ?_⟩
  replace h := h.2
  intro z8 ez8
  replace h := h z8 ez8
  refine ⟨fun c => ?_, fun c => ?_⟩
  · replace h := h.1 c
    refine kmT_X6_pop _ _ _ _ (fun S10 r10 hG h => ?_) h
    replace hF := KF_t hF hG (by decide) (by decide) (by decide) (by decide) (by decide) (by decide) (by decide) (by decide)
    refine kmT_X9_set _ _ _ _ _ _ (fun S11 hG h => ?_) h
    replace hF := KF_t hF hG (by decide) (by decide) (by decide) (by decide) (by decide) (by decide) (by decide) (by decide)
    exact hk _ hF h
  · replace h := h.2 c
    refine ⟨fun c => ?_, fun c => ?_⟩
    · replace h := h.1 c
      intro z13 ez13
      replace h := h z13 ez13
      intro z14 ez14
      replace h := h z14 ez14
      refine kmT_X6_pop _ _ _ _ (fun S15 r15 hG h => ?_) h
      replace hF := KF_t hF hG (by decide) (by decide) (by decide) (by decide) (by decide) (by decide) (by decide) (by decide)
      intro q16 eq16
      replace h := h q16 eq16
      refine kmT_X0_note _ _ _ _ _ _ (fun S17 hG h => ?_) h
      replace hF := KF_t hF hG (by decide) (by decide) (by decide) (by decide) (by decide) (by decide) (by decide) (by decide)
      exact hk _ hF h
    · replace h := h.2 c
      refine ⟨fun c => ?_, fun c => ?_⟩
      · replace h := h.1 c
        refine kmT_X6_pop _ _ _ _ (fun S19 r19 hG h => ?_) h
        replace hF := KF_t hF hG (by decide) (by decide) (by decide) (by decide) (by decide) (by decide) (by decide) (by decide)
        refine ⟨fun c => ?_, fun c => ?_⟩
        · replace h := h.1 c
          intro z21 ez21
          replace h := h z21 ez21
          intro S22 eS22
          replace h := h S22 eS22
          replace hF := KF_i hF eS22 (by decide)
          exact hk _ hF h
        · replace h := h.2 c
          intro S23 eS23
          replace h := h S23 eS23
          replace hF := KF_i hF eS23 (by decide)
          exact hk _ hF h
      · replace h := h.2 c
        refine ⟨fun c => ?_, fun c => ?_⟩
        · replace h := h.1 c
          intro S25 eS25
          replace h := h S25 eS25
          replace hF := KF_i hF eS25 (by decide)
          exact hk _ hF h
        · replace h := h.2 c
          refine ⟨fun c => ?_, fun c => ?_⟩
          · replace h := h.1 c
            intro z27 ez27
            replace h := h z27 ez27
            intro q28 eq28
            replace h := h q28 eq28
            refine ⟨h.1, ?_⟩
            replace h := h.2
            intro z29 ez29
            replace h := h z29 ez29
            refine kmT_X6_leave _ _ _ _ _ _ _ _ (fun S30 hG h => ?_) h
            replace hF := KF_t hF hG (by decide) (by decide) (by decide) (by decide) (by decide) (by decide) (by decide) (by decide)
            exact hk _ hF h
          · replace h := h.2 c
            refine ⟨fun c => ?_, fun c => ?_⟩
            · replace h := h.1 c
              intro z32 ez32
              replace h := h z32 ez32
              intro q33 eq33
              replace h := h q33 eq33
              refine ⟨h.1, ?_⟩
              replace h := h.2
              intro z34 ez34
              replace h := h z34 ez34
              refine kmT_X6_leave _ _ _ _ _ _ _ _ (fun S35 hG h => ?_) h
              replace hF := KF_t hF hG (by decide) (by decide) (by decide) (by decide) (by decide) (by decide) (by decide) (by decide)
              exact hk _ hF h
            · replace h := h.2 c
              refine ⟨fun c => ?_, fun c => ?_⟩
              · replace h := h.1 c
                refine kmT_X6_pop _ _ _ _ (fun S37 r37 hG h => ?_) h
                replace hF := KF_t hF hG (by decide) (by decide) (by decide) (by decide) (by decide) (by decide) (by decide) (by decide)
                intro z38 ez38
                replace h := h z38 ez38
                intro q39 eq39
                replace h := h q39 eq39
                refine ⟨h.1, ?_⟩
                replace h := h.2
                intro z40 ez40
                replace h := h z40 ez40
                refine kmT_X6_leave _ _ _ _ _ _ _ _ (fun S41 hG h => ?_) h
                replace hF := KF_t hF hG (by decide) (by decide) (by decide) (by decide) (by decide) (by decide) (by decide) (by decide)
                exact hk _ hF h
              · replace h := h.2 c
                refine ⟨fun c => ?_, fun c => ?_⟩
                · replace h := h.1 c
                  refine kmT_X6_fail _ _ _ _ _ _ _ (fun S43 hG h => ?_) h
                  replace hF := KF_t hF hG (by decide) (by decide) (by decide) (by decide) (by decide) (by decide) (by decide) (by decide)
                  exact hk _ hF h
                · replace h := h.2 c
                  refine ⟨fun c => ?_, fun c => ?_⟩
                  · replace h := h.1 c
                    intro q45 eq45
                    replace h := h q45 eq45
                    refine kmT_X7_is _ _ _ _ _ _ (fun S46 r46 hG h => ?_) h
                    replace hF := KF_t hF hG (by decide) (by decide) (by decide) (by decide) (by decide) (by decide) (by decide) (by decide)
                    refine ⟨fun c => ?_, fun c => ?_⟩
                    · replace h := h.1 c
                      intro z48 ez48
                      replace h := h z48 ez48
                      intro q49 eq49
                      replace h := h q49 eq49
                      refine ⟨h.1, ?_⟩
                      replace h := h.2
                      intro z50 ez50
                      replace h := h z50 ez50
                      intro S51 eS51
                      replace h := h S51 eS51
                      replace hF := KF_i hF eS51 (by decide)
                      exact hk _ hF h
                    · replace h := h.2 c
                      intro z52 ez52
                      replace h := h z52 ez52
                      have pz52 : ∃ o, S0.2.1 59 o = z52 := ⟨_, by rw [ez52, hF.2.1 59 (by decide)]⟩
                      intro z53 ez53
                      replace h := h z53 ez53
                      intro q54 eq54
                      replace h := h q54 eq54
                      refine ⟨h.1, ?_⟩
                      replace h := h.2
                      intro z55 ez55
                      replace h := h z55 ez55
                      intro q56 eq56
                      replace h := h q56 eq56
                      refine ⟨h.1, ?_⟩
                      replace h := h.2
                      intro S57 eS57
                      replace h := h S57 eS57
                      replace hF := KF_a (fid := 59) hF eS57 (by decide) (by rw [← eq56]; exact pz52)
                      intro z58 ez58
                      replace h := h z58 ez58
                      intro q59 eq59
                      replace h := h q59 eq59
                      refine ⟨h.1, ?_⟩
                      replace h := h.2
                      intro z60 ez60
                      replace h := h z60 ez60
                      intro S61 eS61
                      replace h := h S61 eS61
                      replace hF := KF_i hF eS61 (by decide)
                      exact hk _ hF h
                  · replace h := h.2 c
                    refine ⟨fun c => ?_, fun c => ?_⟩
                    · replace h := h.1 c
                      intro z63 ez63
                      replace h := h z63 ez63
                      refine kmT_X9_set _ _ _ _ _ _ (fun S64 hG h => ?_) h
                      replace hF := KF_t hF hG (by decide) (by decide) (by decide) (by decide) (by decide) (by decide) (by decide) (by decide)
                      exact hk _ hF h
                    · replace h := h.2 c
                      refine ⟨fun c => ?_, fun c => ?_⟩
                      · replace h := h.1 c
                        refine kmT_X6_finishEnd _ _ _ _ _ _ (fun S66 hG h => ?_) h
                        replace hF := KF_t hF hG (by decide) (by decide) (by decide) (by decide) (by decide) (by decide) (by decide) (by decide)
                        exact hk _ hF h
                      · replace h := h.2 c
                        refine kmT_X6_end _ _ _ _ _ _ _ (fun S67 hG h => ?_) h
                        replace hF := KF_t hF hG (by decide) (by decide) (by decide) (by decide) (by decide) (by decide) (by decide) (by decide)
                        exact hk _ hF h
theorem kmT_X6_push (t0 : Nat) (a0 : Int32) : KmV [21] [] [42] [] [] (wT_X6_push t0 a0) := by
  intro S0 K K' hk h
  have hF : KF [21] [] [42] [] [] S0 S0 := KF_rf
  unfold wT_X6_push at h ⊢
  intro z1 ez1
  replace h := h z1 ez1
  refine ⟨fun c => ?_, fun c => ?_⟩
  · replace h := h.1 c
    exact hk _ hF h
  · replace h := h.2 c
    intro z3 ez3
    replace h := h z3 ez3
    have pz3 : ∃ o, S0.2.1 42 o = z3 := ⟨_, by rw [ez3, hF.2.1 42 (by decide)]⟩
    intro z4 ez4
    replace h := h z4 ez4
    intro q5 eq5
    replace h := h q5 eq5
    refine ⟨h.1, ?_⟩
    replace h := h.2
    intro S6 eS6
    replace h := h S6 eS6
    replace hF := KF_a (fid := 42) hF eS6 (by decide) (by rw [← eq5]; exact pz3)
    intro z7 ez7
    replace h := h z7 ez7
    intro z8 ez8
    replace h := h z8 ez8
    intro S9 eS9
    replace h := h S9 eS9
    replace hF := KF_i hF eS9 (by decide)
    exact hk _ hF h
