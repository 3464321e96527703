
theorem km_X1_stop_63 {K K' : kS → Prop} {S0 : kS} (hk : ∀ S1, KF [0, 2, 3, 5, 13, 30, 31, 35, 37, 38] [12, 13, 25, 26, 27] [0, 1, 4, 10] [] [] S0 S1 → K S1 → K' S1) {x0 : Nat} {x1 : Nat} {S : kS} (hF : KF [0, 2, 3, 5, 13, 30, 31, 35, 37, 38] [12, 13, 25, 26, 27] [0, 1, 4, 10] [] [] S0 S) (h : wp_X1_stop_63 K x0 x1 S) : wp_X1_stop_63 K' x0 x1 S := by
  unfold wp_X1_stop_63 at h ⊢
  refine ⟨h.1, ?_⟩
  replace h := h.2
  intro S17 eS17
  replace h := h S17 eS17
  replace hF := KF_i hF eS17 (by decide)
  refine ⟨h.1, ?_⟩
  replace h := h.2
  intro z18 ez18
  replace h := h z18 ez18
  refine ⟨fun c => ?_, fun c => ?_⟩
  · replace h := h.1 c
    exact hk _ hF h
  · replace h := h.2 c
    refine ⟨h.1, ?_⟩
    replace h := h.2
    intro z20 ez20
    replace h := h z20 ez20
    intro z21 ez21
    replace h := h z21 ez21
    refine ⟨h.1, ?_⟩
    replace h := h.2
    refine km_X1_plan _ _ _ _ _ (fun S22 hG h => ?_) h
    replace hF := KF_t hF hG (by decide) (by decide) (by decide) (by decide) (by decide) (by decide) (by decide) (by decide)
    refine ⟨h.1, ?_⟩
    replace h := h.2
    refine km_X1_letGo _ _ _ _ _ _ (fun S23 hG h => ?_) h
    replace hF := KF_t hF hG (by decide) (by decide) (by decide) (by decide) (by decide) (by decide) (by decide) (by decide)
    exact hk _ hF h
theorem km_X1_stop (t0 : Nat) (a0 : Nat) : KmV [0, 2, 3, 5, 13, 30, 31, 35, 37, 38] [12, 13, 25, 26, 27] [0, 1, 4, 10] [] [] (wp_X1_stop t0 a0) := by
  intro S0 K K' hk h
  have hF : KF [0, 2, 3, 5, 13, 30, 31, 35, 37, 38] [12, 13, 25, 26, 27] [0, 1, 4, 10] [] [] S0 S0 := KF_rf
  unfold wp_X1_stop at h ⊢
  refine ⟨h.1, ?_⟩
  replace h := h.2
  intro z1 ez1
  replace h := h z1 ez1
  refine ⟨fun c => ?_, fun c => ?_⟩
  · replace h := h.1 c
    exact hk _ hF h
  · replace h := h.2 c
    refine ⟨h.1, ?_⟩
    replace h := h.2
    intro z3 ez3
    replace h := h z3 ez3
    refine ⟨fun c => ?_, fun c => ?_⟩
    · replace h := h.1 c
      refine ⟨h.1, ?_⟩
      replace h := h.2
      intro S5 eS5
      replace h := h S5 eS5
      replace hF := KF_i hF eS5 (by decide)
      refine ⟨h.1, ?_⟩
      replace h := h.2
      intro z6 ez6
      replace h := h z6 ez6
      refine ⟨fun c => ?_, fun c => ?_⟩
      · replace h := h.1 c
        refine ⟨h.1, ?_⟩
        replace h := h.2
        intro z8 ez8
        replace h := h z8 ez8
        refine ⟨fun c => ?_, fun c => ?_⟩
        · replace h := h.1 c
          exact km_X1_stop_63 hk hF h
        · replace h := h.2 c
          refine ⟨h.1, ?_⟩
          replace h := h.2
          intro z10 ez10
          replace h := h z10 ez10
          refine ⟨h.1, ?_⟩
          replace h := h.2
          intro z11 ez11
          replace h := h z11 ez11
          refine ⟨h.1, ?_⟩
          replace h := h.2
          intro z12 ez12
          replace h := h z12 ez12
          obtain ⟨q13, eq13, h9⟩ := h
          replace h := h9
          clear h9
          refine ⟨q13, eq13, ?_⟩
          refine ⟨h.1, ?_⟩
          replace h := h.2
          refine km_X0_note _ _ _ _ _ _ (fun S14 hG h => ?_) h
          replace hF := KF_t hF hG (by decide) (by decide) (by decide) (by decide) (by decide) (by decide) (by decide) (by decide)
          exact km_X1_stop_63 hk hF h
      · replace h := h.2 c
        refine ⟨h.1, ?_⟩
        replace h := h.2
        intro S15 eS15
        replace h := h S15 eS15
        replace hF := KF_i hF eS15 (by decide)
        refine ⟨h.1, ?_⟩
        replace h := h.2
        refine km_X1_close _ _ _ _ _ (fun S16 hG h => ?_) h
        replace hF := KF_t hF hG (by decide) (by decide) (by decide) (by decide) (by decide) (by decide) (by decide) (by decide)
        exact hk _ hF h
    · replace h := h.2 c
      exact hk _ hF h
theorem km_X1_work_64 {K K' : kS → Prop} {k2 k2' : Nat × Int32 × kS → Prop} {S0 : kS} (hk : ∀ S1, KF [0, 2, 3, 5, 13, 30, 31, 35, 37, 38] [12, 13, 25, 26, 27] [0, 1, 4, 10] [] [] S0 S1 → K S1 → K' S1) (hk2 : ∀ u : Nat × Int32 × kS, KF [0, 2, 3, 5, 13, 30, 31, 35, 37, 38] [12, 13, 25, 26, 27] [0, 1, 4, 10] [] [] S0 u.2.2 → k2 u → k2' u) {x0 : Nat} {x1 : Int32} {S : kS} (hF : KF [0, 2, 3, 5, 13, 30, 31, 35, 37, 38] [12, 13, 25, 26, 27] [0, 1, 4, 10] [] [] S0 S) (h : wp_X1_work_64 K k2 x0 x1 S) : wp_X1_work_64 K' k2' x0 x1 S := by
  unfold wp_X1_work_64 at h ⊢
  intro z23 ez23
  replace h := h z23 ez23
  exact hk2 _ hF h
theorem km_X1_work_2 {K K' : kS → Prop} {k2 k2' : Nat × Int32 × kS → Prop} {S0 : kS} (hk : ∀ S1, KF [0, 2, 3, 5, 13, 30, 31, 35, 37, 38] [12, 13, 25, 26, 27] [0, 1, 4, 10] [] [] S0 S1 → K S1 → K' S1) (hk2 : ∀ u : Nat × Int32 × kS, KF [0, 2, 3, 5, 13, 30, 31, 35, 37, 38] [12, 13, 25, 26, 27] [0, 1, 4, 10] [] [] S0 u.2.2 → k2 u → k2' u) {x0 : Nat} {x1 : Int32} {S : kS} (hF : KF [0, 2, 3, 5, 13, 30, 31, 35, 37, 38] [12, 13, 25, 26, 27] [0, 1, 4, 10] [] [] S0 S) (h : wp_X1_work_2 K k2 x0 x1 S) : wp_X1_work_2 K' k2' x0 x1 S := by
  unfold wp_X1_work_2 at h ⊢
  refine ⟨fun c => ?_, fun c => ?_⟩
  · replace h := h.1 c
    exact hk _ hF h
  · replace h := h.2 c
    refine ⟨h.1, ?_⟩
    replace h := h.2
    intro z2 ez2
    replace h := h z2 ez2
    refine ⟨fun c => ?_, fun c => ?_⟩
    · replace h := h.1 c
      exact hk _ hF h
    · replace h := h.2 c
      refine ⟨h.1, ?_⟩
      replace h := h.2
      intro z4 ez4
      replace h := h z4 ez4
      intro z5 ez5
      replace h := h z5 ez5
      refine ⟨h.1, ?_⟩
      replace h := h.2
      intro S6 eS6
      replace h := h S6 eS6
      replace hF := KF_i hF eS6 (by decide)
      refine ⟨h.1, ?_⟩
      replace h := h.2
      intro z7 ez7
      replace h := h z7 ez7
      refine ⟨h.1, ?_⟩
      replace h := h.2
      intro z8 ez8
      replace h := h z8 ez8
      obtain ⟨q9, eq9, h9⟩ := h
      replace h := h9
      clear h9
      refine ⟨q9, eq9, ?_⟩
      refine ⟨h.1, ?_⟩
      replace h := h.2
      refine ⟨h.1, ?_⟩
      replace h := h.2
      intro z10 ez10
      replace h := h z10 ez10
      refine ⟨fun c => ?_, fun c => ?_⟩
      · replace h := h.1 c
        refine ⟨h.1, ?_⟩
        replace h := h.2
        intro z12 ez12
        replace h := h z12 ez12
        obtain ⟨q13, eq13, h9⟩ := h
        replace h := h9
        clear h9
        refine ⟨q13, eq13, ?_⟩
        refine ⟨h.1, ?_⟩
        replace h := h.2
        refine ⟨h.1, ?_⟩
        replace h := h.2
        intro z14 ez14
        replace h := h z14 ez14
        obtain ⟨q15, eq15, h9⟩ := h
        replace h := h9
        clear h9
        refine ⟨q15, eq15, ?_⟩
        refine ⟨h.1, ?_⟩
        replace h := h.2
        refine km_X1_stop _ _ _ _ _ (fun S16 hG h => ?_) h
        replace hF := KF_t hF hG (by decide) (by decide) (by decide) (by decide) (by decide) (by decide) (by decide) (by decide)
        exact km_X1_work_64 hk hk2 hF h
      · replace h := h.2 c
        refine ⟨h.1, ?_⟩
        replace h := h.2
        intro z17 ez17
        replace h := h z17 ez17
        intro z18 ez18
        replace h := h z18 ez18
        obtain ⟨q19, eq19, h9⟩ := h
        replace h := h9
        clear h9
        refine ⟨q19, eq19, ?_⟩
        refine ⟨h.1, ?_⟩
        replace h := h.2
        refine ⟨h.1, ?_⟩
        replace h := h.2
        intro z20 ez20
        replace h := h z20 ez20
        obtain ⟨q21, eq21, h9⟩ := h
        replace h := h9
        clear h9
        refine ⟨q21, eq21, ?_⟩
        refine ⟨h.1, ?_⟩
        replace h := h.2
        refine km_X1_settle _ _ _ _ _ (fun S22 hG h => ?_) h
        replace hF := KF_t hF hG (by decide) (by decide) (by decide) (by decide) (by decide) (by decide) (by decide) (by decide)
        exact km_X1_work_64 hk hk2 hF h
theorem kml_X1_work_2 {K K' : kS → Prop} {S0 : kS} (hk : ∀ S1, KF [0, 2, 3, 5, 13, 30, 31, 35, 37, 38] [12, 13, 25, 26, 27] [0, 1, 4, 10] [] [] S0 S1 → K S1 → K' S1) : ∀ (n : Nat) (u : Nat × Int32 × kS), KF [0, 2, 3, 5, 13, 30, 31, 35, 37, 38] [12, 13, 25, 26, 27] [0, 1, 4, 10] [] [] S0 u.2.2 → it (ls_X1_work_2 K) n u → it (ls_X1_work_2 K') n u := by
  intro n
  induction n with
  | zero => exact fun _ _ h => h
  | succ n ih => exact fun u hF h => km_X1_work_2 hk ih hF h
theorem km_X1_work (t0 : Nat) : KmV [0, 2, 3, 5, 13, 30, 31, 35, 37, 38] [12, 13, 25, 26, 27] [0, 1, 4, 10] [] [] (wp_X1_work t0) := by
  intro S0 K K' hk h
  have hF : KF [0, 2, 3, 5, 13, 30, 31, 35, 37, 38] [12, 13, 25, 26, 27] [0, 1, 4, 10] [] [] S0 S0 := KF_rf
  unfold wp_X1_work at h ⊢
  obtain ⟨n9, h⟩ := h
  exact ⟨n9, kml_X1_work_2 hk n9 _ hF h⟩
theorem km_X1_callOff (t0 : Nat) (a0 : Int32) : KmI [0, 2, 3, 5, 13, 14, 15, 30, 31, 35, 37, 38, 39] [12, 13, 25, 26, 27] [0, 1, 4, 10] [] [] (wp_X1_callOff t0 a0) := by
  intro S0 K K' hk h
  have hF : KF [0, 2, 3, 5, 13, 14, 15, 30, 31, 35, 37, 38, 39] [12, 13, 25, 26, 27] [0, 1, 4, 10] [] [] S0 S0 := KF_rf
  unfold wp_X1_callOff at h ⊢
  refine ⟨h.1, ?_⟩
  replace h := h.2
  refine km_X1_has _ _ _ _ _ (fun S1 r1 hG h => ?_) h
  replace hF := KF_t hF hG (by decide) (by decide) (by decide) (by decide) (by decide) (by decide) (by decide) (by decide)
  refine ⟨fun c => ?_, fun c => ?_⟩
  · replace h := h.1 c
    exact hk _ _ hF h
  · replace h := h.2 c
    refine ⟨h.1, ?_⟩
    replace h := h.2
    intro z3 ez3
    replace h := h z3 ez3
    obtain ⟨q4, eq4, h9⟩ := h
    replace h := h9
    clear h9
    refine ⟨q4, eq4, ?_⟩
    refine ⟨h.1, ?_⟩
    replace h := h.2
    refine ⟨h.1, ?_⟩
    replace h := h.2
    intro z5 ez5
    replace h := h z5 ez5
    obtain ⟨q6, eq6, h9⟩ := h
    replace h := h9
    clear h9
    refine ⟨q6, eq6, ?_⟩
    refine ⟨h.1, ?_⟩
    replace h := h.2
    intro z7 ez7
    replace h := h z7 ez7
    refine ⟨fun c => ?_, fun c => ?_⟩
    · replace h := h.1 c
      exact hk _ _ hF h
    · replace h := h.2 c
      refine ⟨h.1, ?_⟩
      replace h := h.2
      intro z9 ez9
      replace h := h z9 ez9
      obtain ⟨q10, eq10, h9⟩ := h
      replace h := h9
      clear h9
      refine ⟨q10, eq10, ?_⟩
      refine ⟨h.1, ?_⟩
      replace h := h.2
      refine ⟨h.1, ?_⟩
      replace h := h.2
      intro z11 ez11
      replace h := h z11 ez11
      obtain ⟨q12, eq12, h9⟩ := h
      replace h := h9
      clear h9
      refine ⟨q12, eq12, ?_⟩
      refine ⟨h.1, ?_⟩
      replace h := h.2
      intro z13 ez13
      replace h := h z13 ez13
      refine ⟨fun c => ?_, fun c => ?_⟩
      · replace h := h.1 c
        refine ⟨h.1, ?_⟩
        replace h := h.2
        intro z15 ez15
        replace h := h z15 ez15
        obtain ⟨q16, eq16, h9⟩ := h
        replace h := h9
        clear h9
        refine ⟨q16, eq16, ?_⟩
        refine ⟨h.1, ?_⟩
        replace h := h.2
        refine ⟨h.1, ?_⟩
        replace h := h.2
        intro z17 ez17
        replace h := h z17 ez17
        refine ⟨h.1, ?_⟩
        replace h := h.2
        refine km_X1_plan _ _ _ _ _ (fun S18 hG h => ?_) h
        replace hF := KF_t hF hG (by decide) (by decide) (by decide) (by decide) (by decide) (by decide) (by decide) (by decide)
        refine ⟨h.1, ?_⟩
        replace h := h.2
        refine km_X1_work _ _ _ _ (fun S19 hG h => ?_) h
        replace hF := KF_t hF hG (by decide) (by decide) (by decide) (by decide) (by decide) (by decide) (by decide) (by decide)
        obtain ⟨q20, eq20, h9⟩ := h
        replace h := h9
        clear h9
        refine ⟨q20, eq20, ?_⟩
        refine ⟨h.1, ?_⟩
        replace h := h.2
        intro z21 ez21
        replace h := h z21 ez21
        refine ⟨fun c => ?_, fun c => ?_⟩
        · replace h := h.1 c
          exact hk _ _ hF h
        · replace h := h.2 c
          refine ⟨h.1, ?_⟩
          replace h := h.2
          refine km_X1_tellParent _ _ _ _ _ (fun S23 hG h => ?_) h
          replace hF := KF_t hF hG (by decide) (by decide) (by decide) (by decide) (by decide) (by decide) (by decide) (by decide)
          refine ⟨h.1, ?_⟩
          replace h := h.2
          refine km_X1_work _ _ _ _ (fun S24 hG h => ?_) h
          replace hF := KF_t hF hG (by decide) (by decide) (by decide) (by decide) (by decide) (by decide) (by decide) (by decide)
          exact hk _ _ hF h
      · replace h := h.2 c
        exact hk _ _ hF h
theorem km_X11_cancel (t0 : Nat) (a0 : Int32) : KmI [0, 2, 3, 5, 13, 14, 15, 30, 31, 35, 37, 38, 39] [12, 13, 25, 26, 27] [0, 1, 4, 10] [] [] (wp_X11_cancel t0 a0) := by
  intro S0 K K' hk h
  have hF : KF [0, 2, 3, 5, 13, 14, 15, 30, 31, 35, 37, 38, 39] [12, 13, 25, 26, 27] [0, 1, 4, 10] [] [] S0 S0 := KF_rf
  unfold wp_X11_cancel at h ⊢
  refine ⟨h.1, ?_⟩
  replace h := h.2
  intro z1 ez1
  replace h := h z1 ez1
  obtain ⟨q2, eq2, h9⟩ := h
  replace h := h9
  clear h9
  refine ⟨q2, eq2, ?_⟩
  refine ⟨h.1, ?_⟩
  replace h := h.2
  refine km_X1_callOff _ _ _ _ _ (fun S3 r3 hG h => ?_) h
  replace hF := KF_t hF hG (by decide) (by decide) (by decide) (by decide) (by decide) (by decide) (by decide) (by decide)
  refine ⟨h.1, ?_⟩
  replace h := h.2
  exact hk _ _ hF h
theorem km_X1_lettersLying_4 {K K' : kS → Int32 → Prop} {k4 k4' : Nat × Int32 × Int32 × kS → Prop} {S0 : kS} (hk : ∀ S1 r1, KF [] [] [] [] [] S0 S1 → K S1 r1 → K' S1 r1) (hk4 : ∀ u : Nat × Int32 × Int32 × kS, KF [] [] [] [] [] S0 u.2.2.2 → k4 u → k4' u) {x0 : Nat} {x1 : Int32} {x2 : Int32} {S : kS} (hF : KF [] [] [] [] [] S0 S) (h : wp_X1_lettersLying_4 K k4 x0 x1 x2 S) : wp_X1_lettersLying_4 K' k4' x0 x1 x2 S := by
  unfold wp_X1_lettersLying_4 at h ⊢
  refine ⟨fun c => ?_, fun c => ?_⟩
  · replace h := h.1 c
    exact hk _ _ hF h
  · replace h := h.2 c
    refine ⟨h.1, ?_⟩
    replace h := h.2
    intro z2 ez2
    replace h := h z2 ez2
    obtain ⟨q3, eq3, h9⟩ := h
    replace h := h9
    clear h9
    refine ⟨q3, eq3, ?_⟩
    refine ⟨h.1, ?_⟩
    replace h := h.2
    refine ⟨h.1, ?_⟩
    replace h := h.2
    intro z4 ez4
    replace h := h z4 ez4
    intro z5 ez5
    replace h := h z5 ez5
    intro z6 ez6
    replace h := h z6 ez6
    exact hk4 _ hF h
theorem kml_X1_lettersLying_4 {K K' : kS → Int32 → Prop} {S0 : kS} (hk : ∀ S1 r1, KF [] [] [] [] [] S0 S1 → K S1 r1 → K' S1 r1) : ∀ (n : Nat) (u : Nat × Int32 × Int32 × kS), KF [] [] [] [] [] S0 u.2.2.2 → it (ls_X1_lettersLying_4 K) n u → it (ls_X1_lettersLying_4 K') n u := by
  intro n
  induction n with
  | zero => exact fun _ _ h => h
  | succ n ih => exact fun u hF h => km_X1_lettersLying_4 hk ih hF h
theorem km_X1_lettersLying (t0 : Nat) : KmI [] [] [] [] [] (wp_X1_lettersLying t0) := by
  intro S0 K K' hk h
  have hF : KF [] [] [] [] [] S0 S0 := KF_rf
  unfold wp_X1_lettersLying at h ⊢
  obtain ⟨n9, h⟩ := h
  exact ⟨n9, kml_X1_lettersLying_4 hk n9 _ hF h⟩
theorem km_X11_count (t0 : Nat) (a0 : Int32) : KmI [] [] [] [] [] (wp_X11_count t0 a0) := by
  intro S0 K K' hk h
  have hF : KF [] [] [] [] [] S0 S0 := KF_rf
  unfold wp_X11_count at h ⊢
  refine ⟨fun c => ?_, fun c => ?_⟩
  · replace h := h.1 c
    refine ⟨h.1, ?_⟩
    replace h := h.2
    intro z2 ez2
    replace h := h z2 ez2
    obtain ⟨q3, eq3, h9⟩ := h
    replace h := h9
    clear h9
    refine ⟨q3, eq3, ?_⟩
    refine ⟨h.1, ?_⟩
    replace h := h.2
    intro z4 ez4
    replace h := h z4 ez4
    exact hk _ _ hF h
  · replace h := h.2 c
    refine ⟨fun c => ?_, fun c => ?_⟩
    · replace h := h.1 c
      refine ⟨h.1, ?_⟩
      replace h := h.2
      intro z6 ez6
      replace h := h z6 ez6
      obtain ⟨q7, eq7, h9⟩ := h
      replace h := h9
      clear h9
      refine ⟨q7, eq7, ?_⟩
      refine ⟨h.1, ?_⟩
      replace h := h.2
      intro z8 ez8
      replace h := h z8 ez8
      exact hk _ _ hF h
    · replace h := h.2 c
      refine ⟨fun c => ?_, fun c => ?_⟩
      · replace h := h.1 c
        refine ⟨h.1, ?_⟩
        replace h := h.2
        intro z10 ez10
        replace h := h z10 ez10
        obtain ⟨q11, eq11, h9⟩ := h
        replace h := h9
        clear h9
        refine ⟨q11, eq11, ?_⟩
        refine ⟨h.1, ?_⟩
        replace h := h.2
        intro z12 ez12
        replace h := h z12 ez12
        exact hk _ _ hF h
      · replace h := h.2 c
        refine ⟨fun c => ?_, fun c => ?_⟩
        · replace h := h.1 c
          refine ⟨h.1, ?_⟩
          replace h := h.2
          intro z14 ez14
          replace h := h z14 ez14
          obtain ⟨q15, eq15, h9⟩ := h
          replace h := h9
          clear h9
          refine ⟨q15, eq15, ?_⟩
          refine ⟨h.1, ?_⟩
          replace h := h.2
          intro z16 ez16
          replace h := h z16 ez16
          exact hk _ _ hF h
        · replace h := h.2 c
          refine ⟨fun c => ?_, fun c => ?_⟩
          · replace h := h.1 c
            refine ⟨h.1, ?_⟩
            replace h := h.2
            intro z18 ez18
            replace h := h z18 ez18
            obtain ⟨q19, eq19, h9⟩ := h
            replace h := h9
            clear h9
            refine ⟨q19, eq19, ?_⟩
            refine ⟨h.1, ?_⟩
            replace h := h.2
            intro z20 ez20
            replace h := h z20 ez20
            refine ⟨h.1, ?_⟩
            replace h := h.2
            intro z21 ez21
            replace h := h z21 ez21
            obtain ⟨q22, eq22, h9⟩ := h
            replace h := h9
            clear h9
            refine ⟨q22, eq22, ?_⟩
            refine ⟨h.1, ?_⟩
            replace h := h.2
            intro z23 ez23
            replace h := h z23 ez23
            intro z24 ez24
            replace h := h z24 ez24
            refine ⟨h.1, ?_⟩
            replace h := h.2
            intro z25 ez25
            replace h := h z25 ez25
            obtain ⟨q26, eq26, h9⟩ := h
            replace h := h9
            clear h9
            refine ⟨q26, eq26, ?_⟩
            refine ⟨h.1, ?_⟩
            replace h := h.2
            intro z27 ez27
            replace h := h z27 ez27
            intro z28 ez28
            replace h := h z28 ez28
            exact hk _ _ hF h
          · replace h := h.2 c
            refine ⟨fun c => ?_, fun c => ?_⟩
            · replace h := h.1 c
              refine ⟨h.1, ?_⟩
              replace h := h.2
              intro z30 ez30
              replace h := h z30 ez30
              obtain ⟨q31, eq31, h9⟩ := h
              replace h := h9
              clear h9
              refine ⟨q31, eq31, ?_⟩
              refine ⟨h.1, ?_⟩
              replace h := h.2
              intro z32 ez32
              replace h := h z32 ez32
              obtain ⟨q33, eq33, h9⟩ := h
              replace h := h9
              clear h9
              refine ⟨q33, eq33, ?_⟩
              refine ⟨h.1, ?_⟩
              replace h := h.2
              intro z34 ez34
              replace h := h z34 ez34
              exact hk _ _ hF h
            · replace h := h.2 c
              refine ⟨fun c => ?_, fun c => ?_⟩
              · replace h := h.1 c
                refine ⟨h.1, ?_⟩
                replace h := h.2
                intro z36 ez36
                replace h := h z36 ez36
                obtain ⟨q37, eq37, h9⟩ := h
                replace h := h9
                clear h9
                refine ⟨q37, eq37, ?_⟩
                refine ⟨h.1, ?_⟩
                replace h := h.2
                intro z38 ez38
                replace h := h z38 ez38
                obtain ⟨q39, eq39, h9⟩ := h
                replace h := h9
                clear h9
                refine ⟨q39, eq39, ?_⟩
                refine ⟨h.1, ?_⟩
                replace h := h.2
                intro z40 ez40
                replace h := h z40 ez40
                exact hk _ _ hF h
              · replace h := h.2 c
                refine ⟨fun c => ?_, fun c => ?_⟩
                · replace h := h.1 c
                  refine ⟨h.1, ?_⟩
                  replace h := h.2
                  intro z42 ez42
                  replace h := h z42 ez42
                  obtain ⟨q43, eq43, h9⟩ := h
                  replace h := h9
                  clear h9
                  refine ⟨q43, eq43, ?_⟩
                  refine ⟨h.1, ?_⟩
                  replace h := h.2
                  intro z44 ez44
                  replace h := h z44 ez44
                  exact hk _ _ hF h
                · replace h := h.2 c
                  refine ⟨fun c => ?_, fun c => ?_⟩
                  · replace h := h.1 c
                    refine ⟨h.1, ?_⟩
                    replace h := h.2
                    intro z46 ez46
                    replace h := h z46 ez46
                    obtain ⟨q47, eq47, h9⟩ := h
                    replace h := h9
                    clear h9
                    refine ⟨q47, eq47, ?_⟩
                    refine ⟨h.1, ?_⟩
                    replace h := h.2
                    intro z48 ez48
                    replace h := h z48 ez48
                    exact hk _ _ hF h
                  · replace h := h.2 c
                    refine ⟨fun c => ?_, fun c => ?_⟩
                    · replace h := h.1 c
                      refine ⟨h.1, ?_⟩
                      replace h := h.2
                      intro z50 ez50
                      replace h := h z50 ez50
                      obtain ⟨q51, eq51, h9⟩ := h
                      replace h := h9
                      clear h9
                      refine ⟨q51, eq51, ?_⟩
                      refine ⟨h.1, ?_⟩
                      replace h := h.2
                      intro z52 ez52
                      replace h := h z52 ez52
                      exact hk _ _ hF h
                    · replace h := h.2 c
                      refine ⟨fun c => ?_, fun c => ?_⟩
                      · replace h := h.1 c
                        refine ⟨h.1, ?_⟩
                        replace h := h.2
                        intro z54 ez54
                        replace h := h z54 ez54
                        obtain ⟨q55, eq55, h9⟩ := h
                        replace h := h9
                        clear h9
                        refine ⟨q55, eq55, ?_⟩
                        refine ⟨h.1, ?_⟩
                        replace h := h.2
                        refine km_X1_lettersLying _ _ _ _ (fun S56 r56 hG h => ?_) h
                        replace hF := KF_t hF hG (by decide) (by decide) (by decide) (by decide) (by decide) (by decide) (by decide) (by decide)
                        exact hk _ _ hF h
                      · replace h := h.2 c
                        refine ⟨fun c => ?_, fun c => ?_⟩
                        · replace h := h.1 c
                          refine ⟨h.1, ?_⟩
                          replace h := h.2
                          intro z58 ez58
                          replace h := h z58 ez58
                          obtain ⟨q59, eq59, h9⟩ := h
                          replace h := h9
                          clear h9
                          refine ⟨q59, eq59, ?_⟩
                          refine ⟨h.1, ?_⟩
                          replace h := h.2
                          intro z60 ez60
                          replace h := h z60 ez60
                          exact hk _ _ hF h
                        · replace h := h.2 c
                          exact hk _ _ hF h
theorem km_X11_feed (t0 : Nat) (a0 : Int64) (a1 : Int64) (a2 : Int64) : KmI [41] [] [67] [] [] (wp_X11_feed t0 a0 a1 a2) := by
  intro S0 K K' hk h
  have hF : KF [41] [] [67] [] [] S0 S0 := KF_rf
  unfold wp_X11_feed at h ⊢
  refine ⟨h.1, ?_⟩
  replace h := h.2
  intro z1 ez1
  replace h := h z1 ez1
  obtain ⟨q2, eq2, h9⟩ := h
  replace h := h9
  clear h9
  refine ⟨q2, eq2, ?_⟩
  refine ⟨h.1, ?_⟩
  replace h := h.2
  refine km_X10_add _ _ _ _ _ (fun S3 hG h => ?_) h
  replace hF := KF_t hF hG (by decide) (by decide) (by decide) (by decide) (by decide) (by decide) (by decide) (by decide)
  refine ⟨h.1, ?_⟩
  replace h := h.2
  intro z4 ez4
  replace h := h z4 ez4
  obtain ⟨q5, eq5, h9⟩ := h
  replace h := h9
  clear h9
  refine ⟨q5, eq5, ?_⟩
  refine ⟨h.1, ?_⟩
  replace h := h.2
  refine km_X10_add _ _ _ _ _ (fun S6 hG h => ?_) h
  replace hF := KF_t hF hG (by decide) (by decide) (by decide) (by decide) (by decide) (by decide) (by decide) (by decide)
  refine ⟨h.1, ?_⟩
  replace h := h.2
  intro z7 ez7
  replace h := h z7 ez7
  obtain ⟨q8, eq8, h9⟩ := h
  replace h := h9
  clear h9
  refine ⟨q8, eq8, ?_⟩
  refine ⟨h.1, ?_⟩
  replace h := h.2
  refine km_X10_add _ _ _ _ _ (fun S9 hG h => ?_) h
  replace hF := KF_t hF hG (by decide) (by decide) (by decide) (by decide) (by decide) (by decide) (by decide) (by decide)
  refine ⟨h.1, ?_⟩
  replace h := h.2
  intro z10 ez10
  replace h := h z10 ez10
  obtain ⟨q11, eq11, h9⟩ := h
  replace h := h9
  clear h9
  refine ⟨q11, eq11, ?_⟩
  refine ⟨h.1, ?_⟩
  replace h := h.2
  intro z12 ez12
  replace h := h z12 ez12
  exact hk _ _ hF h
theorem km_X1_deliver (t0 : Nat) (a0 : Int32) (a1 : Int32) : KmI [0, 2, 3, 5, 13, 14, 15, 30, 31, 35, 37, 38, 39] [12, 13, 25, 26, 27] [0, 1, 4, 5, 6, 10] [] [] (wp_X1_deliver t0 a0 a1) := by
  intro S0 K K' hk h
  have hF : KF [0, 2, 3, 5, 13, 14, 15, 30, 31, 35, 37, 38, 39] [12, 13, 25, 26, 27] [0, 1, 4, 5, 6, 10] [] [] S0 S0 := KF_rf
  unfold wp_X1_deliver at h ⊢
  refine ⟨fun c => ?_, fun c => ?_⟩
  · replace h := h.1 c
    exact hk _ _ hF h
  · replace h := h.2 c
    refine ⟨fun c => ?_, fun c => ?_⟩
    · replace h := h.1 c
      exact hk _ _ hF h
    · replace h := h.2 c
      refine ⟨h.1, ?_⟩
      replace h := h.2
      intro z3 ez3
      replace h := h z3 ez3
      obtain ⟨q4, eq4, h9⟩ := h
      replace h := h9
      clear h9
      refine ⟨q4, eq4, ?_⟩
      refine ⟨h.1, ?_⟩
      replace h := h.2
      refine ⟨h.1, ?_⟩
      replace h := h.2
      intro z5 ez5
      replace h := h z5 ez5
      refine ⟨fun c => ?_, fun c => ?_⟩
      · replace h := h.1 c
        refine ⟨h.1, ?_⟩
        replace h := h.2
        intro z7 ez7
        replace h := h z7 ez7
        obtain ⟨q8, eq8, h9⟩ := h
        replace h := h9
        clear h9
        refine ⟨q8, eq8, ?_⟩
        refine ⟨h.1, ?_⟩
        replace h := h.2
        refine ⟨h.1, ?_⟩
        replace h := h.2
        intro z9 ez9
        replace h := h z9 ez9
        obtain ⟨q10, eq10, h9⟩ := h
        replace h := h9
        clear h9
        refine ⟨q10, eq10, ?_⟩
        refine ⟨h.1, ?_⟩
        replace h := h.2
        intro z11 ez11
        replace h := h z11 ez11
        refine ⟨fun c => ?_, fun q12 c => ?_⟩
        · replace h := h.1 c
          refine ⟨h.1, ?_⟩
          replace h := h.2
          intro z13 ez13
          replace h := h z13 ez13
          have pz13 : ∃ o, S0.2.1 5 o = z13 := ⟨_, by rw [ez13, hF.2.1 5 (by decide)]⟩
          intro z14 ez14
          replace h := h z14 ez14
          refine ⟨h.1, ?_⟩
          replace h := h.2
          intro z15 ez15
          replace h := h z15 ez15
          obtain ⟨q16, eq16, h9⟩ := h
          replace h := h9
          clear h9
          refine ⟨q16, eq16, ?_⟩
          refine ⟨h.1, ?_⟩
          replace h := h.2
          refine ⟨h.1, ?_⟩
          replace h := h.2
          intro z17 ez17
          replace h := h z17 ez17
          intro z18 ez18
          replace h := h z18 ez18
          obtain ⟨q19, eq19, h9⟩ := h
          replace h := h9
          clear h9
          refine ⟨q19, eq19, ?_⟩
          refine ⟨h.1, ?_⟩
          replace h := h.2
          refine ⟨h.1, ?_⟩
          replace h := h.2
          intro S20 eS20
          replace h := h S20 eS20
          replace hF := KF_a (fid := 5) hF eS20 (by decide) (by rw [← eq19]; exact pz13)
          refine ⟨h.1, ?_⟩
          replace h := h.2
          intro z21 ez21
          replace h := h z21 ez21
          have pz21 : ∃ o, S0.2.1 6 o = z21 := ⟨_, by rw [ez21, hF.2.1 6 (by decide)]⟩
          obtain ⟨q22, eq22, h9⟩ := h
          replace h := h9
          clear h9
          refine ⟨q22, eq22, ?_⟩
          refine ⟨h.1, ?_⟩
          replace h := h.2
          refine ⟨h.1, ?_⟩
          replace h := h.2
          intro z23 ez23
          replace h := h z23 ez23
          intro z24 ez24
          replace h := h z24 ez24
          refine ⟨h.1, ?_⟩
          replace h := h.2
          refine ⟨h.1, ?_⟩
          replace h := h.2
          intro S25 eS25
          replace h := h S25 eS25
          replace hF := KF_a (fid := 6) hF eS25 (by decide) (by rw [← eq22]; exact pz21)
          exact hk _ _ hF h
        · replace h := h.2 q12 c
          refine ⟨h.1, ?_⟩
          replace h := h.2
          refine km_X1_report _ _ _ _ _ _ _ (fun S26 hG h => ?_) h
          replace hF := KF_t hF hG (by decide) (by decide) (by decide) (by decide) (by decide) (by decide) (by decide) (by decide)
          refine ⟨h.1, ?_⟩
          replace h := h.2
          refine km_X1_work _ _ _ _ (fun S27 hG h => ?_) h
          replace hF := KF_t hF hG (by decide) (by decide) (by decide) (by decide) (by decide) (by decide) (by decide) (by decide)
          refine ⟨h.1, ?_⟩
          replace h := h.2
          intro z28 ez28
          replace h := h z28 ez28
          obtain ⟨q29, eq29, h9⟩ := h
          replace h := h9
          clear h9
          refine ⟨q29, eq29, ?_⟩
          refine ⟨h.1, ?_⟩
          replace h := h.2
          intro z30 ez30
          replace h := h z30 ez30
          exact hk _ _ hF h
      · replace h := h.2 c
        exact hk _ _ hF h
theorem km_X11_letter (t0 : Nat) (a0 : Int32) (a1 : Int32) : KmI [0, 2, 3, 5, 13, 14, 15, 30, 31, 35, 37, 38, 39] [12, 13, 25, 26, 27] [0, 1, 4, 5, 6, 10] [] [] (wp_X11_letter t0 a0 a1) := by
  intro S0 K K' hk h
  have hF : KF [0, 2, 3, 5, 13, 14, 15, 30, 31, 35, 37, 38, 39] [12, 13, 25, 26, 27] [0, 1, 4, 5, 6, 10] [] [] S0 S0 := KF_rf
  unfold wp_X11_letter at h ⊢
  refine ⟨h.1, ?_⟩
  replace h := h.2
  intro z1 ez1
  replace h := h z1 ez1
  obtain ⟨q2, eq2, h9⟩ := h
  replace h := h9
  clear h9
  refine ⟨q2, eq2, ?_⟩
  refine ⟨h.1, ?_⟩
  replace h := h.2
  refine km_X1_deliver _ _ _ _ _ _ (fun S3 r3 hG h => ?_) h
  replace hF := KF_t hF hG (by decide) (by decide) (by decide) (by decide) (by decide) (by decide) (by decide) (by decide)
  exact hk _ _ hF h
theorem km_X5_has (t0 : Nat) (a0 : Int32) : KmI [] [] [] [] [] (wp_X5_has t0 a0) := by
  intro S0 K K' hk h
  have hF : KF [] [] [] [] [] S0 S0 := KF_rf
  unfold wp_X5_has at h ⊢
  refine ⟨fun c => ?_, fun c => ?_⟩
  · replace h := h.1 c
    exact hk _ _ hF h
  · replace h := h.2 c
    refine ⟨h.1, ?_⟩
    replace h := h.2
    intro z2 ez2
    replace h := h z2 ez2
    refine ⟨fun c => ?_, fun c => ?_⟩
    · replace h := h.1 c
      exact hk _ _ hF h
    · replace h := h.2 c
      exact hk _ _ hF h
theorem km_X5_hasState (t0 : Nat) (a0 : Int32) (a1 : Int32) : KmI [] [] [] [] [] (wp_X5_hasState t0 a0 a1) := by
  intro S0 K K' hk h
  have hF : KF [] [] [] [] [] S0 S0 := KF_rf
  unfold wp_X5_hasState at h ⊢
  refine ⟨h.1, ?_⟩
  replace h := h.2
  refine km_X5_has _ _ _ _ _ (fun S1 r1 hG h => ?_) h
  replace hF := KF_t hF hG (by decide) (by decide) (by decide) (by decide) (by decide) (by decide) (by decide) (by decide)
  refine ⟨fun c => ?_, fun c => ?_⟩
  · replace h := h.1 c
    exact hk _ _ hF h
  · replace h := h.2 c
    refine ⟨fun c => ?_, fun c => ?_⟩
    · replace h := h.1 c
      exact hk _ _ hF h
    · replace h := h.2 c
      refine ⟨h.1, ?_⟩
      replace h := h.2
      intro z4 ez4
      replace h := h z4 ez4
      obtain ⟨q5, eq5, h9⟩ := h
      replace h := h9
      clear h9
      refine ⟨q5, eq5, ?_⟩
      refine ⟨h.1, ?_⟩
      replace h := h.2
      refine ⟨h.1, ?_⟩
      replace h := h.2
      intro z6 ez6
      replace h := h z6 ez6
      refine ⟨fun c => ?_, fun c => ?_⟩
      · replace h := h.1 c
        exact hk _ _ hF h
      · replace h := h.2 c
        exact hk _ _ hF h
theorem km_X7_is (t0 : Nat) (a0 : Int32) (a1 : Int32) : KmI [] [] [] [] [] (wp_X7_is t0 a0 a1) := by
  intro S0 K K' hk h
  have hF : KF [] [] [] [] [] S0 S0 := KF_rf
  unfold wp_X7_is at h ⊢
  refine ⟨h.1, ?_⟩
  replace h := h.2
  intro z1 ez1
  replace h := h z1 ez1
  obtain ⟨q2, eq2, h9⟩ := h
  replace h := h9
  clear h9
  refine ⟨q2, eq2, ?_⟩
  refine ⟨h.1, ?_⟩
  replace h := h.2
  refine ⟨h.1, ?_⟩
  replace h := h.2
  intro z3 ez3
  replace h := h z3 ez3
  intro z4 ez4
  replace h := h z4 ez4
  refine ⟨fun c => ?_, fun c => ?_⟩
  · replace h := h.1 c
    exact hk _ _ hF h
  · replace h := h.2 c
    exact hk _ _ hF h
theorem km_X7_leaveTo_57 {K K' : kS → Int32 → Prop} {k6 k6' : Nat × Int32 × Int32 × Int32 × Int32 × kS → Prop} {S0 : kS} (hk : ∀ S1 r1, KF [] [] [] [] [] S0 S1 → K S1 r1 → K' S1 r1) (hk6 : ∀ u : Nat × Int32 × Int32 × Int32 × Int32 × kS, KF [] [] [] [] [] S0 u.2.2.2.2.2 → k6 u → k6' u) {x0 : Nat} {x2 : Int32} {x3 : Int32} {x5 : Int32} {x6 : Int32} {S : kS} (hF : KF [] [] [] [] [] S0 S) (h : wp_X7_leaveTo_57 K k6 x0 x2 x3 x5 x6 S) : wp_X7_leaveTo_57 K' k6' x0 x2 x3 x5 x6 S := by
  unfold wp_X7_leaveTo_57 at h ⊢
  refine ⟨h.1, ?_⟩
  replace h := h.2
  intro z12 ez12
  replace h := h z12 ez12
  obtain ⟨q13, eq13, h9⟩ := h
  replace h := h9
  clear h9
  refine ⟨q13, eq13, ?_⟩
  refine ⟨h.1, ?_⟩
  replace h := h.2
  refine ⟨h.1, ?_⟩
  replace h := h.2
  intro z14 ez14
  replace h := h z14 ez14
  intro z15 ez15
  replace h := h z15 ez15
  exact hk6 _ hF h
theorem km_X7_leaveTo_6 {K K' : kS → Int32 → Prop} {k6 k6' : Nat × Int32 × Int32 × Int32 × Int32 × kS → Prop} {S0 : kS} (hk : ∀ S1 r1, KF [] [] [] [] [] S0 S1 → K S1 r1 → K' S1 r1) (hk6 : ∀ u : Nat × Int32 × Int32 × Int32 × Int32 × kS, KF [] [] [] [] [] S0 u.2.2.2.2.2 → k6 u → k6' u) {x0 : Nat} {x2 : Int32} {x3 : Int32} {x4 : Int32} {x5 : Int32} {S : kS} (hF : KF [] [] [] [] [] S0 S) (h : wp_X7_leaveTo_6 K k6 x0 x2 x3 x4 x5 S) : wp_X7_leaveTo_6 K' k6' x0 x2 x3 x4 x5 S := by
  unfold wp_X7_leaveTo_6 at h ⊢
  refine ⟨fun c => ?_, fun c => ?_⟩
  · replace h := h.1 c
    exact hk _ _ hF h
  · replace h := h.2 c
    refine ⟨fun c => ?_, fun c => ?_⟩
    · replace h := h.1 c
      exact hk _ _ hF h
    · replace h := h.2 c
      refine ⟨fun c => ?_, fun c => ?_⟩
      · replace h := h.1 c
        exact hk _ _ hF h
      · replace h := h.2 c
        refine ⟨h.1, ?_⟩
        replace h := h.2
        intro z4 ez4
        replace h := h z4 ez4
        refine ⟨h.1, ?_⟩
        replace h := h.2
        intro z5 ez5
        replace h := h z5 ez5
        refine ⟨fun c => ?_, fun c => ?_⟩
        · replace h := h.1 c
          exact km_X7_leaveTo_57 hk hk6 hF h
        · replace h := h.2 c
          refine ⟨h.1, ?_⟩
          replace h := h.2
          refine km_X7_is _ _ _ _ _ _ (fun S7 r7 hG h => ?_) h
          replace hF := KF_t hF hG (by decide) (by decide) (by decide) (by decide) (by decide) (by decide) (by decide) (by decide)
          refine ⟨fun c => ?_, fun c => ?_⟩
          · replace h := h.1 c
            exact km_X7_leaveTo_57 hk hk6 hF h
          · replace h := h.2 c
            refine ⟨h.1, ?_⟩
            replace h := h.2
            intro z9 ez9
            replace h := h z9 ez9
            obtain ⟨q10, eq10, h9⟩ := h
            replace h := h9
            clear h9
            refine ⟨q10, eq10, ?_⟩
            refine ⟨h.1, ?_⟩
            replace h := h.2
            refine ⟨h.1, ?_⟩
            replace h := h.2
            intro z11 ez11
            replace h := h z11 ez11
            exact hk _ _ hF h
theorem kml_X7_leaveTo_6 {K K' : kS → Int32 → Prop} {S0 : kS} (hk : ∀ S1 r1, KF [] [] [] [] [] S0 S1 → K S1 r1 → K' S1 r1) : ∀ (n : Nat) (u : Nat × Int32 × Int32 × Int32 × Int32 × kS), KF [] [] [] [] [] S0 u.2.2.2.2.2 → it (ls_X7_leaveTo_6 K) n u → it (ls_X7_leaveTo_6 K') n u := by
  intro n
  induction n with
  | zero => exact fun _ _ h => h
  | succ n ih => exact fun u hF h => km_X7_leaveTo_6 hk ih hF h
theorem km_X7_leaveTo (t0 : Nat) (a0 : Int32) (a1 : Int32) (a2 : Int32) : KmI [] [] [] [] [] (wp_X7_leaveTo t0 a0 a1 a2) := by
  intro S0 K K' hk h
  have hF : KF [] [] [] [] [] S0 S0 := KF_rf
  unfold wp_X7_leaveTo at h ⊢
  obtain ⟨n9, h⟩ := h
  exact ⟨n9, kml_X7_leaveTo_6 hk n9 _ hF h⟩
theorem km_X7_breakTo (t0 : Nat) (a0 : Int32) (a1 : Int32) : KmI [] [] [] [] [] (wp_X7_breakTo t0 a0 a1) := by
  intro S0 K K' hk h
  have hF : KF [] [] [] [] [] S0 S0 := KF_rf
  unfold wp_X7_breakTo at h ⊢
  refine ⟨h.1, ?_⟩
  replace h := h.2
  intro z1 ez1
  replace h := h z1 ez1
  obtain ⟨q2, eq2, h9⟩ := h
  replace h := h9
  clear h9
  refine ⟨q2, eq2, ?_⟩
  refine ⟨h.1, ?_⟩
  replace h := h.2
  refine ⟨h.1, ?_⟩
  replace h := h.2
  intro z3 ez3
  replace h := h z3 ez3
  refine ⟨h.1, ?_⟩
  replace h := h.2
  intro z4 ez4
  replace h := h z4 ez4
  obtain ⟨q5, eq5, h9⟩ := h
  replace h := h9
  clear h9
  refine ⟨q5, eq5, ?_⟩
  refine ⟨h.1, ?_⟩
  replace h := h.2
  refine ⟨h.1, ?_⟩
  replace h := h.2
  intro z6 ez6
  replace h := h z6 ez6
  refine ⟨h.1, ?_⟩
  replace h := h.2
  refine km_X7_leaveTo _ _ _ _ _ _ _ (fun S7 r7 hG h => ?_) h
  replace hF := KF_t hF hG (by decide) (by decide) (by decide) (by decide) (by decide) (by decide) (by decide) (by decide)
  exact hk _ _ hF h
theorem km_X7_cancelTo (t0 : Nat) (a0 : Int32) (a1 : Int32) : KmI [] [] [] [] [] (wp_X7_cancelTo t0 a0 a1) := by
  intro S0 K K' hk h
  have hF : KF [] [] [] [] [] S0 S0 := KF_rf
  unfold wp_X7_cancelTo at h ⊢
  refine ⟨h.1, ?_⟩
  replace h := h.2
  refine km_X7_leaveTo _ _ _ _ _ _ _ (fun S1 r1 hG h => ?_) h
  replace hF := KF_t hF hG (by decide) (by decide) (by decide) (by decide) (by decide) (by decide) (by decide) (by decide)
  exact hk _ _ hF h
theorem km_X7_continueTo (t0 : Nat) (a0 : Int32) (a1 : Int32) : KmI [] [] [] [] [] (wp_X7_continueTo t0 a0 a1) := by
  intro S0 K K' hk h
  have hF : KF [] [] [] [] [] S0 S0 := KF_rf
  unfold wp_X7_continueTo at h ⊢
  refine ⟨h.1, ?_⟩
  replace h := h.2
  intro z1 ez1
  replace h := h z1 ez1
  obtain ⟨q2, eq2, h9⟩ := h
  replace h := h9
  clear h9
  refine ⟨q2, eq2, ?_⟩
  refine ⟨h.1, ?_⟩
  replace h := h.2
  refine ⟨h.1, ?_⟩
  replace h := h.2
  intro z3 ez3
  replace h := h z3 ez3
  refine ⟨h.1, ?_⟩
  replace h := h.2
  intro z4 ez4
  replace h := h z4 ez4
  obtain ⟨q5, eq5, h9⟩ := h
  replace h := h9
  clear h9
  refine ⟨q5, eq5, ?_⟩
  refine ⟨h.1, ?_⟩
  replace h := h.2
  refine ⟨h.1, ?_⟩
  replace h := h.2
  intro z6 ez6
  replace h := h z6 ez6
  refine ⟨h.1, ?_⟩
  replace h := h.2
  refine km_X7_leaveTo _ _ _ _ _ _ _ (fun S7 r7 hG h => ?_) h
  replace hF := KF_t hF hG (by decide) (by decide) (by decide) (by decide) (by decide) (by decide) (by decide) (by decide)
  exact hk _ _ hF h
theorem km_X7_failureTo_71 {K K' : kS → Int32 → Prop} {k5 k5' : Nat × Int32 × Int32 × Int32 × kS → Prop} {S0 : kS} (hk : ∀ S1 r1, KF [] [] [] [] [] S0 S1 → K S1 r1 → K' S1 r1) (hk5 : ∀ u : Nat × Int32 × Int32 × Int32 × kS, KF [] [] [] [] [] S0 u.2.2.2.2 → k5 u → k5' u) {x0 : Nat} {x2 : Int32} {x4 : Int32} {x5 : Int32} {S : kS} (hF : KF [] [] [] [] [] S0 S) (h : wp_X7_failureTo_71 K k5 x0 x2 x4 x5 S) : wp_X7_failureTo_71 K' k5' x0 x2 x4 x5 S := by
  unfold wp_X7_failureTo_71 at h ⊢
  refine ⟨h.1, ?_⟩
  replace h := h.2
  intro z18 ez18
  replace h := h z18 ez18
  obtain ⟨q19, eq19, h9⟩ := h
  replace h := h9
  clear h9
  refine ⟨q19, eq19, ?_⟩
  refine ⟨h.1, ?_⟩
  replace h := h.2
  refine ⟨h.1, ?_⟩
  replace h := h.2
  intro z20 ez20
  replace h := h z20 ez20
  intro z21 ez21
  replace h := h z21 ez21
  exact hk5 _ hF h
theorem km_X7_failureTo_46 {K K' : kS → Int32 → Prop} {k5 k5' : Nat × Int32 × Int32 × Int32 × kS → Prop} {S0 : kS} (hk : ∀ S1 r1, KF [] [] [] [] [] S0 S1 → K S1 r1 → K' S1 r1) (hk5 : ∀ u : Nat × Int32 × Int32 × Int32 × kS, KF [] [] [] [] [] S0 u.2.2.2.2 → k5 u → k5' u) {x0 : Nat} {x2 : Int32} {x3 : Int32} {x4 : Int32} {x5 : Int32} {S : kS} (hF : KF [] [] [] [] [] S0 S) (h : wp_X7_failureTo_46 K k5 x0 x2 x3 x4 x5 S) : wp_X7_failureTo_46 K' k5' x0 x2 x3 x4 x5 S := by
  unfold wp_X7_failureTo_46 at h ⊢
  refine ⟨h.1, ?_⟩
  replace h := h.2
  intro z11 ez11
  replace h := h z11 ez11
  refine ⟨fun c => ?_, fun c => ?_⟩
  · replace h := h.1 c
    exact km_X7_failureTo_71 hk hk5 hF h
  · replace h := h.2 c
    refine ⟨h.1, ?_⟩
    replace h := h.2
    refine km_X7_is _ _ _ _ _ _ (fun S13 r13 hG h => ?_) h
    replace hF := KF_t hF hG (by decide) (by decide) (by decide) (by decide) (by decide) (by decide) (by decide) (by decide)
    refine ⟨fun c => ?_, fun c => ?_⟩
    · replace h := h.1 c
      exact km_X7_failureTo_71 hk hk5 hF h
    · replace h := h.2 c
      refine ⟨h.1, ?_⟩
      replace h := h.2
      intro z15 ez15
      replace h := h z15 ez15
      obtain ⟨q16, eq16, h9⟩ := h
      replace h := h9
      clear h9
      refine ⟨q16, eq16, ?_⟩
      refine ⟨h.1, ?_⟩
      replace h := h.2
      refine ⟨h.1, ?_⟩
      replace h := h.2
      intro z17 ez17
      replace h := h z17 ez17
      exact hk _ _ hF h
theorem km_X7_failureTo_5 {K K' : kS → Int32 → Prop} {k5 k5' : Nat × Int32 × Int32 × Int32 × kS → Prop} {S0 : kS} (hk : ∀ S1 r1, KF [] [] [] [] [] S0 S1 → K S1 r1 → K' S1 r1) (hk5 : ∀ u : Nat × Int32 × Int32 × Int32 × kS, KF [] [] [] [] [] S0 u.2.2.2.2 → k5 u → k5' u) {x0 : Nat} {x2 : Int32} {x3 : Int32} {x4 : Int32} {S : kS} (hF : KF [] [] [] [] [] S0 S) (h : wp_X7_failureTo_5 K k5 x0 x2 x3 x4 S) : wp_X7_failureTo_5 K' k5' x0 x2 x3 x4 S := by
  unfold wp_X7_failureTo_5 at h ⊢
  refine ⟨fun c => ?_, fun c => ?_⟩
  · replace h := h.1 c
    exact hk _ _ hF h
  · replace h := h.2 c
    refine ⟨fun c => ?_, fun c => ?_⟩
    · replace h := h.1 c
      exact hk _ _ hF h
    · replace h := h.2 c
      refine ⟨h.1, ?_⟩
      replace h := h.2
      intro z3 ez3
      replace h := h z3 ez3
      refine ⟨h.1, ?_⟩
      replace h := h.2
      intro z4 ez4
      replace h := h z4 ez4
      refine ⟨fun c => ?_, fun c => ?_⟩
      · replace h := h.1 c
        exact km_X7_failureTo_46 hk hk5 hF h
      · replace h := h.2 c
        refine ⟨h.1, ?_⟩
        replace h := h.2
        refine km_X7_is _ _ _ _ _ _ (fun S6 r6 hG h => ?_) h
        replace hF := KF_t hF hG (by decide) (by decide) (by decide) (by decide) (by decide) (by decide) (by decide) (by decide)
        refine ⟨fun c => ?_, fun c => ?_⟩
        · replace h := h.1 c
          exact km_X7_failureTo_46 hk hk5 hF h
        · replace h := h.2 c
          refine ⟨h.1, ?_⟩
          replace h := h.2
          intro z8 ez8
          replace h := h z8 ez8
          obtain ⟨q9, eq9, h9⟩ := h
          replace h := h9
          clear h9
          refine ⟨q9, eq9, ?_⟩
          refine ⟨h.1, ?_⟩
          replace h := h.2
          refine ⟨h.1, ?_⟩
          replace h := h.2
          intro z10 ez10
          replace h := h z10 ez10
          exact hk _ _ hF h
theorem kml_X7_failureTo_5 {K K' : kS → Int32 → Prop} {S0 : kS} (hk : ∀ S1 r1, KF [] [] [] [] [] S0 S1 → K S1 r1 → K' S1 r1) : ∀ (n : Nat) (u : Nat × Int32 × Int32 × Int32 × kS), KF [] [] [] [] [] S0 u.2.2.2.2 → it (ls_X7_failureTo_5 K) n u → it (ls_X7_failureTo_5 K') n u := by
  intro n
  induction n with
  | zero => exact fun _ _ h => h
  | succ n ih => exact fun u hF h => km_X7_failureTo_5 hk ih hF h
theorem km_X7_failureTo (t0 : Nat) (a0 : Int32) (a1 : Int32) : KmI [] [] [] [] [] (wp_X7_failureTo t0 a0 a1) := by
  intro S0 K K' hk h
  have hF : KF [] [] [] [] [] S0 S0 := KF_rf
  unfold wp_X7_failureTo at h ⊢
  obtain ⟨n9, h⟩ := h
  exact ⟨n9, kml_X7_failureTo_5 hk n9 _ hF h⟩
theorem km_X8_reach (t0 : Nat) (a0 : Int32) : KmV [26] [] [53, 54] [] [] (wp_X8_reach t0 a0) := by
  intro S0 K K' hk h
  have hF : KF [26] [] [53, 54] [] [] S0 S0 := KF_rf
  unfold wp_X8_reach at h ⊢
  refine ⟨fun c => ?_, fun c => ?_⟩
  · replace h := h.1 c
    exact hk _ hF h
  · replace h := h.2 c
    refine ⟨h.1, ?_⟩
    replace h := h.2
    intro z2 ez2
    replace h := h z2 ez2
    obtain ⟨q3, eq3, h9⟩ := h
    replace h := h9
    clear h9
    refine ⟨q3, eq3, ?_⟩
    refine ⟨h.1, ?_⟩
    replace h := h.2
    intro z4 ez4
    replace h := h z4 ez4
    refine ⟨fun c => ?_, fun c => ?_⟩
    · replace h := h.1 c
      exact hk _ hF h
    · replace h := h.2 c
      refine ⟨h.1, ?_⟩
      replace h := h.2
      intro z6 ez6
      replace h := h z6 ez6
      obtain ⟨q7, eq7, h9⟩ := h
      replace h := h9
      clear h9
      refine ⟨q7, eq7, ?_⟩
      refine ⟨h.1, ?_⟩
      replace h := h.2
      refine ⟨h.1, ?_⟩
      replace h := h.2
      intro z8 ez8
      replace h := h z8 ez8
      refine ⟨h.1, ?_⟩
      replace h := h.2
      intro z9 ez9
      replace h := h z9 ez9
      refine ⟨fun c => ?_, fun c => ?_⟩
      · replace h := h.1 c
        exact hk _ hF h
      · replace h := h.2 c
        refine ⟨h.1, ?_⟩
        replace h := h.2
        intro z11 ez11
        replace h := h z11 ez11
        have pz11 : ∃ o, S0.2.1 53 o = z11 := ⟨_, by rw [ez11, hF.2.1 53 (by decide)]⟩
        refine ⟨h.1, ?_⟩
        replace h := h.2
        intro z12 ez12
        replace h := h z12 ez12
        obtain ⟨q13, eq13, h9⟩ := h
        replace h := h9
        clear h9
        refine ⟨q13, eq13, ?_⟩
        refine ⟨h.1, ?_⟩
        replace h := h.2
        refine ⟨h.1, ?_⟩
        replace h := h.2
        intro S14 eS14
        replace h := h S14 eS14
        replace hF := KF_a (fid := 53) hF eS14 (by decide) (by rw [← eq13]; exact pz11)
        refine ⟨h.1, ?_⟩
        replace h := h.2
        intro z15 ez15
        replace h := h z15 ez15
        have pz15 : ∃ o, S0.2.1 54 o = z15 := ⟨_, by rw [ez15, hF.2.1 54 (by decide)]⟩
        refine ⟨h.1, ?_⟩
        replace h := h.2
        intro z16 ez16
        replace h := h z16 ez16
        obtain ⟨q17, eq17, h9⟩ := h
        replace h := h9
        clear h9
        refine ⟨q17, eq17, ?_⟩
        refine ⟨h.1, ?_⟩
        replace h := h.2
        refine ⟨h.1, ?_⟩
        replace h := h.2
        intro S18 eS18
        replace h := h S18 eS18
        replace hF := KF_a (fid := 54) hF eS18 (by decide) (by rw [← eq17]; exact pz15)
        refine ⟨h.1, ?_⟩
        replace h := h.2
        intro z19 ez19
        replace h := h z19 ez19
        intro z20 ez20
        replace h := h z20 ez20
        refine ⟨h.1, ?_⟩
        replace h := h.2
        intro S21 eS21
        replace h := h S21 eS21
        replace hF := KF_i hF eS21 (by decide)
        exact hk _ hF h
theorem km_X8_followFinish_82 {K K' : kS → Prop} {S0 : kS} (hk : ∀ S1, KF [26] [] [53, 54] [] [] S0 S1 → K S1 → K' S1) {x0 : Nat} {x1 : Int32} {x3 : Nat} {x4 : Int32} {x5 : Int32} {S : kS} (hF : KF [26] [] [53, 54] [] [] S0 S) (h : wp_X8_followFinish_82 K x0 x1 x3 x4 x5 S) : wp_X8_followFinish_82 K' x0 x1 x3 x4 x5 S := by
  unfold wp_X8_followFinish_82 at h ⊢
  refine ⟨fun c => ?_, fun c => ?_⟩
  · replace h := h.1 c
    exact hk _ hF h
  · replace h := h.2 c
    refine ⟨h.1, ?_⟩
    replace h := h.2
    refine km_X7_is _ _ _ _ _ _ (fun S25 r25 hG h => ?_) h
    replace hF := KF_t hF hG (by decide) (by decide) (by decide) (by decide) (by decide) (by decide) (by decide) (by decide)
    refine ⟨fun c => ?_, fun c => ?_⟩
    · replace h := h.1 c
      exact hk _ hF h
    · replace h := h.2 c
      refine ⟨h.1, ?_⟩
      replace h := h.2
      refine km_X7_continueTo _ _ _ _ _ _ (fun S27 r27 hG h => ?_) h
      replace hF := KF_t hF hG (by decide) (by decide) (by decide) (by decide) (by decide) (by decide) (by decide) (by decide)
      refine ⟨h.1, ?_⟩
      replace h := h.2
      refine km_X8_reach _ _ _ _ _ (fun S28 hG h => ?_) h
      replace hF := KF_t hF hG (by decide) (by decide) (by decide) (by decide) (by decide) (by decide) (by decide) (by decide)
      exact hk _ hF h
theorem km_X8_followFinish (t0 : Nat) (a0 : Int32) (a1 : Int32) : KmV [26] [] [53, 54] [] [] (wp_X8_followFinish t0 a0 a1) := by
  intro S0 K K' hk h
  have hF : KF [26] [] [53, 54] [] [] S0 S0 := KF_rf
  unfold wp_X8_followFinish at h ⊢
  refine ⟨h.1, ?_⟩
  replace h := h.2
  intro z1 ez1
  replace h := h z1 ez1
  obtain ⟨q2, eq2, h9⟩ := h
  replace h := h9
  clear h9
  refine ⟨q2, eq2, ?_⟩
  refine ⟨h.1, ?_⟩
  replace h := h.2
  intro z3 ez3
  replace h := h z3 ez3
  obtain ⟨q4, eq4, h9⟩ := h
  replace h := h9
  clear h9
  refine ⟨q4, eq4, ?_⟩
  refine ⟨h.1, ?_⟩
  replace h := h.2
  intro z5 ez5
  replace h := h z5 ez5
  obtain ⟨q6, eq6, h9⟩ := h
  replace h := h9
  clear h9
  refine ⟨q6, eq6, ?_⟩
  refine ⟨h.1, ?_⟩
  replace h := h.2
  refine ⟨h.1, ?_⟩
  replace h := h.2
  intro z7 ez7
  replace h := h z7 ez7
  refine ⟨h.1, ?_⟩
  replace h := h.2
  intro z8 ez8
  replace h := h z8 ez8
  obtain ⟨q9, eq9, h9⟩ := h
  replace h := h9
  clear h9
  refine ⟨q9, eq9, ?_⟩
  refine ⟨h.1, ?_⟩
  replace h := h.2
  refine ⟨h.1, ?_⟩
  replace h := h.2
  intro z10 ez10
  replace h := h z10 ez10
  refine ⟨h.1, ?_⟩
  replace h := h.2
  intro z11 ez11
  replace h := h z11 ez11
  obtain ⟨q12, eq12, h9⟩ := h
  replace h := h9
  clear h9
  refine ⟨q12, eq12, ?_⟩
  refine ⟨h.1, ?_⟩
  replace h := h.2
  refine ⟨h.1, ?_⟩
  replace h := h.2
  intro z13 ez13
  replace h := h z13 ez13
  refine ⟨h.1, ?_⟩
  replace h := h.2
  refine km_X8_reach _ _ _ _ _ (fun S14 hG h => ?_) h
  replace hF := KF_t hF hG (by decide) (by decide) (by decide) (by decide) (by decide) (by decide) (by decide) (by decide)
  refine ⟨h.1, ?_⟩
  replace h := h.2
  refine km_X7_failureTo _ _ _ _ _ _ (fun S15 r15 hG h => ?_) h
  replace hF := KF_t hF hG (by decide) (by decide) (by decide) (by decide) (by decide) (by decide) (by decide) (by decide)
  refine ⟨h.1, ?_⟩
  replace h := h.2
  refine km_X8_reach _ _ _ _ _ (fun S16 hG h => ?_) h
  replace hF := KF_t hF hG (by decide) (by decide) (by decide) (by decide) (by decide) (by decide) (by decide) (by decide)
  refine ⟨h.1, ?_⟩
  replace h := h.2
  refine km_X7_cancelTo _ _ _ _ _ _ (fun S17 r17 hG h => ?_) h
  replace hF := KF_t hF hG (by decide) (by decide) (by decide) (by decide) (by decide) (by decide) (by decide) (by decide)
  refine ⟨h.1, ?_⟩
  replace h := h.2
  refine km_X8_reach _ _ _ _ _ (fun S18 hG h => ?_) h
  replace hF := KF_t hF hG (by decide) (by decide) (by decide) (by decide) (by decide) (by decide) (by decide) (by decide)
  refine ⟨fun c => ?_, fun c => ?_⟩
  · replace h := h.1 c
    exact km_X8_followFinish_82 hk hF h
  · replace h := h.2 c
    refine ⟨h.1, ?_⟩
    replace h := h.2
    refine km_X7_is _ _ _ _ _ _ (fun S20 r20 hG h => ?_) h
    replace hF := KF_t hF hG (by decide) (by decide) (by decide) (by decide) (by decide) (by decide) (by decide) (by decide)
    refine ⟨fun c => ?_, fun c => ?_⟩
    · replace h := h.1 c
      exact km_X8_followFinish_82 hk hF h
    · replace h := h.2 c
      refine ⟨h.1, ?_⟩
      replace h := h.2
      refine km_X7_breakTo _ _ _ _ _ _ (fun S22 r22 hG h => ?_) h
      replace hF := KF_t hF hG (by decide) (by decide) (by decide) (by decide) (by decide) (by decide) (by decide) (by decide)
      refine ⟨h.1, ?_⟩
      replace h := h.2
      refine km_X8_reach _ _ _ _ _ (fun S23 hG h => ?_) h
      replace hF := KF_t hF hG (by decide) (by decide) (by decide) (by decide) (by decide) (by decide) (by decide) (by decide)
      exact km_X8_followFinish_82 hk hF h
