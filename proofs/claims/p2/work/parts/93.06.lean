
theorem km_X6_leave_295 {K K' : kS → Prop} {S0 : kS} (hk : ∀ S1, KF [22, 23, 31, 32, 36] [] [59, 60] [] [] S0 S1 → K S1 → K' S1) {y0 : Nat} {y1 : Nat} {y2 : Int32} {S : kS} (hF : KF [22, 23, 31, 32, 36] [] [59, 60] [] [] S0 S) (h : wp_X6_leave_295 K y0 y1 y2 S) : wp_X6_leave_295 K' y0 y1 y2 S := by
  unfold wp_X6_leave_295 at h ⊢
  refine ⟨h.1, ?_⟩
  replace h := h.2
  refine km_X6_end _ _ _ _ _ _ _ (fun S68 hG h => ?_) h
  replace hF := KF_t hF hG (by decide) (by decide) (by decide) (by decide) (by decide) (by decide) (by decide) (by decide)
  exact hk _ hF h
theorem km_X6_leave_230 {K K' : kS → Prop} {S0 : kS} (hk : ∀ S1, KF [22, 23, 31, 32, 36] [] [59, 60] [] [] S0 S1 → K S1 → K' S1) {x0 : Nat} {x1 : Nat} {x3 : Int32} {x5 : Option Nat} {x6 : Int32} {x8 : Int32} {S : kS} (hF : KF [22, 23, 31, 32, 36] [] [59, 60] [] [] S0 S) (h : wp_X6_leave_230 K x0 x1 x3 x5 x6 x8 S) : wp_X6_leave_230 K' x0 x1 x3 x5 x6 x8 S := by
  unfold wp_X6_leave_230 at h ⊢
  refine ⟨fun c => ?_, fun c => ?_⟩
  · replace h := h.1 c
    refine ⟨fun c => ?_, fun c => ?_⟩
    · replace h := h.1 c
      refine ⟨fun c => ?_, fun c => ?_⟩
      · replace h := h.1 c
        exact km_X6_leave_295 hk hF h
      · replace h := h.2 c
        exact km_X6_leave_295 hk hF h
    · replace h := h.2 c
      refine ⟨h.1, ?_⟩
      replace h := h.2
      refine km_X6_end _ _ _ _ _ _ _ (fun S56 hG h => ?_) h
      replace hF := KF_t hF hG (by decide) (by decide) (by decide) (by decide) (by decide) (by decide) (by decide) (by decide)
      exact hk _ hF h
  · replace h := h.2 c
    refine ⟨fun c => ?_, fun c => ?_⟩
    · replace h := h.1 c
      obtain ⟨q58, eq58, h9⟩ := h
      replace h := h9
      clear h9
      refine ⟨q58, eq58, ?_⟩
      refine ⟨h.1, ?_⟩
      replace h := h.2
      intro z59 ez59
      replace h := h z59 ez59
      obtain ⟨q60, eq60, h9⟩ := h
      replace h := h9
      clear h9
      refine ⟨q60, eq60, ?_⟩
      refine ⟨h.1, ?_⟩
      replace h := h.2
      refine ⟨h.1, ?_⟩
      replace h := h.2
      intro z61 ez61
      replace h := h z61 ez61
      refine ⟨h.1, ?_⟩
      replace h := h.2
      intro S62 eS62
      replace h := h S62 eS62
      replace hF := KF_i hF eS62 (by decide)
      exact hk _ hF h
    · replace h := h.2 c
      obtain ⟨q63, eq63, h9⟩ := h
      replace h := h9
      clear h9
      refine ⟨q63, eq63, ?_⟩
      refine ⟨h.1, ?_⟩
      replace h := h.2
      intro z64 ez64
      replace h := h z64 ez64
      obtain ⟨q65, eq65, h9⟩ := h
      replace h := h9
      clear h9
      refine ⟨q65, eq65, ?_⟩
      refine ⟨h.1, ?_⟩
      replace h := h.2
      refine ⟨h.1, ?_⟩
      replace h := h.2
      intro z66 ez66
      replace h := h z66 ez66
      refine ⟨h.1, ?_⟩
      replace h := h.2
      intro S67 eS67
      replace h := h S67 eS67
      replace hF := KF_i hF eS67 (by decide)
      exact hk _ hF h
theorem km_X6_leave_214 {K K' : kS → Prop} {k57 k57' : Nat × Nat × Int32 × Option Nat × Int32 × Int32 × Int32 × Int32 × Int32 × kS → Prop} {S0 : kS} (hk : ∀ S1, KF [22, 23, 31, 32, 36] [] [59, 60] [] [] S0 S1 → K S1 → K' S1) (hk57 : ∀ u : Nat × Nat × Int32 × Option Nat × Int32 × Int32 × Int32 × Int32 × Int32 × kS, KF [22, 23, 31, 32, 36] [] [59, 60] [] [] S0 u.2.2.2.2.2.2.2.2.2 → k57 u → k57' u) {x0 : Nat} {x1 : Nat} {x3 : Int32} {x5 : Nat} {x6 : Int32} {x7 : Int32} {x8 : Int32} {x10 : Int32} {x11 : Int32} {S : kS} (hF : KF [22, 23, 31, 32, 36] [] [59, 60] [] [] S0 S) (h : wp_X6_leave_214 K k57 x0 x1 x3 x5 x6 x7 x8 x10 x11 S) : wp_X6_leave_214 K' k57' x0 x1 x3 x5 x6 x7 x8 x10 x11 S := by
  unfold wp_X6_leave_214 at h ⊢
  refine ⟨h.1, ?_⟩
  replace h := h.2
  intro z37 ez37
  replace h := h z37 ez37
  obtain ⟨q38, eq38, h9⟩ := h
  replace h := h9
  clear h9
  refine ⟨q38, eq38, ?_⟩
  refine ⟨h.1, ?_⟩
  replace h := h.2
  refine ⟨h.1, ?_⟩
  replace h := h.2
  intro z39 ez39
  replace h := h z39 ez39
  intro z40 ez40
  replace h := h z40 ez40
  exact hk57 _ hF h
theorem km_X6_leave_173 {K K' : kS → Prop} {k57 k57' : Nat × Nat × Int32 × Option Nat × Int32 × Int32 × Int32 × Int32 × Int32 × kS → Prop} {S0 : kS} (hk : ∀ S1, KF [22, 23, 31, 32, 36] [] [59, 60] [] [] S0 S1 → K S1 → K' S1) (hk57 : ∀ u : Nat × Nat × Int32 × Option Nat × Int32 × Int32 × Int32 × Int32 × Int32 × kS, KF [22, 23, 31, 32, 36] [] [59, 60] [] [] S0 u.2.2.2.2.2.2.2.2.2 → k57 u → k57' u) {x0 : Nat} {x1 : Nat} {x3 : Int32} {x5 : Nat} {x6 : Int32} {x7 : Int32} {x8 : Int32} {x10 : Int32} {x11 : Int32} {x13 : Int32} {S : kS} (hF : KF [22, 23, 31, 32, 36] [] [59, 60] [] [] S0 S) (h : wp_X6_leave_173 K k57 x0 x1 x3 x5 x6 x7 x8 x10 x11 x13 S) : wp_X6_leave_173 K' k57' x0 x1 x3 x5 x6 x7 x8 x10 x11 x13 S := by
  unfold wp_X6_leave_173 at h ⊢
  refine ⟨h.1, ?_⟩
  replace h := h.2
  refine km_X7_is _ _ _ _ _ _ (fun S41 r41 hG h => ?_) h
  replace hF := KF_t hF hG (by decide) (by decide) (by decide) (by decide) (by decide) (by decide) (by decide) (by decide)
  refine ⟨fun c => ?_, fun c => ?_⟩
  · replace h := h.1 c
    exact km_X6_leave_214 hk hk57 hF h
  · replace h := h.2 c
    refine ⟨h.1, ?_⟩
    replace h := h.2
    intro z43 ez43
    replace h := h z43 ez43
    have pz43 : ∃ o, S0.2.1 59 o = z43 := ⟨_, by rw [ez43, hF.2.1 59 (by decide)]⟩
    obtain ⟨q44, eq44, h9⟩ := h
    replace h := h9
    clear h9
    refine ⟨q44, eq44, ?_⟩
    refine ⟨h.1, ?_⟩
    replace h := h.2
    refine ⟨h.1, ?_⟩
    replace h := h.2
    intro S45 eS45
    replace h := h S45 eS45
    replace hF := KF_a (fid := 59) hF eS45 (by decide) (by rw [← eq44]; exact pz43)
    refine ⟨h.1, ?_⟩
    replace h := h.2
    intro z46 ez46
    replace h := h z46 ez46
    have pz46 : ∃ o, S0.2.1 60 o = z46 := ⟨_, by rw [ez46, hF.2.1 60 (by decide)]⟩
    obtain ⟨q47, eq47, h9⟩ := h
    replace h := h9
    clear h9
    refine ⟨q47, eq47, ?_⟩
    refine ⟨h.1, ?_⟩
    replace h := h.2
    refine ⟨h.1, ?_⟩
    replace h := h.2
    intro S48 eS48
    replace h := h S48 eS48
    replace hF := KF_a (fid := 60) hF eS48 (by decide) (by rw [← eq47]; exact pz46)
    refine ⟨h.1, ?_⟩
    replace h := h.2
    intro z49 ez49
    replace h := h z49 ez49
    obtain ⟨q50, eq50, h9⟩ := h
    replace h := h9
    clear h9
    refine ⟨q50, eq50, ?_⟩
    refine ⟨h.1, ?_⟩
    replace h := h.2
    refine ⟨h.1, ?_⟩
    replace h := h.2
    intro z51 ez51
    replace h := h z51 ez51
    refine ⟨h.1, ?_⟩
    replace h := h.2
    intro S52 eS52
    replace h := h S52 eS52
    replace hF := KF_i hF eS52 (by decide)
    exact hk _ hF h
theorem km_X6_leave_128 {K K' : kS → Prop} {k57 k57' : Nat × Nat × Int32 × Option Nat × Int32 × Int32 × Int32 × Int32 × Int32 × kS → Prop} {S0 : kS} (hk : ∀ S1, KF [22, 23, 31, 32, 36] [] [59, 60] [] [] S0 S1 → K S1 → K' S1) (hk57 : ∀ u : Nat × Nat × Int32 × Option Nat × Int32 × Int32 × Int32 × Int32 × Int32 × kS, KF [22, 23, 31, 32, 36] [] [59, 60] [] [] S0 u.2.2.2.2.2.2.2.2.2 → k57 u → k57' u) {x0 : Nat} {x1 : Nat} {x3 : Int32} {x5 : Nat} {x6 : Int32} {x7 : Int32} {x10 : Int32} {x11 : Int32} {y0 : Int32} {S : kS} (hF : KF [22, 23, 31, 32, 36] [] [59, 60] [] [] S0 S) (h : wp_X6_leave_128 K k57 x0 x1 x3 x5 x6 x7 x10 x11 y0 S) : wp_X6_leave_128 K' k57' x0 x1 x3 x5 x6 x7 x10 x11 y0 S := by
  unfold wp_X6_leave_128 at h ⊢
  exact km_X6_leave_214 hk hk57 hF h
theorem km_X6_leave_126 {K K' : kS → Prop} {k57 k57' : Nat × Nat × Int32 × Option Nat × Int32 × Int32 × Int32 × Int32 × Int32 × kS → Prop} {S0 : kS} (hk : ∀ S1, KF [22, 23, 31, 32, 36] [] [59, 60] [] [] S0 S1 → K S1 → K' S1) (hk57 : ∀ u : Nat × Nat × Int32 × Option Nat × Int32 × Int32 × Int32 × Int32 × Int32 × kS, KF [22, 23, 31, 32, 36] [] [59, 60] [] [] S0 u.2.2.2.2.2.2.2.2.2 → k57 u → k57' u) {x0 : Nat} {x1 : Nat} {x3 : Int32} {x5 : Nat} {x6 : Int32} {x7 : Int32} {x8 : Int32} {x10 : Int32} {x11 : Int32} {S : kS} (hF : KF [22, 23, 31, 32, 36] [] [59, 60] [] [] S0 S) (h : wp_X6_leave_126 K k57 x0 x1 x3 x5 x6 x7 x8 x10 x11 S) : wp_X6_leave_126 K' k57' x0 x1 x3 x5 x6 x7 x8 x10 x11 S := by
  unfold wp_X6_leave_126 at h ⊢
  exact km_X6_leave_128 hk hk57 hF h
theorem km_X6_leave_57 {K K' : kS → Prop} {k57 k57' : Nat × Nat × Int32 × Option Nat × Int32 × Int32 × Int32 × Int32 × Int32 × kS → Prop} {S0 : kS} (hk : ∀ S1, KF [22, 23, 31, 32, 36] [] [59, 60] [] [] S0 S1 → K S1 → K' S1) (hk57 : ∀ u : Nat × Nat × Int32 × Option Nat × Int32 × Int32 × Int32 × Int32 × Int32 × kS, KF [22, 23, 31, 32, 36] [] [59, 60] [] [] S0 u.2.2.2.2.2.2.2.2.2 → k57 u → k57' u) {x0 : Nat} {x1 : Nat} {x3 : Int32} {x5 : Option Nat} {x6 : Int32} {x7 : Int32} {x8 : Int32} {x9 : Int32} {x10 : Int32} {S : kS} (hF : KF [22, 23, 31, 32, 36] [] [59, 60] [] [] S0 S) (h : wp_X6_leave_57 K k57 x0 x1 x3 x5 x6 x7 x8 x9 x10 S) : wp_X6_leave_57 K' k57' x0 x1 x3 x5 x6 x7 x8 x9 x10 S := by
  unfold wp_X6_leave_57 at h ⊢
  refine ⟨fun c => ?_, fun c => ?_⟩
  · replace h := h.1 c
    exact km_X6_leave_230 hk hF h
  · replace h := h.2 c
    refine ⟨fun c => ?_, fun c => ?_⟩
    · replace h := h.1 c
      exact km_X6_leave_230 hk hF h
    · replace h := h.2 c
      refine ⟨fun c => ?_, fun c => ?_⟩
      · replace h := h.1 c
        exact km_X6_leave_230 hk hF h
      · replace h := h.2 c
        refine ⟨h.1, ?_⟩
        replace h := h.2
        intro z16 ez16
        replace h := h z16 ez16
        refine ⟨h.1, ?_⟩
        replace h := h.2
        intro z17 ez17
        replace h := h z17 ez17
        obtain ⟨q18, eq18, h9⟩ := h
        replace h := h9
        clear h9
        refine ⟨q18, eq18, ?_⟩
        refine ⟨h.1, ?_⟩
        replace h := h.2
        intro z19 ez19
        replace h := h z19 ez19
        obtain ⟨q20, eq20, h9⟩ := h
        replace h := h9
        clear h9
        refine ⟨q20, eq20, ?_⟩
        refine ⟨h.1, ?_⟩
        replace h := h.2
        refine ⟨h.1, ?_⟩
        replace h := h.2
        intro z21 ez21
        replace h := h z21 ez21
        refine ⟨fun c => ?_, fun c => ?_⟩
        · replace h := h.1 c
          refine ⟨fun c => ?_, fun c => ?_⟩
          · replace h := h.1 c
            exact km_X6_leave_173 hk hk57 hF h
          · replace h := h.2 c
            refine ⟨fun c => ?_, fun c => ?_⟩
            · replace h := h.1 c
              exact km_X6_leave_173 hk hk57 hF h
            · replace h := h.2 c
              refine ⟨h.1, ?_⟩
              replace h := h.2
              refine km_X7_is _ _ _ _ _ _ (fun S25 r25 hG h => ?_) h
              replace hF := KF_t hF hG (by decide) (by decide) (by decide) (by decide) (by decide) (by decide) (by decide) (by decide)
              refine ⟨fun c => ?_, fun c => ?_⟩
              · replace h := h.1 c
                exact km_X6_leave_173 hk hk57 hF h
              · replace h := h.2 c
                refine ⟨h.1, ?_⟩
                replace h := h.2
                intro S27 eS27
                replace h := h S27 eS27
                replace hF := KF_i hF eS27 (by decide)
                refine ⟨h.1, ?_⟩
                replace h := h.2
                intro z28 ez28
                replace h := h z28 ez28
                obtain ⟨q29, eq29, h9⟩ := h
                replace h := h9
                clear h9
                refine ⟨q29, eq29, ?_⟩
                refine ⟨h.1, ?_⟩
                replace h := h.2
                refine ⟨h.1, ?_⟩
                replace h := h.2
                intro z30 ez30
                replace h := h z30 ez30
                refine ⟨h.1, ?_⟩
                replace h := h.2
                intro S31 eS31
                replace h := h S31 eS31
                replace hF := KF_i hF eS31 (by decide)
                exact hk _ hF h
        · replace h := h.2 c
          refine ⟨fun c => ?_, fun c => ?_⟩
          · replace h := h.1 c
            exact km_X6_leave_126 hk hk57 hF h
          · replace h := h.2 c
            refine ⟨h.1, ?_⟩
            replace h := h.2
            intro z33 ez33
            replace h := h z33 ez33
            obtain ⟨q34, eq34, h9⟩ := h
            replace h := h9
            clear h9
            refine ⟨q34, eq34, ?_⟩
            refine ⟨h.1, ?_⟩
            replace h := h.2
            refine ⟨h.1, ?_⟩
            replace h := h.2
            intro z35 ez35
            replace h := h z35 ez35
            refine ⟨fun c => ?_, fun c => ?_⟩
            · replace h := h.1 c
              exact km_X6_leave_126 hk hk57 hF h
            · replace h := h.2 c
              exact km_X6_leave_128 hk hk57 hF h
theorem kml_X6_leave_57 {K K' : kS → Prop} {S0 : kS} (hk : ∀ S1, KF [22, 23, 31, 32, 36] [] [59, 60] [] [] S0 S1 → K S1 → K' S1) : ∀ (n : Nat) (u : Nat × Nat × Int32 × Option Nat × Int32 × Int32 × Int32 × Int32 × Int32 × kS), KF [22, 23, 31, 32, 36] [] [59, 60] [] [] S0 u.2.2.2.2.2.2.2.2.2 → it (ls_X6_leave_57 K) n u → it (ls_X6_leave_57 K') n u := by
  intro n
  induction n with
  | zero => exact fun _ _ h => h
  | succ n ih => exact fun u hF h => km_X6_leave_57 hk ih hF h
theorem km_X6_leave_45 {K K' : kS → Prop} {S0 : kS} (hk : ∀ S1, KF [22, 23, 31, 32, 36] [] [59, 60] [] [] S0 S1 → K S1 → K' S1) {x0 : Nat} {x1 : Nat} {x2 : Int32} {x3 : Int32} {x4 : Int32} {x5 : Option Nat} {x6 : Int32} {y0 : Int32} {S : kS} (hF : KF [22, 23, 31, 32, 36] [] [59, 60] [] [] S0 S) (h : wp_X6_leave_45 K x0 x1 x2 x3 x4 x5 x6 y0 S) : wp_X6_leave_45 K' x0 x1 x2 x3 x4 x5 x6 y0 S := by
  unfold wp_X6_leave_45 at h ⊢
  obtain ⟨n9, h⟩ := h
  exact ⟨n9, kml_X6_leave_57 hk n9 _ hF h⟩
theorem km_X6_leave_27 {K K' : kS → Prop} {S0 : kS} (hk : ∀ S1, KF [22, 23, 31, 32, 36] [] [59, 60] [] [] S0 S1 → K S1 → K' S1) {x0 : Nat} {x1 : Nat} {x2 : Int32} {x3 : Int32} {x4 : Int32} {x5 : Option Nat} {y0 : Int32} {S : kS} (hF : KF [22, 23, 31, 32, 36] [] [59, 60] [] [] S0 S) (h : wp_X6_leave_27 K x0 x1 x2 x3 x4 x5 y0 S) : wp_X6_leave_27 K' x0 x1 x2 x3 x4 x5 y0 S := by
  unfold wp_X6_leave_27 at h ⊢
  refine ⟨fun c => ?_, fun c => ?_⟩
  · replace h := h.1 c
    exact km_X6_leave_45 hk hF h
  · replace h := h.2 c
    obtain ⟨q9, eq9, h9⟩ := h
    replace h := h9
    clear h9
    refine ⟨q9, eq9, ?_⟩
    refine ⟨h.1, ?_⟩
    replace h := h.2
    intro z10 ez10
    replace h := h z10 ez10
    obtain ⟨q11, eq11, h9⟩ := h
    replace h := h9
    clear h9
    refine ⟨q11, eq11, ?_⟩
    refine ⟨h.1, ?_⟩
    replace h := h.2
    refine ⟨h.1, ?_⟩
    replace h := h.2
    intro z12 ez12
    replace h := h z12 ez12
    exact km_X6_leave_45 hk hF h
theorem km_X6_leave_22 {K K' : kS → Prop} {S0 : kS} (hk : ∀ S1, KF [22, 23, 31, 32, 36] [] [59, 60] [] [] S0 S1 → K S1 → K' S1) {x0 : Nat} {x1 : Nat} {x2 : Int32} {x3 : Int32} {x4 : Int32} {x5 : Option Nat} {S : kS} (hF : KF [22, 23, 31, 32, 36] [] [59, 60] [] [] S0 S) (h : wp_X6_leave_22 K x0 x1 x2 x3 x4 x5 S) : wp_X6_leave_22 K' x0 x1 x2 x3 x4 x5 S := by
  unfold wp_X6_leave_22 at h ⊢
  exact km_X6_leave_27 hk hF h
theorem km_X6_leave (t0 : Nat) (a0 : Nat) (a1 : Int32) (a2 : Int32) (a3 : Int32) : KmV [22, 23, 31, 32, 36] [] [59, 60] [] [] (wp_X6_leave t0 a0 a1 a2 a3) := by
  intro S0 K K' hk h
  have hF : KF [22, 23, 31, 32, 36] [] [59, 60] [] [] S0 S0 := KF_rf
  unfold wp_X6_leave at h ⊢
  refine ⟨h.1, ?_⟩
  replace h := h.2
  intro z1 ez1
  replace h := h z1 ez1
  obtain ⟨q2, eq2, h9⟩ := h
  replace h := h9
  clear h9
  refine ⟨q2, eq2, ?_⟩
  refine ⟨h.1, ?_⟩
  replace h := h.2
  intro z3 ez3
  replace h := h z3 ez3
  obtain ⟨q4, eq4, h9⟩ := h
  replace h := h9
  clear h9
  refine ⟨q4, eq4, ?_⟩
  refine ⟨h.1, ?_⟩
  replace h := h.2
  intro z5 ez5
  replace h := h z5 ez5
  refine ⟨fun c => ?_, fun c => ?_⟩
  · replace h := h.1 c
    exact km_X6_leave_22 hk hF h
  · replace h := h.2 c
    refine ⟨fun c => ?_, fun c => ?_⟩
    · replace h := h.1 c
      exact km_X6_leave_27 hk hF h
    · replace h := h.2 c
      exact km_X6_leave_22 hk hF h
theorem km_X6_fail (t0 : Nat) (a0 : Nat) (a1 : Int32) (a2 : Int32) : KmV [22, 23, 31, 32, 36] [] [59, 60] [] [] (wp_X6_fail t0 a0 a1 a2) := by
  intro S0 K K' hk h
  have hF : KF [22, 23, 31, 32, 36] [] [59, 60] [] [] S0 S0 := KF_rf
  unfold wp_X6_fail at h ⊢
  refine ⟨h.1, ?_⟩
  replace h := h.2
  intro z1 ez1
  replace h := h z1 ez1
  refine ⟨fun c => ?_, fun c => ?_⟩
  · replace h := h.1 c
    refine ⟨h.1, ?_⟩
    replace h := h.2
    intro z3 ez3
    replace h := h z3 ez3
    obtain ⟨q4, eq4, h9⟩ := h
    replace h := h9
    clear h9
    refine ⟨q4, eq4, ?_⟩
    refine ⟨h.1, ?_⟩
    replace h := h.2
    intro z5 ez5
    replace h := h z5 ez5
    obtain ⟨q6, eq6, h9⟩ := h
    replace h := h9
    clear h9
    refine ⟨q6, eq6, ?_⟩
    refine ⟨h.1, ?_⟩
    replace h := h.2
    intro z7 ez7
    replace h := h z7 ez7
    obtain ⟨q8, eq8, h9⟩ := h
    replace h := h9
    clear h9
    refine ⟨q8, eq8, ?_⟩
    refine ⟨h.1, ?_⟩
    replace h := h.2
    refine ⟨h.1, ?_⟩
    replace h := h.2
    intro z9 ez9
    replace h := h z9 ez9
    refine ⟨h.1, ?_⟩
    replace h := h.2
    refine km_X6_leave _ _ _ _ _ _ _ _ (fun S10 hG h => ?_) h
    replace hF := KF_t hF hG (by decide) (by decide) (by decide) (by decide) (by decide) (by decide) (by decide) (by decide)
    exact hk _ hF h
  · replace h := h.2 c
    refine ⟨h.1, ?_⟩
    replace h := h.2
    intro S11 eS11
    replace h := h S11 eS11
    replace hF := KF_i hF eS11 (by decide)
    refine ⟨h.1, ?_⟩
    replace h := h.2
    intro S12 eS12
    replace h := h S12 eS12
    replace hF := KF_i hF eS12 (by decide)
    refine ⟨h.1, ?_⟩
    replace h := h.2
    intro S13 eS13
    replace h := h S13 eS13
    replace hF := KF_i hF eS13 (by decide)
    exact hk _ hF h
theorem km_X6_finishEnd (t0 : Nat) (a0 : Nat) (a1 : Int32) : KmV [22, 23, 31, 32, 36] [] [59, 60] [] [] (wp_X6_finishEnd t0 a0 a1) := by
  intro S0 K K' hk h
  have hF : KF [22, 23, 31, 32, 36] [] [59, 60] [] [] S0 S0 := KF_rf
  unfold wp_X6_finishEnd at h ⊢
  refine ⟨h.1, ?_⟩
  replace h := h.2
  intro z1 ez1
  replace h := h z1 ez1
  obtain ⟨q2, eq2, h9⟩ := h
  replace h := h9
  clear h9
  refine ⟨q2, eq2, ?_⟩
  refine ⟨h.1, ?_⟩
  replace h := h.2
  intro z3 ez3
  replace h := h z3 ez3
  obtain ⟨q4, eq4, h9⟩ := h
  replace h := h9
  clear h9
  refine ⟨q4, eq4, ?_⟩
  refine ⟨h.1, ?_⟩
  replace h := h.2
  intro z5 ez5
  replace h := h z5 ez5
  obtain ⟨q6, eq6, h9⟩ := h
  replace h := h9
  clear h9
  refine ⟨q6, eq6, ?_⟩
  refine ⟨h.1, ?_⟩
  replace h := h.2
  intro z7 ez7
  replace h := h z7 ez7
  obtain ⟨q8, eq8, h9⟩ := h
  replace h := h9
  clear h9
  refine ⟨q8, eq8, ?_⟩
  refine ⟨h.1, ?_⟩
  replace h := h.2
  refine ⟨h.1, ?_⟩
  replace h := h.2
  intro z9 ez9
  replace h := h z9 ez9
  refine ⟨h.1, ?_⟩
  replace h := h.2
  intro z10 ez10
  replace h := h z10 ez10
  obtain ⟨q11, eq11, h9⟩ := h
  replace h := h9
  clear h9
  refine ⟨q11, eq11, ?_⟩
  refine ⟨h.1, ?_⟩
  replace h := h.2
  refine ⟨h.1, ?_⟩
  replace h := h.2
  intro z12 ez12
  replace h := h z12 ez12
  refine ⟨fun c => ?_, fun c => ?_⟩
  · replace h := h.1 c
    refine ⟨h.1, ?_⟩
    replace h := h.2
    intro z14 ez14
    replace h := h z14 ez14
    obtain ⟨q15, eq15, h9⟩ := h
    replace h := h9
    clear h9
    refine ⟨q15, eq15, ?_⟩
    refine ⟨h.1, ?_⟩
    replace h := h.2
    refine ⟨h.1, ?_⟩
    replace h := h.2
    intro z16 ez16
    replace h := h z16 ez16
    refine ⟨h.1, ?_⟩
    replace h := h.2
    intro z17 ez17
    replace h := h z17 ez17
    obtain ⟨q18, eq18, h9⟩ := h
    replace h := h9
    clear h9
    refine ⟨q18, eq18, ?_⟩
    refine ⟨h.1, ?_⟩
    replace h := h.2
    refine ⟨h.1, ?_⟩
    replace h := h.2
    intro z19 ez19
    replace h := h z19 ez19
    refine ⟨h.1, ?_⟩
    replace h := h.2
    intro z20 ez20
    replace h := h z20 ez20
    obtain ⟨q21, eq21, h9⟩ := h
    replace h := h9
    clear h9
    refine ⟨q21, eq21, ?_⟩
    refine ⟨h.1, ?_⟩
    replace h := h.2
    refine ⟨h.1, ?_⟩
    replace h := h.2
    intro z22 ez22
    replace h := h z22 ez22
    refine ⟨h.1, ?_⟩
    replace h := h.2
    refine km_X6_leave _ _ _ _ _ _ _ _ (fun S23 hG h => ?_) h
    replace hF := KF_t hF hG (by decide) (by decide) (by decide) (by decide) (by decide) (by decide) (by decide) (by decide)
    exact hk _ hF h
  · replace h := h.2 c
    refine ⟨h.1, ?_⟩
    replace h := h.2
    intro z24 ez24
    replace h := h z24 ez24
    obtain ⟨q25, eq25, h9⟩ := h
    replace h := h9
    clear h9
    refine ⟨q25, eq25, ?_⟩
    refine ⟨h.1, ?_⟩
    replace h := h.2
    refine ⟨h.1, ?_⟩
    replace h := h.2
    intro z26 ez26
    replace h := h z26 ez26
    refine ⟨h.1, ?_⟩
    replace h := h.2
    intro S27 eS27
    replace h := h S27 eS27
    replace hF := KF_i hF eS27 (by decide)
    exact hk _ hF h
theorem km_X6_pop (t0 : Nat) : KmI [21] [] [] [] [] (wp_X6_pop t0) := by
  intro S0 K K' hk h
  have hF : KF [21] [] [] [] [] S0 S0 := KF_rf
  unfold wp_X6_pop at h ⊢
  refine ⟨h.1, ?_⟩
  replace h := h.2
  intro z1 ez1
  replace h := h z1 ez1
  refine ⟨fun c => ?_, fun c => ?_⟩
  · replace h := h.1 c
    refine ⟨h.1, ?_⟩
    replace h := h.2
    intro z3 ez3
    replace h := h z3 ez3
    intro z4 ez4
    replace h := h z4 ez4
    refine ⟨h.1, ?_⟩
    replace h := h.2
    intro S5 eS5
    replace h := h S5 eS5
    replace hF := KF_i hF eS5 (by decide)
    refine ⟨h.1, ?_⟩
    replace h := h.2
    intro z6 ez6
    replace h := h z6 ez6
    refine ⟨h.1, ?_⟩
    replace h := h.2
    intro z7 ez7
    replace h := h z7 ez7
    obtain ⟨q8, eq8, h9⟩ := h
    replace h := h9
    clear h9
    refine ⟨q8, eq8, ?_⟩
    refine ⟨h.1, ?_⟩
    replace h := h.2
    refine ⟨h.1, ?_⟩
    replace h := h.2
    intro z9 ez9
    replace h := h z9 ez9
    exact hk _ _ hF h
  · replace h := h.2 c
    exact hk _ _ hF h
theorem km_X9_set (t0 : Nat) (a0 : Int32) (a1 : Int32) : KmV [] [] [58] [] [] (wp_X9_set t0 a0 a1) := by
  intro S0 K K' hk h
  have hF : KF [] [] [58] [] [] S0 S0 := KF_rf
  unfold wp_X9_set at h ⊢
  refine ⟨fun c => ?_, fun c => ?_⟩
  · replace h := h.1 c
    exact hk _ hF h
  · replace h := h.2 c
    refine ⟨fun c => ?_, fun c => ?_⟩
    · replace h := h.1 c
      exact hk _ hF h
    · replace h := h.2 c
      refine ⟨h.1, ?_⟩
      replace h := h.2
      intro z3 ez3
      replace h := h z3 ez3
      have pz3 : ∃ o, S0.2.1 58 o = z3 := ⟨_, by rw [ez3, hF.2.1 58 (by decide)]⟩
      obtain ⟨q4, eq4, h9⟩ := h
      replace h := h9
      clear h9
      refine ⟨q4, eq4, ?_⟩
      refine ⟨h.1, ?_⟩
      replace h := h.2
      refine ⟨h.1, ?_⟩
      replace h := h.2
      intro S5 eS5
      replace h := h S5 eS5
      replace hF := KF_a (fid := 58) hF eS5 (by decide) (by rw [← eq4]; exact pz3)
      exact hk _ hF h
theorem km_X6_flow (t0 : Nat) (a0 : Nat) (a1 : Int32) (a2 : Int32) : KmV [0, 21, 22, 23, 31, 32, 36] [] [0, 1, 58, 59, 60] [] [] (wp_X6_flow t0 a0 a1 a2) := by
  intro S0 K K' hk h
  have hF : KF [0, 21, 22, 23, 31, 32, 36] [] [0, 1, 58, 59, 60] [] [] S0 S0 := KF_rf
  unfold wp_X6_flow at h ⊢
  refine ⟨h.1, ?_⟩
  replace h := h.2
  intro z1 ez1
  replace h := h z1 ez1
  obtain ⟨q2, eq2, h9⟩ := h
  replace h := h9
  clear h9
  refine ⟨q2, eq2, ?_⟩
  refine ⟨h.1, ?_⟩
  replace h := h.2
  intro z3 ez3
  replace h := h z3 ez3
  obtain ⟨q4, eq4, h9⟩ := h
  replace h := h9
  clear h9
  refine ⟨q4, eq4, ?_⟩
  refine ⟨h.1, ?_⟩
  replace h := h.2
  intro z5 ez5
  replace h := h z5 ez5
  refine ⟨h.1, ?_⟩
  replace h := h.2
  intro z6 ez6
  replace h := h z6 ez6
  obtain ⟨q7, eq7, h9⟩ := h
  replace h := h9
  clear h9
  refine ⟨q7, eq7, ?_⟩
  refine ⟨h.1, ?_⟩
  replace h := h.2
  refine ⟨h.1, ?_⟩
  replace h := h.2
  intro z8 ez8
  replace h := h z8 ez8
  refine ⟨fun c => ?_, fun c => ?_⟩
  · replace h := h.1 c
    refine ⟨h.1, ?_⟩
    replace h := h.2
    refine km_X6_pop _ _ _ _ (fun S10 r10 hG h => ?_) h
    replace hF := KF_t hF hG (by decide) (by decide) (by decide) (by decide) (by decide) (by decide) (by decide) (by decide)
    refine ⟨h.1, ?_⟩
    replace h := h.2
    refine km_X9_set _ _ _ _ _ _ (fun S11 hG h => ?_) h
    replace hF := KF_t hF hG (by decide) (by decide) (by decide) (by decide) (by decide) (by decide) (by decide) (by decide)
    exact hk _ hF h
  · replace h := h.2 c
    refine ⟨fun c => ?_, fun c => ?_⟩
    · replace h := h.1 c
      refine ⟨h.1, ?_⟩
      replace h := h.2
      intro z13 ez13
      replace h := h z13 ez13
      refine ⟨h.1, ?_⟩
      replace h := h.2
      intro z14 ez14
      replace h := h z14 ez14
      refine ⟨h.1, ?_⟩
      replace h := h.2
      refine km_X6_pop _ _ _ _ (fun S15 r15 hG h => ?_) h
      replace hF := KF_t hF hG (by decide) (by decide) (by decide) (by decide) (by decide) (by decide) (by decide) (by decide)
      obtain ⟨q16, eq16, h9⟩ := h
      replace h := h9
      clear h9
      refine ⟨q16, eq16, ?_⟩
      refine ⟨h.1, ?_⟩
      replace h := h.2
      refine km_X0_note _ _ _ _ _ _ (fun S17 hG h => ?_) h
      replace hF := KF_t hF hG (by decide) (by decide) (by decide) (by decide) (by decide) (by decide) (by decide) (by decide)
      exact hk _ hF h
    · replace h := h.2 c
      refine ⟨fun c => ?_, fun c => ?_⟩
      · replace h := h.1 c
        refine ⟨h.1, ?_⟩
        replace h := h.2
        refine km_X6_pop _ _ _ _ (fun S19 r19 hG h => ?_) h
        replace hF := KF_t hF hG (by decide) (by decide) (by decide) (by decide) (by decide) (by decide) (by decide) (by decide)
        refine ⟨fun c => ?_, fun c => ?_⟩
        · replace h := h.1 c
          intro z21 ez21
          replace h := h z21 ez21
          refine ⟨h.1, ?_⟩
          replace h := h.2
          intro S22 eS22
          replace h := h S22 eS22
          replace hF := KF_i hF eS22 (by decide)
          exact hk _ hF h
        · replace h := h.2 c
          refine ⟨h.1, ?_⟩
          replace h := h.2
          intro S23 eS23
          replace h := h S23 eS23
          replace hF := KF_i hF eS23 (by decide)
          exact hk _ hF h
      · replace h := h.2 c
        refine ⟨fun c => ?_, fun c => ?_⟩
        · replace h := h.1 c
          refine ⟨h.1, ?_⟩
          replace h := h.2
          intro S25 eS25
          replace h := h S25 eS25
          replace hF := KF_i hF eS25 (by decide)
          exact hk _ hF h
        · replace h := h.2 c
          refine ⟨fun c => ?_, fun c => ?_⟩
          · replace h := h.1 c
            refine ⟨h.1, ?_⟩
            replace h := h.2
            intro z27 ez27
            replace h := h z27 ez27
            obtain ⟨q28, eq28, h9⟩ := h
            replace h := h9
            clear h9
            refine ⟨q28, eq28, ?_⟩
            refine ⟨h.1, ?_⟩
            replace h := h.2
            refine ⟨h.1, ?_⟩
            replace h := h.2
            intro z29 ez29
            replace h := h z29 ez29
            refine ⟨h.1, ?_⟩
            replace h := h.2
            refine km_X6_leave _ _ _ _ _ _ _ _ (fun S30 hG h => ?_) h
            replace hF := KF_t hF hG (by decide) (by decide) (by decide) (by decide) (by decide) (by decide) (by decide) (by decide)
            exact hk _ hF h
          · replace h := h.2 c
            refine ⟨fun c => ?_, fun c => ?_⟩
            · replace h := h.1 c
              refine ⟨h.1, ?_⟩
              replace h := h.2
              intro z32 ez32
              replace h := h z32 ez32
              obtain ⟨q33, eq33, h9⟩ := h
              replace h := h9
              clear h9
              refine ⟨q33, eq33, ?_⟩
              refine ⟨h.1, ?_⟩
              replace h := h.2
              refine ⟨h.1, ?_⟩
              replace h := h.2
              intro z34 ez34
              replace h := h z34 ez34
              refine ⟨h.1, ?_⟩
              replace h := h.2
              refine km_X6_leave _ _ _ _ _ _ _ _ (fun S35 hG h => ?_) h
              replace hF := KF_t hF hG (by decide) (by decide) (by decide) (by decide) (by decide) (by decide) (by decide) (by decide)
              exact hk _ hF h
            · replace h := h.2 c
              refine ⟨fun c => ?_, fun c => ?_⟩
              · replace h := h.1 c
                refine ⟨h.1, ?_⟩
                replace h := h.2
                refine km_X6_pop _ _ _ _ (fun S37 r37 hG h => ?_) h
                replace hF := KF_t hF hG (by decide) (by decide) (by decide) (by decide) (by decide) (by decide) (by decide) (by decide)
                refine ⟨h.1, ?_⟩
                replace h := h.2
                intro z38 ez38
                replace h := h z38 ez38
                obtain ⟨q39, eq39, h9⟩ := h
                replace h := h9
                clear h9
                refine ⟨q39, eq39, ?_⟩
                refine ⟨h.1, ?_⟩
                replace h := h.2
                refine ⟨h.1, ?_⟩
                replace h := h.2
                intro z40 ez40
                replace h := h z40 ez40
                refine ⟨h.1, ?_⟩
                replace h := h.2
                refine km_X6_leave _ _ _ _ _ _ _ _ (fun S41 hG h => ?_) h
                replace hF := KF_t hF hG (by decide) (by decide) (by decide) (by decide) (by decide) (by decide) (by decide) (by decide)
                exact hk _ hF h
              · replace h := h.2 c
                refine ⟨fun c => ?_, fun c => ?_⟩
                · replace h := h.1 c
                  refine ⟨h.1, ?_⟩
                  replace h := h.2
                  refine km_X6_fail _ _ _ _ _ _ _ (fun S43 hG h => ?_) h
                  replace hF := KF_t hF hG (by decide) (by decide) (by decide) (by decide) (by decide) (by decide) (by decide) (by decide)
                  exact hk _ hF h
                · replace h := h.2 c
                  refine ⟨fun c => ?_, fun c => ?_⟩
                  · replace h := h.1 c
                    obtain ⟨q45, eq45, h9⟩ := h
                    replace h := h9
                    clear h9
                    refine ⟨q45, eq45, ?_⟩
                    refine ⟨h.1, ?_⟩
                    replace h := h.2
                    refine km_X7_is _ _ _ _ _ _ (fun S46 r46 hG h => ?_) h
                    replace hF := KF_t hF hG (by decide) (by decide) (by decide) (by decide) (by decide) (by decide) (by decide) (by decide)
                    refine ⟨fun c => ?_, fun c => ?_⟩
                    · replace h := h.1 c
                      refine ⟨h.1, ?_⟩
                      replace h := h.2
                      intro z48 ez48
                      replace h := h z48 ez48
                      obtain ⟨q49, eq49, h9⟩ := h
                      replace h := h9
                      clear h9
                      refine ⟨q49, eq49, ?_⟩
                      refine ⟨h.1, ?_⟩
                      replace h := h.2
                      refine ⟨h.1, ?_⟩
                      replace h := h.2
                      intro z50 ez50
                      replace h := h z50 ez50
                      refine ⟨h.1, ?_⟩
                      replace h := h.2
                      intro S51 eS51
                      replace h := h S51 eS51
                      replace hF := KF_i hF eS51 (by decide)
                      exact hk _ hF h
                    · replace h := h.2 c
                      refine ⟨h.1, ?_⟩
                      replace h := h.2
                      intro z52 ez52
                      replace h := h z52 ez52
                      have pz52 : ∃ o, S0.2.1 59 o = z52 := ⟨_, by rw [ez52, hF.2.1 59 (by decide)]⟩
                      refine ⟨h.1, ?_⟩
                      replace h := h.2
                      intro z53 ez53
                      replace h := h z53 ez53
                      obtain ⟨q54, eq54, h9⟩ := h
                      replace h := h9
                      clear h9
                      refine ⟨q54, eq54, ?_⟩
                      refine ⟨h.1, ?_⟩
                      replace h := h.2
                      refine ⟨h.1, ?_⟩
                      replace h := h.2
                      intro z55 ez55
                      replace h := h z55 ez55
                      obtain ⟨q56, eq56, h9⟩ := h
                      replace h := h9
                      clear h9
                      refine ⟨q56, eq56, ?_⟩
                      refine ⟨h.1, ?_⟩
                      replace h := h.2
                      refine ⟨h.1, ?_⟩
                      replace h := h.2
                      intro S57 eS57
                      replace h := h S57 eS57
                      replace hF := KF_a (fid := 59) hF eS57 (by decide) (by rw [← eq56]; exact pz52)
                      refine ⟨h.1, ?_⟩
                      replace h := h.2
                      intro z58 ez58
                      replace h := h z58 ez58
                      obtain ⟨q59, eq59, h9⟩ := h
                      replace h := h9
                      clear h9
                      refine ⟨q59, eq59, ?_⟩
                      refine ⟨h.1, ?_⟩
                      replace h := h.2
                      refine ⟨h.1, ?_⟩
                      replace h := h.2
                      intro z60 ez60
                      replace h := h z60 ez60
                      refine ⟨h.1, ?_⟩
                      replace h := h.2
                      intro S61 eS61
                      replace h := h S61 eS61
                      replace hF := KF_i hF eS61 (by decide)
                      exact hk _ hF h
                  · replace h := h.2 c
                    refine ⟨fun c => ?_, fun c => ?_⟩
                    · replace h := h.1 c
                      refine ⟨h.1, ?_⟩
                      replace h := h.2
                      intro z63 ez63
                      replace h := h z63 ez63
                      refine ⟨h.1, ?_⟩
                      replace h := h.2
                      refine km_X9_set _ _ _ _ _ _ (fun S64 hG h => ?_) h
                      replace hF := KF_t hF hG (by decide) (by decide) (by decide) (by decide) (by decide) (by decide) (by decide) (by decide)
                      exact hk _ hF h
                    · replace h := h.2 c
                      refine ⟨fun c => ?_, fun c => ?_⟩
                      · replace h := h.1 c
                        refine ⟨h.1, ?_⟩
                        replace h := h.2
                        refine km_X6_finishEnd _ _ _ _ _ _ (fun S66 hG h => ?_) h
                        replace hF := KF_t hF hG (by decide) (by decide) (by decide) (by decide) (by decide) (by decide) (by decide) (by decide)
                        exact hk _ hF h
                      · replace h := h.2 c
                        refine ⟨h.1, ?_⟩
                        replace h := h.2
                        refine km_X6_end _ _ _ _ _ _ _ (fun S67 hG h => ?_) h
                        replace hF := KF_t hF hG (by decide) (by decide) (by decide) (by decide) (by decide) (by decide) (by decide) (by decide)
                        exact hk _ hF h
theorem km_X6_push (t0 : Nat) (a0 : Int32) : KmV [21] [] [42] [] [] (wp_X6_push t0 a0) := by
  intro S0 K K' hk h
  have hF : KF [21] [] [42] [] [] S0 S0 := KF_rf
  unfold wp_X6_push at h ⊢
  refine ⟨h.1, ?_⟩
  replace h := h.2
  intro z1 ez1
  replace h := h z1 ez1
  refine ⟨fun c => ?_, fun c => ?_⟩
  · replace h := h.1 c
    exact hk _ hF h
  · replace h := h.2 c
    refine ⟨h.1, ?_⟩
    replace h := h.2
    intro z3 ez3
    replace h := h z3 ez3
    have pz3 : ∃ o, S0.2.1 42 o = z3 := ⟨_, by rw [ez3, hF.2.1 42 (by decide)]⟩
    refine ⟨h.1, ?_⟩
    replace h := h.2
    intro z4 ez4
    replace h := h z4 ez4
    obtain ⟨q5, eq5, h9⟩ := h
    replace h := h9
    clear h9
    refine ⟨q5, eq5, ?_⟩
    refine ⟨h.1, ?_⟩
    replace h := h.2
    refine ⟨h.1, ?_⟩
    replace h := h.2
    intro S6 eS6
    replace h := h S6 eS6
    replace hF := KF_a (fid := 42) hF eS6 (by decide) (by rw [← eq5]; exact pz3)
    refine ⟨h.1, ?_⟩
    replace h := h.2
    intro z7 ez7
    replace h := h z7 ez7
    intro z8 ez8
    replace h := h z8 ez8
    refine ⟨h.1, ?_⟩
    replace h := h.2
    intro S9 eS9
    replace h := h S9 eS9
    replace hF := KF_i hF eS9 (by decide)
    exact hk _ hF h
theorem km_X6_join_166 {K K' : kS → Prop} {S0 : kS} (hk : ∀ S1, KF [21, 22, 23, 31, 32, 36] [] [42, 59, 60] [] [] S0 S1 → K S1 → K' S1) {y0 : Nat} {y1 : Int32} {S : kS} (hF : KF [21, 22, 23, 31, 32, 36] [] [42, 59, 60] [] [] S0 S) (h : wp_X6_join_166 K y0 y1 S) : wp_X6_join_166 K' y0 y1 S := by
  unfold wp_X6_join_166 at h ⊢
  refine ⟨h.1, ?_⟩
  replace h := h.2
  refine km_X6_push _ _ _ _ _ (fun S35 hG h => ?_) h
  replace hF := KF_t hF hG (by decide) (by decide) (by decide) (by decide) (by decide) (by decide) (by decide) (by decide)
  exact hk _ hF h
theorem km_X6_join_124 {K K' : kS → Prop} {S0 : kS} (hk : ∀ S1, KF [21, 22, 23, 31, 32, 36] [] [42, 59, 60] [] [] S0 S1 → K S1 → K' S1) {y0 : Nat} {y1 : Int32} {S : kS} (hF : KF [21, 22, 23, 31, 32, 36] [] [42, 59, 60] [] [] S0 S) (h : wp_X6_join_124 K y0 y1 S) : wp_X6_join_124 K' y0 y1 S := by
  unfold wp_X6_join_124 at h ⊢
  refine ⟨h.1, ?_⟩
  replace h := h.2
  refine km_X6_push _ _ _ _ _ (fun S33 hG h => ?_) h
  replace hF := KF_t hF hG (by decide) (by decide) (by decide) (by decide) (by decide) (by decide) (by decide) (by decide)
  exact hk _ hF h
theorem km_X6_join_105 {K K' : kS → Prop} {S0 : kS} (hk : ∀ S1, KF [21, 22, 23, 31, 32, 36] [] [42, 59, 60] [] [] S0 S1 → K S1 → K' S1) {y0 : Nat} {y1 : Int32} {S : kS} (hF : KF [21, 22, 23, 31, 32, 36] [] [42, 59, 60] [] [] S0 S) (h : wp_X6_join_105 K y0 y1 S) : wp_X6_join_105 K' y0 y1 S := by
  unfold wp_X6_join_105 at h ⊢
  refine ⟨h.1, ?_⟩
  replace h := h.2
  refine km_X6_push _ _ _ _ _ (fun S34 hG h => ?_) h
  replace hF := KF_t hF hG (by decide) (by decide) (by decide) (by decide) (by decide) (by decide) (by decide) (by decide)
  exact hk _ hF h
theorem km_X6_join (t0 : Nat) (a0 : Nat) (a1 : Int32) (a2 : Int32) : KmV [21, 22, 23, 31, 32, 36] [] [42, 59, 60] [] [] (wp_X6_join t0 a0 a1 a2) := by
  intro S0 K K' hk h
  have hF : KF [21, 22, 23, 31, 32, 36] [] [42, 59, 60] [] [] S0 S0 := KF_rf
  unfold wp_X6_join at h ⊢
  refine ⟨h.1, ?_⟩
  replace h := h.2
  refine km_X6_pop _ _ _ _ (fun S1 r1 hG h => ?_) h
  replace hF := KF_t hF hG (by decide) (by decide) (by decide) (by decide) (by decide) (by decide) (by decide) (by decide)
  refine ⟨h.1, ?_⟩
  replace h := h.2
  refine km_X6_pop _ _ _ _ (fun S2 r2 hG h => ?_) h
  replace hF := KF_t hF hG (by decide) (by decide) (by decide) (by decide) (by decide) (by decide) (by decide) (by decide)
  refine ⟨fun c => ?_, fun c => ?_⟩
  · replace h := h.1 c
    intro z4 ez4
    replace h := h z4 ez4
    refine ⟨h.1, ?_⟩
    replace h := h.2
    refine km_X6_push _ _ _ _ _ (fun S5 hG h => ?_) h
    replace hF := KF_t hF hG (by decide) (by decide) (by decide) (by decide) (by decide) (by decide) (by decide) (by decide)
    exact hk _ hF h
  · replace h := h.2 c
    refine ⟨fun c => ?_, fun c => ?_⟩
    · replace h := h.1 c
      intro z7 ez7
      replace h := h z7 ez7
      refine ⟨h.1, ?_⟩
      replace h := h.2
      refine km_X6_push _ _ _ _ _ (fun S8 hG h => ?_) h
      replace hF := KF_t hF hG (by decide) (by decide) (by decide) (by decide) (by decide) (by decide) (by decide) (by decide)
      exact hk _ hF h
    · replace h := h.2 c
      refine ⟨fun c => ?_, fun c => ?_⟩
      · replace h := h.1 c
        intro z10 ez10
        replace h := h z10 ez10
        refine ⟨h.1, ?_⟩
        replace h := h.2
        refine km_X6_push _ _ _ _ _ (fun S11 hG h => ?_) h
        replace hF := KF_t hF hG (by decide) (by decide) (by decide) (by decide) (by decide) (by decide) (by decide) (by decide)
        exact hk _ hF h
      · replace h := h.2 c
        refine ⟨fun c => ?_, fun c => ?_⟩
        · replace h := h.1 c
          refine ⟨fun c => ?_, fun c => ?_⟩
          · replace h := h.1 c
            refine ⟨fun c => ?_, fun c => ?_⟩
            · replace h := h.1 c
              refine ⟨h.1, ?_⟩
              replace h := h.2
              intro z15 ez15
              replace h := h z15 ez15
              exact km_X6_join_166 hk hF h
            · replace h := h.2 c
              refine ⟨h.1, ?_⟩
              replace h := h.2
              intro z16 ez16
              replace h := h z16 ez16
              exact km_X6_join_166 hk hF h
          · replace h := h.2 c
            refine ⟨h.1, ?_⟩
            replace h := h.2
            refine km_X6_fail _ _ _ _ _ _ _ (fun S17 hG h => ?_) h
            replace hF := KF_t hF hG (by decide) (by decide) (by decide) (by decide) (by decide) (by decide) (by decide) (by decide)
            exact hk _ hF h
        · replace h := h.2 c
          refine ⟨fun c => ?_, fun c => ?_⟩
          · replace h := h.1 c
            refine ⟨fun c => ?_, fun c => ?_⟩
            · replace h := h.1 c
              refine ⟨fun c => ?_, fun c => ?_⟩
              · replace h := h.1 c
                refine ⟨h.1, ?_⟩
                replace h := h.2
                intro z21 ez21
                replace h := h z21 ez21
                exact km_X6_join_166 hk hF h
              · replace h := h.2 c
                refine ⟨h.1, ?_⟩
                replace h := h.2
                intro z22 ez22
                replace h := h z22 ez22
                exact km_X6_join_166 hk hF h
            · replace h := h.2 c
              refine ⟨h.1, ?_⟩
              replace h := h.2
              refine km_X6_fail _ _ _ _ _ _ _ (fun S23 hG h => ?_) h
              replace hF := KF_t hF hG (by decide) (by decide) (by decide) (by decide) (by decide) (by decide) (by decide) (by decide)
              exact hk _ hF h
          · replace h := h.2 c
            refine ⟨fun c => ?_, fun c => ?_⟩
            · replace h := h.1 c
              refine ⟨fun c => ?_, fun c => ?_⟩
              · replace h := h.1 c
                exact km_X6_join_105 hk hF h
              · replace h := h.2 c
                exact km_X6_join_105 hk hF h
            · replace h := h.2 c
              refine ⟨fun c => ?_, fun c => ?_⟩
              · replace h := h.1 c
                refine ⟨fun c => ?_, fun c => ?_⟩
                · replace h := h.1 c
                  exact km_X6_join_124 hk hF h
                · replace h := h.2 c
                  exact km_X6_join_124 hk hF h
              · replace h := h.2 c
                refine ⟨fun c => ?_, fun c => ?_⟩
                · replace h := h.1 c
                  refine ⟨fun c => ?_, fun c => ?_⟩
                  · replace h := h.1 c
                    refine ⟨h.1, ?_⟩
                    replace h := h.2
                    intro z30 ez30
                    replace h := h z30 ez30
                    exact km_X6_join_166 hk hF h
                  · replace h := h.2 c
                    refine ⟨h.1, ?_⟩
                    replace h := h.2
                    intro z31 ez31
                    replace h := h z31 ez31
                    exact km_X6_join_166 hk hF h
                · replace h := h.2 c
                  refine ⟨h.1, ?_⟩
                  replace h := h.2
                  refine km_X6_fail _ _ _ _ _ _ _ (fun S32 hG h => ?_) h
                  replace hF := KF_t hF hG (by decide) (by decide) (by decide) (by decide) (by decide) (by decide) (by decide) (by decide)
                  exact hk _ hF h
theorem km_X9_look (t0 : Nat) (a0 : Int32) : KmI [] [] [] [] [] (wp_X9_look t0 a0) := by
  intro S0 K K' hk h
  have hF : KF [] [] [] [] [] S0 S0 := KF_rf
  unfold wp_X9_look at h ⊢
  refine ⟨fun c => ?_, fun c => ?_⟩
  · replace h := h.1 c
    exact hk _ _ hF h
  · replace h := h.2 c
    refine ⟨fun c => ?_, fun c => ?_⟩
    · replace h := h.1 c
      exact hk _ _ hF h
    · replace h := h.2 c
      refine ⟨h.1, ?_⟩
      replace h := h.2
      intro z3 ez3
      replace h := h z3 ez3
      obtain ⟨q4, eq4, h9⟩ := h
      replace h := h9
      clear h9
      refine ⟨q4, eq4, ?_⟩
      refine ⟨h.1, ?_⟩
      replace h := h.2
      refine ⟨h.1, ?_⟩
      replace h := h.2
      intro z5 ez5
      replace h := h z5 ez5
      exact hk _ _ hF h
theorem km_X6_reckon (t0 : Nat) (a0 : Nat) (a1 : Int32) (a2 : Int32) : KmV [21, 22, 23, 31, 32, 36] [] [42, 59, 60] [] [] (wp_X6_reckon t0 a0 a1 a2) := by
  intro S0 K K' hk h
  have hF : KF [21, 22, 23, 31, 32, 36] [] [42, 59, 60] [] [] S0 S0 := KF_rf
  unfold wp_X6_reckon at h ⊢
  refine ⟨h.1, ?_⟩
  replace h := h.2
  intro z1 ez1
  replace h := h z1 ez1
  obtain ⟨q2, eq2, h9⟩ := h
  replace h := h9
  clear h9
  refine ⟨q2, eq2, ?_⟩
  refine ⟨h.1, ?_⟩
  replace h := h.2
  intro z3 ez3
  replace h := h z3 ez3
  obtain ⟨q4, eq4, h9⟩ := h
  replace h := h9
  clear h9
  refine ⟨q4, eq4, ?_⟩
  refine ⟨h.1, ?_⟩
  replace h := h.2
  intro z5 ez5
  replace h := h z5 ez5
  obtain ⟨q6, eq6, h9⟩ := h
  replace h := h9
  clear h9
  refine ⟨q6, eq6, ?_⟩
  refine ⟨h.1, ?_⟩
  replace h := h.2
  refine ⟨h.1, ?_⟩
  replace h := h.2
  intro z7 ez7
  replace h := h z7 ez7
  refine ⟨fun c => ?_, fun c => ?_⟩
  · replace h := h.1 c
    refine ⟨h.1, ?_⟩
    replace h := h.2
    intro S9 eS9
    replace h := h S9 eS9
    replace hF := KF_i hF eS9 (by decide)
    exact hk _ hF h
  · replace h := h.2 c
    refine ⟨fun c => ?_, fun c => ?_⟩
    · replace h := h.1 c
      exact hk _ hF h
    · replace h := h.2 c
      refine ⟨fun c => ?_, fun c => ?_⟩
      · replace h := h.1 c
        refine ⟨h.1, ?_⟩
        replace h := h.2
        refine km_X6_push _ _ _ _ _ (fun S12 hG h => ?_) h
        replace hF := KF_t hF hG (by decide) (by decide) (by decide) (by decide) (by decide) (by decide) (by decide) (by decide)
        exact hk _ hF h
      · replace h := h.2 c
        refine ⟨fun c => ?_, fun c => ?_⟩
        · replace h := h.1 c
          refine ⟨h.1, ?_⟩
          replace h := h.2
          refine km_X9_look _ _ _ _ _ (fun S14 r14 hG h => ?_) h
          replace hF := KF_t hF hG (by decide) (by decide) (by decide) (by decide) (by decide) (by decide) (by decide) (by decide)
          refine ⟨h.1, ?_⟩
          replace h := h.2
          refine km_X6_push _ _ _ _ _ (fun S15 hG h => ?_) h
          replace hF := KF_t hF hG (by decide) (by decide) (by decide) (by decide) (by decide) (by decide) (by decide) (by decide)
          exact hk _ hF h
        · replace h := h.2 c
          refine ⟨fun c => ?_, fun c => ?_⟩
          · replace h := h.1 c
            refine ⟨h.1, ?_⟩
            replace h := h.2
            intro z17 ez17
            replace h := h z17 ez17
            obtain ⟨q18, eq18, h9⟩ := h
            replace h := h9
            clear h9
            refine ⟨q18, eq18, ?_⟩
            refine ⟨h.1, ?_⟩
            replace h := h.2
            intro z19 ez19
            replace h := h z19 ez19
            refine ⟨h.1, ?_⟩
            replace h := h.2
            refine km_X6_push _ _ _ _ _ (fun S20 hG h => ?_) h
            replace hF := KF_t hF hG (by decide) (by decide) (by decide) (by decide) (by decide) (by decide) (by decide) (by decide)
            exact hk _ hF h
          · replace h := h.2 c
            refine ⟨fun c => ?_, fun c => ?_⟩
            · replace h := h.1 c
              refine ⟨h.1, ?_⟩
              replace h := h.2
              refine km_X6_pop _ _ _ _ (fun S22 r22 hG h => ?_) h
              replace hF := KF_t hF hG (by decide) (by decide) (by decide) (by decide) (by decide) (by decide) (by decide) (by decide)
              intro z23 ez23
              replace h := h z23 ez23
              refine ⟨h.1, ?_⟩
              replace h := h.2
              refine km_X6_push _ _ _ _ _ (fun S24 hG h => ?_) h
              replace hF := KF_t hF hG (by decide) (by decide) (by decide) (by decide) (by decide) (by decide) (by decide) (by decide)
              exact hk _ hF h
            · replace h := h.2 c
              refine ⟨h.1, ?_⟩
              replace h := h.2
              refine km_X6_join _ _ _ _ _ _ _ (fun S25 hG h => ?_) h
              replace hF := KF_t hF hG (by decide) (by decide) (by decide) (by decide) (by decide) (by decide) (by decide) (by decide)
              exact hk _ hF h
theorem km_X6_step (t0 : Nat) : KmI [19, 20] [] [] [] [] (wp_X6_step t0) := by
  intro S0 K K' hk h
  have hF : KF [19, 20] [] [] [] [] S0 S0 := KF_rf
  unfold wp_X6_step at h ⊢
  refine ⟨h.1, ?_⟩
  replace h := h.2
  intro z1 ez1
  replace h := h z1 ez1
  refine ⟨fun c => ?_, fun c => ?_⟩
  · replace h := h.1 c
    exact hk _ _ hF h
  · replace h := h.2 c
    refine ⟨h.1, ?_⟩
    replace h := h.2
    intro z3 ez3
    replace h := h z3 ez3
    refine ⟨fun c => ?_, fun c => ?_⟩
    · replace h := h.1 c
      refine ⟨h.1, ?_⟩
      replace h := h.2
      intro z5 ez5
      replace h := h z5 ez5
      intro z6 ez6
      replace h := h z6 ez6
      refine ⟨h.1, ?_⟩
      replace h := h.2
      intro S7 eS7
      replace h := h S7 eS7
      replace hF := KF_i hF eS7 (by decide)
      refine ⟨h.1, ?_⟩
      replace h := h.2
      intro z8 ez8
      replace h := h z8 ez8
      intro z9 ez9
      replace h := h z9 ez9
      refine ⟨h.1, ?_⟩
      replace h := h.2
      intro S10 eS10
      replace h := h S10 eS10
      replace hF := KF_i hF eS10 (by decide)
      exact hk _ _ hF h
    · replace h := h.2 c
      exact hk _ _ hF h
theorem km_X6_wake (t0 : Nat) (a0 : Nat) : KmV [21, 22, 23, 30, 31, 32, 34, 36, 38] [11, 24, 61, 62, 63] [42, 59, 60] [] [] (wp_X6_wake t0 a0) := by
  intro S0 K K' hk h
  have hF : KF [21, 22, 23, 30, 31, 32, 34, 36, 38] [11, 24, 61, 62, 63] [42, 59, 60] [] [] S0 S0 := KF_rf
  unfold wp_X6_wake at h ⊢
  refine ⟨h.1, ?_⟩
  replace h := h.2
  intro z1 ez1
  replace h := h z1 ez1
  refine ⟨h.1, ?_⟩
  replace h := h.2
  intro z2 ez2
  replace h := h z2 ez2
  obtain ⟨q3, eq3, h9⟩ := h
  replace h := h9
  clear h9
  refine ⟨q3, eq3, ?_⟩
  refine ⟨h.1, ?_⟩
  replace h := h.2
  refine km_X1_takeBack _ _ _ _ _ (fun S4 hG h => ?_) h
  replace hF := KF_t hF hG (by decide) (by decide) (by decide) (by decide) (by decide) (by decide) (by decide) (by decide)
  refine ⟨h.1, ?_⟩
  replace h := h.2
  intro S5 eS5
  replace h := h S5 eS5
  replace hF := KF_i hF eS5 (by decide)
  refine ⟨h.1, ?_⟩
  replace h := h.2
  intro S6 eS6
  replace h := h S6 eS6
  replace hF := KF_i hF eS6 (by decide)
  refine ⟨h.1, ?_⟩
  replace h := h.2
  intro z7 ez7
  replace h := h z7 ez7
  intro z8 ez8
  replace h := h z8 ez8
  refine ⟨h.1, ?_⟩
  replace h := h.2
  intro S9 eS9
  replace h := h S9 eS9
  replace hF := KF_i hF eS9 (by decide)
  refine ⟨h.1, ?_⟩
  replace h := h.2
  intro z10 ez10
  replace h := h z10 ez10
  refine ⟨fun c => ?_, fun c => ?_⟩
  · replace h := h.1 c
    refine ⟨h.1, ?_⟩
    replace h := h.2
    intro z12 ez12
    replace h := h z12 ez12
    obtain ⟨q13, eq13, h9⟩ := h
    replace h := h9
    clear h9
    refine ⟨q13, eq13, ?_⟩
    refine ⟨h.1, ?_⟩
    replace h := h.2
    intro z14 ez14
    replace h := h z14 ez14
    refine ⟨h.1, ?_⟩
    replace h := h.2
    intro z15 ez15
    replace h := h z15 ez15
    obtain ⟨q16, eq16, h9⟩ := h
    replace h := h9
    clear h9
    refine ⟨q16, eq16, ?_⟩
    refine ⟨h.1, ?_⟩
    replace h := h.2
    refine km_X5_scopeAt _ _ _ _ _ (fun S17 r17 hG h => ?_) h
    replace hF := KF_t hF hG (by decide) (by decide) (by decide) (by decide) (by decide) (by decide) (by decide) (by decide)
    refine ⟨fun c => ?_, fun c => ?_⟩
    · replace h := h.1 c
      refine ⟨fun c => ?_, fun c => ?_⟩
      · replace h := h.1 c
        refine ⟨h.1, ?_⟩
        replace h := h.2
        refine km_X6_leave _ _ _ _ _ _ _ _ (fun S20 hG h => ?_) h
        replace hF := KF_t hF hG (by decide) (by decide) (by decide) (by decide) (by decide) (by decide) (by decide) (by decide)
        exact hk _ hF h
      · replace h := h.2 c
        refine ⟨h.1, ?_⟩
        replace h := h.2
        intro z21 ez21
        replace h := h z21 ez21
        refine ⟨h.1, ?_⟩
        replace h := h.2
        refine km_X6_leave _ _ _ _ _ _ _ _ (fun S22 hG h => ?_) h
        replace hF := KF_t hF hG (by decide) (by decide) (by decide) (by decide) (by decide) (by decide) (by decide) (by decide)
        exact hk _ hF h
    · replace h := h.2 c
      refine ⟨h.1, ?_⟩
      replace h := h.2
      intro z23 ez23
      replace h := h z23 ez23
      refine ⟨h.1, ?_⟩
      replace h := h.2
      refine km_X6_push _ _ _ _ _ (fun S24 hG h => ?_) h
      replace hF := KF_t hF hG (by decide) (by decide) (by decide) (by decide) (by decide) (by decide) (by decide) (by decide)
      refine ⟨h.1, ?_⟩
      replace h := h.2
      intro z25 ez25
      replace h := h z25 ez25
      intro z26 ez26
      replace h := h z26 ez26
      refine ⟨h.1, ?_⟩
      replace h := h.2
      intro S27 eS27
      replace h := h S27 eS27
      replace hF := KF_i hF eS27 (by decide)
      exact hk _ hF h
  · replace h := h.2 c
    exact hk _ hF h
theorem km_X9_tell (t0 : Nat) (a0 : Int32) : KmI [] [] [] [] [] (wp_X9_tell t0 a0) := by
  intro S0 K K' hk h
  have hF : KF [] [] [] [] [] S0 S0 := KF_rf
  unfold wp_X9_tell at h ⊢
  refine ⟨fun c => ?_, fun c => ?_⟩
  · replace h := h.1 c
    refine ⟨h.1, ?_⟩
    replace h := h.2
    intro z2 ez2
    replace h := h z2 ez2
    exact hk _ _ hF h
  · replace h := h.2 c
    refine ⟨fun c => ?_, fun c => ?_⟩
    · replace h := h.1 c
      refine ⟨h.1, ?_⟩
      replace h := h.2
      intro z4 ez4
      replace h := h z4 ez4
      exact hk _ _ hF h
    · replace h := h.2 c
      refine ⟨fun c => ?_, fun c => ?_⟩
      · replace h := h.1 c
        refine ⟨h.1, ?_⟩
        replace h := h.2
        intro z6 ez6
        replace h := h z6 ez6
        exact hk _ _ hF h
      · replace h := h.2 c
        refine ⟨fun c => ?_, fun c => ?_⟩
        · replace h := h.1 c
          refine ⟨h.1, ?_⟩
          replace h := h.2
          intro z8 ez8
          replace h := h z8 ez8
          refine ⟨fun c => ?_, fun q9 c => ?_⟩
          · replace h := h.1 c
            exact hk _ _ hF h
          · replace h := h.2 q9 c
            refine ⟨h.1, ?_⟩
            replace h := h.2
            intro z10 ez10
            replace h := h z10 ez10
            obtain ⟨q11, eq11, h9⟩ := h
            replace h := h9
            clear h9
            refine ⟨q11, eq11, ?_⟩
            refine ⟨h.1, ?_⟩
            replace h := h.2
            intro z12 ez12
            replace h := h z12 ez12
            exact hk _ _ hF h
        · replace h := h.2 c
          refine ⟨fun c => ?_, fun c => ?_⟩
          · replace h := h.1 c
            refine ⟨h.1, ?_⟩
            replace h := h.2
            intro z14 ez14
            replace h := h z14 ez14
            exact hk _ _ hF h
          · replace h := h.2 c
            refine ⟨fun c => ?_, fun c => ?_⟩
            · replace h := h.1 c
              refine ⟨h.1, ?_⟩
              replace h := h.2
              intro z16 ez16
              replace h := h z16 ez16
              exact hk _ _ hF h
            · replace h := h.2 c
              refine ⟨fun c => ?_, fun c => ?_⟩
              · replace h := h.1 c
                refine ⟨h.1, ?_⟩
                replace h := h.2
                intro z18 ez18
                replace h := h z18 ez18
                exact hk _ _ hF h
              · replace h := h.2 c
                refine ⟨h.1, ?_⟩
                replace h := h.2
                intro z19 ez19
                replace h := h z19 ez19
                refine ⟨fun c => ?_, fun c => ?_⟩
                · replace h := h.1 c
                  exact hk _ _ hF h
                · replace h := h.2 c
                  exact hk _ _ hF h
