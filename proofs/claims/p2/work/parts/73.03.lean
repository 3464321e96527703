
theorem fm_count_82 {K K' : mS → Int32 → Prop} {k82 k82' : Int32 × Int32 × Int32 × Int32 × Int32 × mS → Prop} {S0 : mS} (hk : ∀ S1 r1, Fr [0] [] [] S0 S1 → K S1 r1 → K' S1 r1) (hk82 : ∀ u : Int32 × Int32 × Int32 × Int32 × Int32 × mS, Fr [0] [] [] S0 u.2.2.2.2.2 → k82 u → k82' u) {x1 : Int32} {x2 : Int32} {x3 : Int32} {x4 : Int32} {x5 : Int32} {S : mS} (hF : Fr [0] [] [] S0 S) (h : wp_count_82 K k82 x1 x2 x3 x4 x5 S) : wp_count_82 K' k82' x1 x2 x3 x4 x5 S := by
  unfold wp_count_82 at h ⊢
  refine ⟨fun c => ?_, fun c => ?_⟩
  · replace h := h.1 c
    refine ⟨fun c => ?_, fun c => ?_⟩
    · replace h := h.1 c
      refine ⟨h.1, ?_⟩
      replace h := h.2
      intro z14 e
      replace h := h z14 e
      exact hk _ _ hF h
    · replace h := h.2 c
      refine ⟨fun c => ?_, fun c => ?_⟩
      · replace h := h.1 c
        exact hk _ _ hF h
      · replace h := h.2 c
        refine ⟨fun c => ?_, fun c => ?_⟩
        · replace h := h.1 c
          exact hk _ _ hF h
        · replace h := h.2 c
          refine ⟨fun c => ?_, fun c => ?_⟩
          · replace h := h.1 c
            exact hk _ _ hF h
          · replace h := h.2 c
            refine ⟨fun c => ?_, fun c => ?_⟩
            · replace h := h.1 c
              exact hk _ _ hF h
            · replace h := h.2 c
              refine ⟨fun c => ?_, fun c => ?_⟩
              · replace h := h.1 c
                exact hk _ _ hF h
              · replace h := h.2 c
                refine ⟨fun c => ?_, fun c => ?_⟩
                · replace h := h.1 c
                  exact hk _ _ hF h
                · replace h := h.2 c
                  refine ⟨fun c => ?_, fun c => ?_⟩
                  · replace h := h.1 c
                    exact hk _ _ hF h
                  · replace h := h.2 c
                    refine ⟨fun c => ?_, fun c => ?_⟩
                    · replace h := h.1 c
                      exact hk _ _ hF h
                    · replace h := h.2 c
                      refine ⟨fun c => ?_, fun c => ?_⟩
                      · replace h := h.1 c
                        exact hk _ _ hF h
                      · replace h := h.2 c
                        refine ⟨fun c => ?_, fun c => ?_⟩
                        · replace h := h.1 c
                          exact hk _ _ hF h
                        · replace h := h.2 c
                          refine ⟨fun c => ?_, fun c => ?_⟩
                          · replace h := h.1 c
                            exact hk _ _ hF h
                          · replace h := h.2 c
                            exact hk _ _ hF h
  · replace h := h.2 c
    refine ⟨h.1, ?_⟩
    replace h := h.2
    intro z26 e
    replace h := h z26 e
    intro z27 e
    replace h := h z27 e
    intro z28 e
    replace h := h z28 e
    exact hk82 _ hF h
theorem fml_count_82 {K K' : mS → Int32 → Prop} {S0 : mS} (hk : ∀ S1 r1, Fr [0] [] [] S0 S1 → K S1 r1 → K' S1 r1) : ∀ (n : Nat) (u : Int32 × Int32 × Int32 × Int32 × Int32 × mS), Fr [0] [] [] S0 u.2.2.2.2.2 → it (ls_count_82 K) n u → it (ls_count_82 K') n u := by
  intro n
  induction n with
  | zero => exact fun _ _ h => h
  | succ n ih => exact fun u hF h => fm_count_82 hk ih hF h
theorem fm_count_68 {K K' : mS → Int32 → Prop} {k12 k12' : Int32 × Int32 × Int32 × Int32 × mS → Prop} {S0 : mS} (hk : ∀ S1 r1, Fr [0] [] [] S0 S1 → K S1 r1 → K' S1 r1) (hk12 : ∀ u : Int32 × Int32 × Int32 × Int32 × mS, Fr [0] [] [] S0 u.2.2.2.2 → k12 u → k12' u) {x1 : Int32} {x2 : Int32} {x4 : Int32} {y0 : Int32} {y1 : Int32} {S : mS} (hF : Fr [0] [] [] S0 S) (h : wp_count_68 K k12 x1 x2 x4 y0 y1 S) : wp_count_68 K' k12' x1 x2 x4 y0 y1 S := by
  unfold wp_count_68 at h ⊢
  intro z10 e
  replace h := h z10 e
  intro z11 e
  replace h := h z11 e
  exact hk12 _ hF h
theorem fm_count_63 {K K' : mS → Int32 → Prop} {k12 k12' : Int32 × Int32 × Int32 × Int32 × mS → Prop} {S0 : mS} (hk : ∀ S1 r1, Fr [0] [] [] S0 S1 → K S1 r1 → K' S1 r1) (hk12 : ∀ u : Int32 × Int32 × Int32 × Int32 × mS, Fr [0] [] [] S0 u.2.2.2.2 → k12 u → k12' u) {x1 : Int32} {x2 : Int32} {x4 : Int32} {y0 : Int32} {S : mS} (hF : Fr [0] [] [] S0 S) (h : wp_count_63 K k12 x1 x2 x4 y0 S) : wp_count_63 K' k12' x1 x2 x4 y0 S := by
  unfold wp_count_63 at h ⊢
  exact fm_count_68 hk hk12 hF h
theorem fm_count_38 {K K' : mS → Int32 → Prop} {k12 k12' : Int32 × Int32 × Int32 × Int32 × mS → Prop} {S0 : mS} (hk : ∀ S1 r1, Fr [0] [] [] S0 S1 → K S1 r1 → K' S1 r1) (hk12 : ∀ u : Int32 × Int32 × Int32 × Int32 × mS, Fr [0] [] [] S0 u.2.2.2.2 → k12 u → k12' u) {x1 : Int32} {x3 : Int32} {x4 : Int32} {y0 : Int32} {y1 : Int32} {S : mS} (hF : Fr [0] [] [] S0 S) (h : wp_count_38 K k12 x1 x3 x4 y0 y1 S) : wp_count_38 K' k12' x1 x3 x4 y0 y1 S := by
  unfold wp_count_38 at h ⊢
  intro z5 e
  replace h := h z5 e
  refine ⟨h.1, ?_⟩
  replace h := h.2
  intro z6 e
  replace h := h z6 e
  refine ⟨fun c => ?_, fun c => ?_⟩
  · replace h := h.1 c
    exact fm_count_63 hk hk12 hF h
  · replace h := h.2 c
    refine ⟨h.1, ?_⟩
    replace h := h.2
    intro z8 e
    replace h := h z8 e
    refine ⟨fun c => ?_, fun c => ?_⟩
    · replace h := h.1 c
      exact fm_count_68 hk hk12 hF h
    · replace h := h.2 c
      exact fm_count_63 hk hk12 hF h
theorem fm_count_12 {K K' : mS → Int32 → Prop} {k12 k12' : Int32 × Int32 × Int32 × Int32 × mS → Prop} {S0 : mS} (hk : ∀ S1 r1, Fr [0] [] [] S0 S1 → K S1 r1 → K' S1 r1) (hk12 : ∀ u : Int32 × Int32 × Int32 × Int32 × mS, Fr [0] [] [] S0 u.2.2.2.2 → k12 u → k12' u) {x1 : Int32} {x2 : Int32} {x3 : Int32} {x4 : Int32} {S : mS} (hF : Fr [0] [] [] S0 S) (h : wp_count_12 K k12 x1 x2 x3 x4 S) : wp_count_12 K' k12' x1 x2 x3 x4 S := by
  unfold wp_count_12 at h ⊢
  refine ⟨fun c => ?_, fun c => ?_⟩
  · replace h := h.1 c
    obtain ⟨n9, h⟩ := h
    exact ⟨n9, fml_count_82 hk n9 _ hF h⟩
  · replace h := h.2 c
    refine ⟨h.1, ?_⟩
    replace h := h.2
    intro z3 e
    replace h := h z3 e
    refine ⟨fun c => ?_, fun c => ?_⟩
    · replace h := h.1 c
      exact fm_count_38 hk hk12 hF h
    · replace h := h.2 c
      exact fm_count_38 hk hk12 hF h
theorem fml_count_12 {K K' : mS → Int32 → Prop} {S0 : mS} (hk : ∀ S1 r1, Fr [0] [] [] S0 S1 → K S1 r1 → K' S1 r1) : ∀ (n : Nat) (u : Int32 × Int32 × Int32 × Int32 × mS), Fr [0] [] [] S0 u.2.2.2.2 → it (ls_count_12 K) n u → it (ls_count_12 K') n u := by
  intro n
  induction n with
  | zero => exact fun _ _ h => h
  | succ n ih => exact fun u hF h => fm_count_12 hk ih hF h
theorem fm_count (a0 : Int32) : FmI [0] [] [] (wp_count a0) := by
  intro S0 K K' hk h
  have hF : Fr [0] [] [] S0 S0 := Fr_rf
  unfold wp_count at h ⊢
  intro S1 e
  replace h := h S1 e
  replace hF := Fr_z hF e (by decide)
  obtain ⟨n9, h⟩ := h
  exact ⟨n9, fml_count_12 hk n9 _ hF h⟩
theorem fm_isDigit (a0 : Int32) : FmI [] [] [] (wp_isDigit a0) := by
  intro S0 K K' hk h
  have hF : Fr [] [] [] S0 S0 := Fr_rf
  unfold wp_isDigit at h ⊢
  refine ⟨fun c => ?_, fun c => ?_⟩
  · replace h := h.1 c
    exact hk _ _ hF h
  · replace h := h.2 c
    refine ⟨fun c => ?_, fun c => ?_⟩
    · replace h := h.1 c
      exact hk _ _ hF h
    · replace h := h.2 c
      exact hk _ _ hF h
theorem fm_isLetter (a0 : Int32) : FmI [] [] [] (wp_isLetter a0) := by
  intro S0 K K' hk h
  have hF : Fr [] [] [] S0 S0 := Fr_rf
  unfold wp_isLetter at h ⊢
  refine ⟨fun c => ?_, fun c => ?_⟩
  · replace h := h.1 c
    exact hk _ _ hF h
  · replace h := h.2 c
    refine ⟨fun c => ?_, fun c => ?_⟩
    · replace h := h.1 c
      exact hk _ _ hF h
    · replace h := h.2 c
      exact hk _ _ hF h
theorem fm_isSignOf (a0 : Int32) : FmI [] [] [] (wp_isSignOf a0) := by
  intro S0 K K' hk h
  have hF : Fr [] [] [] S0 S0 := Fr_rf
  unfold wp_isSignOf at h ⊢
  refine ⟨fun c => ?_, fun c => ?_⟩
  · replace h := h.1 c
    exact hk _ _ hF h
  · replace h := h.2 c
    refine ⟨fun c => ?_, fun c => ?_⟩
    · replace h := h.1 c
      exact hk _ _ hF h
    · replace h := h.2 c
      refine ⟨fun c => ?_, fun c => ?_⟩
      · replace h := h.1 c
        exact hk _ _ hF h
      · replace h := h.2 c
        refine ⟨fun c => ?_, fun c => ?_⟩
        · replace h := h.1 c
          exact hk _ _ hF h
        · replace h := h.2 c
          refine ⟨fun c => ?_, fun c => ?_⟩
          · replace h := h.1 c
            exact hk _ _ hF h
          · replace h := h.2 c
            refine ⟨fun c => ?_, fun c => ?_⟩
            · replace h := h.1 c
              exact hk _ _ hF h
            · replace h := h.2 c
              refine ⟨fun c => ?_, fun c => ?_⟩
              · replace h := h.1 c
                exact hk _ _ hF h
              · replace h := h.2 c
                refine ⟨fun c => ?_, fun c => ?_⟩
                · replace h := h.1 c
                  exact hk _ _ hF h
                · replace h := h.2 c
                  refine ⟨fun c => ?_, fun c => ?_⟩
                  · replace h := h.1 c
                    exact hk _ _ hF h
                  · replace h := h.2 c
                    refine ⟨fun c => ?_, fun c => ?_⟩
                    · replace h := h.1 c
                      exact hk _ _ hF h
                    · replace h := h.2 c
                      refine ⟨fun c => ?_, fun c => ?_⟩
                      · replace h := h.1 c
                        exact hk _ _ hF h
                      · replace h := h.2 c
                        refine ⟨fun c => ?_, fun c => ?_⟩
                        · replace h := h.1 c
                          exact hk _ _ hF h
                        · replace h := h.2 c
                          refine ⟨fun c => ?_, fun c => ?_⟩
                          · replace h := h.1 c
                            exact hk _ _ hF h
                          · replace h := h.2 c
                            exact hk _ _ hF h
theorem fm_rank (a0 : Int32) : FmI [] [] [] (wp_rank a0) := by
  intro S0 K K' hk h
  have hF : Fr [] [] [] S0 S0 := Fr_rf
  unfold wp_rank at h ⊢
  refine fm_isLetter _ _ _ _ (fun S1 r1 hG h => ?_) h
  replace hF := Fr_t hF hG (by decide) (by decide) (by decide)
  refine ⟨fun c => ?_, fun c => ?_⟩
  · replace h := h.1 c
    intro z3 e
    replace h := h z3 e
    exact hk _ _ hF h
  · replace h := h.2 c
    intro z4 e
    replace h := h z4 e
    exact hk _ _ hF h
theorem fm_cutAll_279 {K K' : mS → Prop} {k17 k17' : Int32 × Int32 × mS → Prop} {S0 : mS} (hk : ∀ S1, Fr [1, 2, 3, 4] [1, 2] [3] S0 S1 → K S1 → K' S1) (hk17 : ∀ u : Int32 × Int32 × mS, Fr [1, 2, 3, 4] [1, 2] [3] S0 u.2.2 → k17 u → k17' u) {x1 : Int32} {x2 : Int32} {x5 : Int64} {S : mS} (hF : Fr [1, 2, 3, 4] [1, 2] [3] S0 S) (h : wp_cutAll_279 K k17 x1 x2 x5 S) : wp_cutAll_279 K' k17' x1 x2 x5 S := by
  unfold wp_cutAll_279 at h ⊢
  refine ⟨h.1, ?_⟩
  replace h := h.2
  intro S37 e
  replace h := h S37 e
  replace hF := Fr_g hF e (by decide)
  intro z38 e
  replace h := h z38 e
  exact hk17 _ hF h
theorem fm_cutAll_275 {K K' : mS → Prop} {k17 k17' : Int32 × Int32 × mS → Prop} {S0 : mS} (hk : ∀ S1, Fr [1, 2, 3, 4] [1, 2] [3] S0 S1 → K S1 → K' S1) (hk17 : ∀ u : Int32 × Int32 × mS, Fr [1, 2, 3, 4] [1, 2] [3] S0 u.2.2 → k17 u → k17' u) {x1 : Int32} {x2 : Int32} {x5 : Int64} {y1 : Int32} {y2 : Int32} {S : mS} (hF : Fr [1, 2, 3, 4] [1, 2] [3] S0 S) (h : wp_cutAll_275 K k17 x1 x2 x5 y1 y2 S) : wp_cutAll_275 K' k17' x1 x2 x5 y1 y2 S := by
  unfold wp_cutAll_275 at h ⊢
  refine ⟨h.1, ?_⟩
  replace h := h.2
  intro S54 e
  replace h := h S54 e
  replace hF := Fr_f hF e (by decide)
  intro z55 e
  replace h := h z55 e
  exact fm_cutAll_279 hk hk17 hF h
theorem fm_cutAll_250 {K K' : mS → Prop} {k17 k17' : Int32 × Int32 × mS → Prop} {S0 : mS} (hk : ∀ S1, Fr [1, 2, 3, 4] [1, 2] [3] S0 S1 → K S1 → K' S1) (hk17 : ∀ u : Int32 × Int32 × mS, Fr [1, 2, 3, 4] [1, 2] [3] S0 u.2.2 → k17 u → k17' u) {x1 : Int32} {x2 : Int32} {x5 : Int64} {y1 : Int32} {y2 : Int32} {S : mS} (hF : Fr [1, 2, 3, 4] [1, 2] [3] S0 S) (h : wp_cutAll_250 K k17 x1 x2 x5 y1 y2 S) : wp_cutAll_250 K' k17' x1 x2 x5 y1 y2 S := by
  unfold wp_cutAll_250 at h ⊢
  refine ⟨h.1, ?_⟩
  replace h := h.2
  intro S53 e
  replace h := h S53 e
  replace hF := Fr_f hF e (by decide)
  exact fm_cutAll_279 hk hk17 hF h
theorem fm_cutAll_231 {K K' : mS → Prop} {k17 k17' : Int32 × Int32 × mS → Prop} {S0 : mS} (hk : ∀ S1, Fr [1, 2, 3, 4] [1, 2] [3] S0 S1 → K S1 → K' S1) (hk17 : ∀ u : Int32 × Int32 × mS, Fr [1, 2, 3, 4] [1, 2] [3] S0 u.2.2 → k17 u → k17' u) {x1 : Int32} {x2 : Int32} {x4 : Int32} {x5 : Int64} {S : mS} (hF : Fr [1, 2, 3, 4] [1, 2] [3] S0 S) (h : wp_cutAll_231 K k17 x1 x2 x4 x5 S) : wp_cutAll_231 K' k17' x1 x2 x4 x5 S := by
  unfold wp_cutAll_231 at h ⊢
  intro z51 e
  replace h := h z51 e
  refine ⟨fun c => ?_, fun c => ?_⟩
  · replace h := h.1 c
    exact fm_cutAll_250 hk hk17 hF h
  · replace h := h.2 c
    exact fm_cutAll_250 hk hk17 hF h
theorem fm_cutAll_223 {K K' : mS → Prop} {k17 k17' : Int32 × Int32 × mS → Prop} {k171 k171' : Int32 × Int32 × Int32 × Int64 × mS → Prop} {S0 : mS} (hk : ∀ S1, Fr [1, 2, 3, 4] [1, 2] [3] S0 S1 → K S1 → K' S1) (hk17 : ∀ u : Int32 × Int32 × mS, Fr [1, 2, 3, 4] [1, 2] [3] S0 u.2.2 → k17 u → k17' u) (hk171 : ∀ u : Int32 × Int32 × Int32 × Int64 × mS, Fr [1, 2, 3, 4] [1, 2] [3] S0 u.2.2.2.2 → k171 u → k171' u) {x1 : Int32} {x2 : Int32} {x4 : Int32} {y0 : Int64} {S : mS} (hF : Fr [1, 2, 3, 4] [1, 2] [3] S0 S) (h : wp_cutAll_223 K k17 k171 x1 x2 x4 y0 S) : wp_cutAll_223 K' k17' k171' x1 x2 x4 y0 S := by
  unfold wp_cutAll_223 at h ⊢
  intro z50 e
  replace h := h z50 e
  exact hk171 _ hF h
theorem fm_cutAll_171 {K K' : mS → Prop} {k17 k17' : Int32 × Int32 × mS → Prop} {k171 k171' : Int32 × Int32 × Int32 × Int64 × mS → Prop} {S0 : mS} (hk : ∀ S1, Fr [1, 2, 3, 4] [1, 2] [3] S0 S1 → K S1 → K' S1) (hk17 : ∀ u : Int32 × Int32 × mS, Fr [1, 2, 3, 4] [1, 2] [3] S0 u.2.2 → k17 u → k17' u) (hk171 : ∀ u : Int32 × Int32 × Int32 × Int64 × mS, Fr [1, 2, 3, 4] [1, 2] [3] S0 u.2.2.2.2 → k171 u → k171' u) {x1 : Int32} {x2 : Int32} {x4 : Int32} {x5 : Int64} {S : mS} (hF : Fr [1, 2, 3, 4] [1, 2] [3] S0 S) (h : wp_cutAll_171 K k17 k171 x1 x2 x4 x5 S) : wp_cutAll_171 K' k17' k171' x1 x2 x4 x5 S := by
  unfold wp_cutAll_171 at h ⊢
  refine ⟨fun c => ?_, fun c => ?_⟩
  · replace h := h.1 c
    exact fm_cutAll_231 hk hk17 hF h
  · replace h := h.2 c
    refine ⟨h.1, ?_⟩
    replace h := h.2
    intro z40 e
    replace h := h z40 e
    refine fm_isDigit _ _ _ _ (fun S41 r41 hG h => ?_) h
    replace hF := Fr_t hF hG (by decide) (by decide) (by decide)
    refine ⟨fun c => ?_, fun c => ?_⟩
    · replace h := h.1 c
      exact fm_cutAll_231 hk hk17 hF h
    · replace h := h.2 c
      intro z43 e
      replace h := h z43 e
      refine ⟨fun c => ?_, fun c => ?_⟩
      · replace h := h.1 c
        exact fm_cutAll_223 hk hk17 hk171 hF h
      · replace h := h.2 c
        intro z45 e
        replace h := h z45 e
        refine ⟨h.1, ?_⟩
        replace h := h.2
        intro z46 e
        replace h := h z46 e
        intro z47 e
        replace h := h z47 e
        intro z48 e
        replace h := h z48 e
        intro z49 e
        replace h := h z49 e
        exact fm_cutAll_223 hk hk17 hk171 hF h
theorem fml_cutAll_171 {K K' : mS → Prop} {k17 k17' : Int32 × Int32 × mS → Prop} {S0 : mS} (hk : ∀ S1, Fr [1, 2, 3, 4] [1, 2] [3] S0 S1 → K S1 → K' S1) (hk17 : ∀ u : Int32 × Int32 × mS, Fr [1, 2, 3, 4] [1, 2] [3] S0 u.2.2 → k17 u → k17' u) : ∀ (n : Nat) (u : Int32 × Int32 × Int32 × Int64 × mS), Fr [1, 2, 3, 4] [1, 2] [3] S0 u.2.2.2.2 → it (ls_cutAll_171 K k17) n u → it (ls_cutAll_171 K' k17') n u := by
  intro n
  induction n with
  | zero => exact fun _ _ h => h
  | succ n ih => exact fun u hF h => fm_cutAll_171 hk hk17 ih hF h
theorem fm_cutAll_160 {K K' : mS → Prop} {k17 k17' : Int32 × Int32 × mS → Prop} {S0 : mS} (hk : ∀ S1, Fr [1, 2, 3, 4] [1, 2] [3] S0 S1 → K S1 → K' S1) (hk17 : ∀ u : Int32 × Int32 × mS, Fr [1, 2, 3, 4] [1, 2] [3] S0 u.2.2 → k17 u → k17' u) {x1 : Int32} {x2 : Int32} {x5 : Int64} {y1 : Int32} {y2 : Int32} {S : mS} (hF : Fr [1, 2, 3, 4] [1, 2] [3] S0 S) (h : wp_cutAll_160 K k17 x1 x2 x5 y1 y2 S) : wp_cutAll_160 K' k17' x1 x2 x5 y1 y2 S := by
  unfold wp_cutAll_160 at h ⊢
  refine ⟨h.1, ?_⟩
  replace h := h.2
  intro S36 e
  replace h := h S36 e
  replace hF := Fr_f hF e (by decide)
  exact fm_cutAll_279 hk hk17 hF h
theorem fm_cutAll_141 {K K' : mS → Prop} {k17 k17' : Int32 × Int32 × mS → Prop} {S0 : mS} (hk : ∀ S1, Fr [1, 2, 3, 4] [1, 2] [3] S0 S1 → K S1 → K' S1) (hk17 : ∀ u : Int32 × Int32 × mS, Fr [1, 2, 3, 4] [1, 2] [3] S0 u.2.2 → k17 u → k17' u) {x1 : Int32} {x2 : Int32} {x4 : Int32} {x5 : Int64} {S : mS} (hF : Fr [1, 2, 3, 4] [1, 2] [3] S0 S) (h : wp_cutAll_141 K k17 x1 x2 x4 x5 S) : wp_cutAll_141 K' k17' x1 x2 x4 x5 S := by
  unfold wp_cutAll_141 at h ⊢
  intro z34 e
  replace h := h z34 e
  refine ⟨fun c => ?_, fun c => ?_⟩
  · replace h := h.1 c
    exact fm_cutAll_160 hk hk17 hF h
  · replace h := h.2 c
    exact fm_cutAll_160 hk hk17 hF h
theorem fm_cutAll_133 {K K' : mS → Prop} {k17 k17' : Int32 × Int32 × mS → Prop} {k70 k70' : Int32 × Int32 × Int32 × Int64 × mS → Prop} {S0 : mS} (hk : ∀ S1, Fr [1, 2, 3, 4] [1, 2] [3] S0 S1 → K S1 → K' S1) (hk17 : ∀ u : Int32 × Int32 × mS, Fr [1, 2, 3, 4] [1, 2] [3] S0 u.2.2 → k17 u → k17' u) (hk70 : ∀ u : Int32 × Int32 × Int32 × Int64 × mS, Fr [1, 2, 3, 4] [1, 2] [3] S0 u.2.2.2.2 → k70 u → k70' u) {x1 : Int32} {x2 : Int32} {x4 : Int32} {y0 : Int64} {S : mS} (hF : Fr [1, 2, 3, 4] [1, 2] [3] S0 S) (h : wp_cutAll_133 K k17 k70 x1 x2 x4 y0 S) : wp_cutAll_133 K' k17' k70' x1 x2 x4 y0 S := by
  unfold wp_cutAll_133 at h ⊢
  intro z33 e
  replace h := h z33 e
  exact hk70 _ hF h
theorem fm_cutAll_102 {K K' : mS → Prop} {k17 k17' : Int32 × Int32 × mS → Prop} {k70 k70' : Int32 × Int32 × Int32 × Int64 × mS → Prop} {S0 : mS} (hk : ∀ S1, Fr [1, 2, 3, 4] [1, 2] [3] S0 S1 → K S1 → K' S1) (hk17 : ∀ u : Int32 × Int32 × mS, Fr [1, 2, 3, 4] [1, 2] [3] S0 u.2.2 → k17 u → k17' u) (hk70 : ∀ u : Int32 × Int32 × Int32 × Int64 × mS, Fr [1, 2, 3, 4] [1, 2] [3] S0 u.2.2.2.2 → k70 u → k70' u) {x1 : Int32} {x2 : Int32} {x4 : Int32} {x5 : Int64} {S : mS} (hF : Fr [1, 2, 3, 4] [1, 2] [3] S0 S) (h : wp_cutAll_102 K k17 k70 x1 x2 x4 x5 S) : wp_cutAll_102 K' k17' k70' x1 x2 x4 x5 S := by
  unfold wp_cutAll_102 at h ⊢
  intro z26 e
  replace h := h z26 e
  refine ⟨fun c => ?_, fun c => ?_⟩
  · replace h := h.1 c
    exact fm_cutAll_133 hk hk17 hk70 hF h
  · replace h := h.2 c
    intro z28 e
    replace h := h z28 e
    refine ⟨h.1, ?_⟩
    replace h := h.2
    intro z29 e
    replace h := h z29 e
    refine fm_rank _ _ _ _ (fun S30 r30 hG h => ?_) h
    replace hF := Fr_t hF hG (by decide) (by decide) (by decide)
    intro z31 e
    replace h := h z31 e
    intro z32 e
    replace h := h z32 e
    exact fm_cutAll_133 hk hk17 hk70 hF h
theorem fm_cutAll_70 {K K' : mS → Prop} {k17 k17' : Int32 × Int32 × mS → Prop} {k70 k70' : Int32 × Int32 × Int32 × Int64 × mS → Prop} {S0 : mS} (hk : ∀ S1, Fr [1, 2, 3, 4] [1, 2] [3] S0 S1 → K S1 → K' S1) (hk17 : ∀ u : Int32 × Int32 × mS, Fr [1, 2, 3, 4] [1, 2] [3] S0 u.2.2 → k17 u → k17' u) (hk70 : ∀ u : Int32 × Int32 × Int32 × Int64 × mS, Fr [1, 2, 3, 4] [1, 2] [3] S0 u.2.2.2.2 → k70 u → k70' u) {x1 : Int32} {x2 : Int32} {x4 : Int32} {x5 : Int64} {S : mS} (hF : Fr [1, 2, 3, 4] [1, 2] [3] S0 S) (h : wp_cutAll_70 K k17 k70 x1 x2 x4 x5 S) : wp_cutAll_70 K' k17' k70' x1 x2 x4 x5 S := by
  unfold wp_cutAll_70 at h ⊢
  refine ⟨fun c => ?_, fun c => ?_⟩
  · replace h := h.1 c
    exact fm_cutAll_141 hk hk17 hF h
  · replace h := h.2 c
    refine ⟨h.1, ?_⟩
    replace h := h.2
    intro z20 e
    replace h := h z20 e
    refine fm_isLetter _ _ _ _ (fun S21 r21 hG h => ?_) h
    replace hF := Fr_t hF hG (by decide) (by decide) (by decide)
    refine ⟨fun c => ?_, fun c => ?_⟩
    · replace h := h.1 c
      exact fm_cutAll_102 hk hk17 hk70 hF h
    · replace h := h.2 c
      refine ⟨h.1, ?_⟩
      replace h := h.2
      intro z23 e
      replace h := h z23 e
      refine fm_isDigit _ _ _ _ (fun S24 r24 hG h => ?_) h
      replace hF := Fr_t hF hG (by decide) (by decide) (by decide)
      refine ⟨fun c => ?_, fun c => ?_⟩
      · replace h := h.1 c
        exact fm_cutAll_141 hk hk17 hF h
      · replace h := h.2 c
        exact fm_cutAll_102 hk hk17 hk70 hF h
theorem fml_cutAll_70 {K K' : mS → Prop} {k17 k17' : Int32 × Int32 × mS → Prop} {S0 : mS} (hk : ∀ S1, Fr [1, 2, 3, 4] [1, 2] [3] S0 S1 → K S1 → K' S1) (hk17 : ∀ u : Int32 × Int32 × mS, Fr [1, 2, 3, 4] [1, 2] [3] S0 u.2.2 → k17 u → k17' u) : ∀ (n : Nat) (u : Int32 × Int32 × Int32 × Int64 × mS), Fr [1, 2, 3, 4] [1, 2] [3] S0 u.2.2.2.2 → it (ls_cutAll_70 K k17) n u → it (ls_cutAll_70 K' k17') n u := by
  intro n
  induction n with
  | zero => exact fun _ _ h => h
  | succ n ih => exact fun u hF h => fm_cutAll_70 hk hk17 ih hF h
theorem fm_cutAll_44 {K K' : mS → Prop} {k17 k17' : Int32 × Int32 × mS → Prop} {S0 : mS} (hk : ∀ S1, Fr [1, 2, 3, 4] [1, 2] [3] S0 S1 → K S1 → K' S1) (hk17 : ∀ u : Int32 × Int32 × mS, Fr [1, 2, 3, 4] [1, 2] [3] S0 u.2.2 → k17 u → k17' u) {x1 : Int32} {x2 : Int32} {S : mS} (hF : Fr [1, 2, 3, 4] [1, 2] [3] S0 S) (h : wp_cutAll_44 K k17 x1 x2 S) : wp_cutAll_44 K' k17' x1 x2 S := by
  unfold wp_cutAll_44 at h ⊢
  intro z56 e
  replace h := h z56 e
  exact hk17 _ hF h
theorem fm_cutAll_17 {K K' : mS → Prop} {k17 k17' : Int32 × Int32 × mS → Prop} {S0 : mS} (hk : ∀ S1, Fr [1, 2, 3, 4] [1, 2] [3] S0 S1 → K S1 → K' S1) (hk17 : ∀ u : Int32 × Int32 × mS, Fr [1, 2, 3, 4] [1, 2] [3] S0 u.2.2 → k17 u → k17' u) {x1 : Int32} {x2 : Int32} {S : mS} (hF : Fr [1, 2, 3, 4] [1, 2] [3] S0 S) (h : wp_cutAll_17 K k17 x1 x2 S) : wp_cutAll_17 K' k17' x1 x2 S := by
  unfold wp_cutAll_17 at h ⊢
  refine ⟨fun c => ?_, fun c => ?_⟩
  · replace h := h.1 c
    refine ⟨h.1, ?_⟩
    replace h := h.2
    intro S4 e
    replace h := h S4 e
    replace hF := Fr_f hF e (by decide)
    refine ⟨h.1, ?_⟩
    replace h := h.2
    intro S5 e
    replace h := h S5 e
    replace hF := Fr_f hF e (by decide)
    intro S6 e
    replace h := h S6 e
    replace hF := Fr_z hF e (by decide)
    intro S7 e
    replace h := h S7 e
    replace hF := Fr_z hF e (by decide)
    exact hk _ hF h
  · replace h := h.2 c
    refine ⟨h.1, ?_⟩
    replace h := h.2
    intro z8 e
    replace h := h z8 e
    refine ⟨fun c => ?_, fun c => ?_⟩
    · replace h := h.1 c
      exact fm_cutAll_44 hk hk17 hF h
    · replace h := h.2 c
      refine ⟨fun c => ?_, fun c => ?_⟩
      · replace h := h.1 c
        refine ⟨h.1, ?_⟩
        replace h := h.2
        intro S11 e
        replace h := h S11 e
        replace hF := Fr_f hF e (by decide)
        refine fm_isLetter _ _ _ _ (fun S12 r12 hG h => ?_) h
        replace hF := Fr_t hF hG (by decide) (by decide) (by decide)
        refine ⟨fun c => ?_, fun c => ?_⟩
        · replace h := h.1 c
          refine fm_isDigit _ _ _ _ (fun S14 r14 hG h => ?_) h
          replace hF := Fr_t hF hG (by decide) (by decide) (by decide)
          refine ⟨fun c => ?_, fun c => ?_⟩
          · replace h := h.1 c
            intro z16 e
            replace h := h z16 e
            refine fm_isSignOf _ _ _ _ (fun S17 r17 hG h => ?_) h
            replace hF := Fr_t hF hG (by decide) (by decide) (by decide)
            refine ⟨fun c => ?_, fun c => ?_⟩
            · replace h := h.1 c
              exact fm_cutAll_275 hk hk17 hF h
            · replace h := h.2 c
              exact fm_cutAll_275 hk hk17 hF h
          · replace h := h.2 c
            obtain ⟨n9, h⟩ := h
            exact ⟨n9, fml_cutAll_171 hk hk17 n9 _ hF h⟩
        · replace h := h.2 c
          obtain ⟨n9, h⟩ := h
          exact ⟨n9, fml_cutAll_70 hk hk17 n9 _ hF h⟩
      · replace h := h.2 c
        exact fm_cutAll_44 hk hk17 hF h
theorem fml_cutAll_17 {K K' : mS → Prop} {S0 : mS} (hk : ∀ S1, Fr [1, 2, 3, 4] [1, 2] [3] S0 S1 → K S1 → K' S1) : ∀ (n : Nat) (u : Int32 × Int32 × mS), Fr [1, 2, 3, 4] [1, 2] [3] S0 u.2.2 → it (ls_cutAll_17 K) n u → it (ls_cutAll_17 K') n u := by
  intro n
  induction n with
  | zero => exact fun _ _ h => h
  | succ n ih => exact fun u hF h => fm_cutAll_17 hk ih hF h
theorem fm_cutAll : FmV [1, 2, 3, 4] [1, 2] [3] (wp_cutAll) := by
  intro S0 K K' hk h
  have hF : Fr [1, 2, 3, 4] [1, 2] [3] S0 S0 := Fr_rf
  unfold wp_cutAll at h ⊢
  intro S1 e
  replace h := h S1 e
  replace hF := Fr_z hF e (by decide)
  intro S2 e
  replace h := h S2 e
  replace hF := Fr_z hF e (by decide)
  obtain ⟨n9, h⟩ := h
  exact ⟨n9, fml_cutAll_17 hk n9 _ hF h⟩
theorem fm_due_48 {K K' : mS → Int32 → Prop} {k2 k2' : Int64 × Int32 × mS → Prop} {S0 : mS} (hk : ∀ S1 r1, Fr [] [] [] S0 S1 → K S1 r1 → K' S1 r1) (hk2 : ∀ u : Int64 × Int32 × mS, Fr [] [] [] S0 u.2.2 → k2 u → k2' u) {x1 : Int64} {x3 : Int32} {S : mS} (hF : Fr [] [] [] S0 S) (h : wp_due_48 K k2 x1 x3 S) : wp_due_48 K' k2' x1 x3 S := by
  unfold wp_due_48 at h ⊢
  intro z10 e
  replace h := h z10 e
  exact hk2 _ hF h
theorem fm_due_2 {K K' : mS → Int32 → Prop} {k2 k2' : Int64 × Int32 × mS → Prop} {S0 : mS} (hk : ∀ S1 r1, Fr [] [] [] S0 S1 → K S1 r1 → K' S1 r1) (hk2 : ∀ u : Int64 × Int32 × mS, Fr [] [] [] S0 u.2.2 → k2 u → k2' u) {x1 : Int64} {x3 : Int32} {S : mS} (hF : Fr [] [] [] S0 S) (h : wp_due_2 K k2 x1 x3 S) : wp_due_2 K' k2' x1 x3 S := by
  unfold wp_due_2 at h ⊢
  refine ⟨fun c => ?_, fun c => ?_⟩
  · replace h := h.1 c
    exact hk _ _ hF h
  · replace h := h.2 c
    refine ⟨h.1, ?_⟩
    replace h := h.2
    intro z2 e
    replace h := h z2 e
    refine ⟨h.1, ?_⟩
    replace h := h.2
    intro z3 e
    replace h := h z3 e
    refine ⟨fun c => ?_, fun c => ?_⟩
    · replace h := h.1 c
      exact fm_due_48 hk hk2 hF h
    · replace h := h.2 c
      refine ⟨h.1, ?_⟩
      replace h := h.2
      intro z5 e
      replace h := h z5 e
      refine ⟨h.1, ?_⟩
      replace h := h.2
      intro z6 e
      replace h := h z6 e
      intro z7 e
      replace h := h z7 e
      refine ⟨fun c => ?_, fun c => ?_⟩
      · replace h := h.1 c
        exact fm_due_48 hk hk2 hF h
      · replace h := h.2 c
        refine ⟨h.1, ?_⟩
        replace h := h.2
        intro z9 e
        replace h := h z9 e
        exact hk _ _ hF h
theorem fml_due_2 {K K' : mS → Int32 → Prop} {S0 : mS} (hk : ∀ S1 r1, Fr [] [] [] S0 S1 → K S1 r1 → K' S1 r1) : ∀ (n : Nat) (u : Int64 × Int32 × mS), Fr [] [] [] S0 u.2.2 → it (ls_due_2 K) n u → it (ls_due_2 K') n u := by
  intro n
  induction n with
  | zero => exact fun _ _ h => h
  | succ n ih => exact fun u hF h => fm_due_2 hk ih hF h
theorem fm_due (a0 : Int64) : FmI [] [] [] (wp_due a0) := by
  intro S0 K K' hk h
  have hF : Fr [] [] [] S0 S0 := Fr_rf
  unfold wp_due at h ⊢
  obtain ⟨n9, h⟩ := h
  exact ⟨n9, fml_due_2 hk n9 _ hF h⟩
theorem fm_enter (a0 : Int32) : FmV [] [68, 69, 70, 71] [] (wp_enter a0) := by
  intro S0 K K' hk h
  have hF : Fr [] [68, 69, 70, 71] [] S0 S0 := Fr_rf
  unfold wp_enter at h ⊢
  intro z1 e
  replace h := h z1 e
  refine ⟨h.1, ?_⟩
  replace h := h.2
  intro z2 e
  replace h := h z2 e
  intro z3 e
  replace h := h z3 e
  refine ⟨h.1, ?_⟩
  replace h := h.2
  intro S4 e
  replace h := h S4 e
  replace hF := Fr_f hF e (by decide)
  refine ⟨h.1, ?_⟩
  replace h := h.2
  intro S5 e
  replace h := h S5 e
  replace hF := Fr_f hF e (by decide)
  refine ⟨h.1, ?_⟩
  replace h := h.2
  intro S6 e
  replace h := h S6 e
  replace hF := Fr_f hF e (by decide)
  refine ⟨h.1, ?_⟩
  replace h := h.2
  intro z7 e
  replace h := h z7 e
  intro z8 e
  replace h := h z8 e
  refine ⟨h.1, ?_⟩
  replace h := h.2
  intro S9 e
  replace h := h S9 e
  replace hF := Fr_f hF e (by decide)
  exact hk _ hF h
theorem fm_failing_52 {K K' : mS → Int32 → Prop} {k5 k5' : Int32 × Int32 × mS → Prop} {S0 : mS} (hk : ∀ S1 r1, Fr [] [] [] S0 S1 → K S1 r1 → K' S1 r1) (hk5 : ∀ u : Int32 × Int32 × mS, Fr [] [] [] S0 u.2.2 → k5 u → k5' u) {x3 : Int32} {S : mS} (hF : Fr [] [] [] S0 S) (h : wp_failing_52 K k5 x3 S) : wp_failing_52 K' k5' x3 S := by
  unfold wp_failing_52 at h ⊢
  refine ⟨h.1, ?_⟩
  replace h := h.2
  intro z10 e
  replace h := h z10 e
  refine ⟨h.1, ?_⟩
  replace h := h.2
  intro z11 e
  replace h := h z11 e
  exact hk5 _ hF h
theorem fm_failing_30 {K K' : mS → Int32 → Prop} {k5 k5' : Int32 × Int32 × mS → Prop} {S0 : mS} (hk : ∀ S1 r1, Fr [] [] [] S0 S1 → K S1 r1 → K' S1 r1) (hk5 : ∀ u : Int32 × Int32 × mS, Fr [] [] [] S0 u.2.2 → k5 u → k5' u) {x3 : Int32} {x4 : Int32} {S : mS} (hF : Fr [] [] [] S0 S) (h : wp_failing_30 K k5 x3 x4 S) : wp_failing_30 K' k5' x3 x4 S := by
  unfold wp_failing_30 at h ⊢
  refine ⟨fun c => ?_, fun c => ?_⟩
  · replace h := h.1 c
    exact fm_failing_52 hk hk5 hF h
  · replace h := h.2 c
    refine ⟨h.1, ?_⟩
    replace h := h.2
    intro z7 e
    replace h := h z7 e
    refine ⟨fun c => ?_, fun c => ?_⟩
    · replace h := h.1 c
      exact fm_failing_52 hk hk5 hF h
    · replace h := h.2 c
      refine ⟨h.1, ?_⟩
      replace h := h.2
      intro z9 e
      replace h := h z9 e
      exact hk _ _ hF h
theorem fm_failing_5 {K K' : mS → Int32 → Prop} {k5 k5' : Int32 × Int32 × mS → Prop} {S0 : mS} (hk : ∀ S1 r1, Fr [] [] [] S0 S1 → K S1 r1 → K' S1 r1) (hk5 : ∀ u : Int32 × Int32 × mS, Fr [] [] [] S0 u.2.2 → k5 u → k5' u) {x3 : Int32} {x4 : Int32} {S : mS} (hF : Fr [] [] [] S0 S) (h : wp_failing_5 K k5 x3 x4 S) : wp_failing_5 K' k5' x3 x4 S := by
  unfold wp_failing_5 at h ⊢
  refine ⟨fun c => ?_, fun c => ?_⟩
  · replace h := h.1 c
    exact hk _ _ hF h
  · replace h := h.2 c
    refine ⟨fun c => ?_, fun c => ?_⟩
    · replace h := h.1 c
      exact fm_failing_30 hk hk5 hF h
    · replace h := h.2 c
      refine ⟨h.1, ?_⟩
      replace h := h.2
      intro z3 e
      replace h := h z3 e
      refine ⟨fun c => ?_, fun c => ?_⟩
      · replace h := h.1 c
        exact fm_failing_30 hk hk5 hF h
      · replace h := h.2 c
        refine ⟨h.1, ?_⟩
        replace h := h.2
        intro z5 e
        replace h := h z5 e
        exact hk _ _ hF h
theorem fml_failing_5 {K K' : mS → Int32 → Prop} {S0 : mS} (hk : ∀ S1 r1, Fr [] [] [] S0 S1 → K S1 r1 → K' S1 r1) : ∀ (n : Nat) (u : Int32 × Int32 × mS), Fr [] [] [] S0 u.2.2 → it (ls_failing_5 K) n u → it (ls_failing_5 K') n u := by
  intro n
  induction n with
  | zero => exact fun _ _ h => h
  | succ n ih => exact fun u hF h => fm_failing_5 hk ih hF h
theorem fm_failing (a0 : Int32) (a1 : Int32) : FmI [] [] [] (wp_failing a0 a1) := by
  intro S0 K K' hk h
  have hF : Fr [] [] [] S0 S0 := Fr_rf
  unfold wp_failing at h ⊢
  obtain ⟨n9, h⟩ := h
  exact ⟨n9, fml_failing_5 hk n9 _ hF h⟩
theorem fm_lay_69 {K K' : mS → Prop} {k3 k3' : Int64 × Int32 × mS → Prop} {S0 : mS} (hk : ∀ S1, Fr [1] [0] [] S0 S1 → K S1 → K' S1) (hk3 : ∀ u : Int64 × Int32 × mS, Fr [1] [0] [] S0 u.2.2 → k3 u → k3' u) {x1 : Int64} {x3 : Int32} {S : mS} (hF : Fr [1] [0] [] S0 S) (h : wp_lay_69 K k3 x1 x3 S) : wp_lay_69 K' k3' x1 x3 S := by
  unfold wp_lay_69 at h ⊢
  intro z8 e
  replace h := h z8 e
  exact hk3 _ hF h
theorem fm_lay_38 {K K' : mS → Prop} {k3 k3' : Int64 × Int32 × mS → Prop} {S0 : mS} (hk : ∀ S1, Fr [1] [0] [] S0 S1 → K S1 → K' S1) (hk3 : ∀ u : Int64 × Int32 × mS, Fr [1] [0] [] S0 u.2.2 → k3 u → k3' u) {x1 : Int64} {x3 : Int32} {x4 : Int32} {S : mS} (hF : Fr [1] [0] [] S0 S) (h : wp_lay_38 K k3 x1 x3 x4 S) : wp_lay_38 K' k3' x1 x3 x4 S := by
  unfold wp_lay_38 at h ⊢
  refine ⟨fun c => ?_, fun c => ?_⟩
  · replace h := h.1 c
    exact fm_lay_69 hk hk3 hF h
  · replace h := h.2 c
    refine ⟨h.1, ?_⟩
    replace h := h.2
    intro S10 e
    replace h := h S10 e
    replace hF := Fr_f hF e (by decide)
    intro z11 e
    replace h := h z11 e
    intro S12 e
    replace h := h S12 e
    replace hF := Fr_z hF e (by decide)
    exact fm_lay_69 hk hk3 hF h
theorem fm_lay_3 {K K' : mS → Prop} {k3 k3' : Int64 × Int32 × mS → Prop} {S0 : mS} (hk : ∀ S1, Fr [1] [0] [] S0 S1 → K S1 → K' S1) (hk3 : ∀ u : Int64 × Int32 × mS, Fr [1] [0] [] S0 u.2.2 → k3 u → k3' u) {x1 : Int64} {x3 : Int32} {S : mS} (hF : Fr [1] [0] [] S0 S) (h : wp_lay_3 K k3 x1 x3 S) : wp_lay_3 K' k3' x1 x3 S := by
  unfold wp_lay_3 at h ⊢
  refine ⟨fun c => ?_, fun c => ?_⟩
  · replace h := h.1 c
    exact hk _ hF h
  · replace h := h.2 c
    intro z2 e
    replace h := h z2 e
    intro z3 e
    replace h := h z3 e
    intro z4 e
    replace h := h z4 e
    refine ⟨fun c => ?_, fun c => ?_⟩
    · replace h := h.1 c
      exact fm_lay_38 hk hk3 hF h
    · replace h := h.2 c
      refine ⟨fun c => ?_, fun c => ?_⟩
      · replace h := h.1 c
        exact fm_lay_69 hk hk3 hF h
      · replace h := h.2 c
        refine ⟨fun c => ?_, fun c => ?_⟩
        · replace h := h.1 c
          exact fm_lay_69 hk hk3 hF h
        · replace h := h.2 c
          exact fm_lay_38 hk hk3 hF h
theorem fml_lay_3 {K K' : mS → Prop} {S0 : mS} (hk : ∀ S1, Fr [1] [0] [] S0 S1 → K S1 → K' S1) : ∀ (n : Nat) (u : Int64 × Int32 × mS), Fr [1] [0] [] S0 u.2.2 → it (ls_lay_3 K) n u → it (ls_lay_3 K') n u := by
  intro n
  induction n with
  | zero => exact fun _ _ h => h
  | succ n ih => exact fun u hF h => fm_lay_3 hk ih hF h
theorem fm_lay (a0 : Int64) : FmV [1] [0] [] (wp_lay a0) := by
  intro S0 K K' hk h
  have hF : Fr [1] [0] [] S0 S0 := Fr_rf
  unfold wp_lay at h ⊢
  obtain ⟨n9, h⟩ := h
  exact ⟨n9, fml_lay_3 hk n9 _ hF h⟩
theorem fm_feed (a0 : Int64) (a1 : Int64) (a2 : Int64) : FmI [0, 1] [0] [] (wp_feed a0 a1 a2) := by
  intro S0 K K' hk h
  have hF : Fr [0, 1] [0] [] S0 S0 := Fr_rf
  unfold wp_feed at h ⊢
  intro S1 e
  replace h := h S1 e
  replace hF := Fr_z hF e (by decide)
  refine fm_lay _ _ _ _ (fun S2 hG h => ?_) h
  replace hF := Fr_t hF hG (by decide) (by decide) (by decide)
  refine fm_lay _ _ _ _ (fun S3 hG h => ?_) h
  replace hF := Fr_t hF hG (by decide) (by decide) (by decide)
  refine fm_lay _ _ _ _ (fun S4 hG h => ?_) h
  replace hF := Fr_t hF hG (by decide) (by decide) (by decide)
  exact hk _ _ hF h
theorem fm_leave_85 {K K' : mS → Prop} {k16 k16' : Int32 × Int32 × Int32 × mS → Prop} {S0 : mS} (hk : ∀ S1, Fr [23, 28, 30, 32] [54, 55, 56, 61, 62, 63, 67, 68, 70, 71, 72, 73, 76, 77, 83, 84, 87] [] S0 S1 → K S1 → K' S1) (hk16 : ∀ u : Int32 × Int32 × Int32 × mS, Fr [23, 28, 30, 32] [54, 55, 56, 61, 62, 63, 67, 68, 70, 71, 72, 73, 76, 77, 83, 84, 87] [] S0 u.2.2.2 → k16 u → k16' u) {x1 : Int32} {x2 : Int32} {x3 : Int32} {S : mS} (hF : Fr [23, 28, 30, 32] [54, 55, 56, 61, 62, 63, 67, 68, 70, 71, 72, 73, 76, 77, 83, 84, 87] [] S0 S) (h : wp_leave_85 K k16 x1 x2 x3 S) : wp_leave_85 K' k16' x1 x2 x3 S := by
  unfold wp_leave_85 at h ⊢
  refine ⟨h.1, ?_⟩
  replace h := h.2
  intro z22 e
  replace h := h z22 e
  intro z23 e
  replace h := h z23 e
  refine ⟨h.1, ?_⟩
  replace h := h.2
  intro S24 e
  replace h := h S24 e
  replace hF := Fr_f hF e (by decide)
  exact hk16 _ hF h
theorem fm_leave_16 {K K' : mS → Prop} {k16 k16' : Int32 × Int32 × Int32 × mS → Prop} {S0 : mS} (hk : ∀ S1, Fr [23, 28, 30, 32] [54, 55, 56, 61, 62, 63, 67, 68, 70, 71, 72, 73, 76, 77, 83, 84, 87] [] S0 S1 → K S1 → K' S1) (hk16 : ∀ u : Int32 × Int32 × Int32 × mS, Fr [23, 28, 30, 32] [54, 55, 56, 61, 62, 63, 67, 68, 70, 71, 72, 73, 76, 77, 83, 84, 87] [] S0 u.2.2.2 → k16 u → k16' u) {x1 : Int32} {x2 : Int32} {x3 : Int32} {S : mS} (hF : Fr [23, 28, 30, 32] [54, 55, 56, 61, 62, 63, 67, 68, 70, 71, 72, 73, 76, 77, 83, 84, 87] [] S0 S) (h : wp_leave_16 K k16 x1 x2 x3 S) : wp_leave_16 K' k16' x1 x2 x3 S := by
  unfold wp_leave_16 at h ⊢
  refine ⟨h.1, ?_⟩
  replace h := h.2
  intro z3 e
  replace h := h z3 e
  refine ⟨fun c => ?_, fun c => ?_⟩
  · replace h := h.1 c
    refine ⟨fun c => ?_, fun c => ?_⟩
    · replace h := h.1 c
      refine ⟨fun c => ?_, fun c => ?_⟩
      · replace h := h.1 c
        refine ⟨h.1, ?_⟩
        replace h := h.2
        intro z7 e
        replace h := h z7 e
        intro S8 e
        replace h := h S8 e
        replace hF := Fr_z hF e (by decide)
        exact hk _ hF h
      · replace h := h.2 c
        refine ⟨h.1, ?_⟩
        replace h := h.2
        intro z9 e
        replace h := h z9 e
        intro S10 e
        replace h := h S10 e
        replace hF := Fr_z hF e (by decide)
        exact hk _ hF h
    · replace h := h.2 c
      refine fq_ends _ _ _ _ _ _ (fun S11 hG h => ?_) h
      replace hF := Fr_t hF hG (by decide) (by decide) (by decide)
      exact hk _ hF h
  · replace h := h.2 c
    intro z12 e
    replace h := h z12 e
    refine ⟨h.1, ?_⟩
    replace h := h.2
    intro z13 e
    replace h := h z13 e
    intro z14 e
    replace h := h z14 e
    intro z15 e
    replace h := h z15 e
    refine ⟨h.1, ?_⟩
    replace h := h.2
    intro z16 e
    replace h := h z16 e
    refine ⟨fun c => ?_, fun c => ?_⟩
    · replace h := h.1 c
      exact fm_leave_85 hk hk16 hF h
    · replace h := h.2 c
      refine ⟨h.1, ?_⟩
      replace h := h.2
      intro z18 e
      replace h := h z18 e
      refine ⟨h.1, ?_⟩
      replace h := h.2
      intro z19 e
      replace h := h z19 e
      refine ⟨fun c => ?_, fun c => ?_⟩
      · replace h := h.1 c
        exact fm_leave_85 hk hk16 hF h
      · replace h := h.2 c
        refine fm_toFinish _ _ _ _ _ _ (fun S21 hG h => ?_) h
        replace hF := Fr_t hF hG (by decide) (by decide) (by decide)
        exact hk _ hF h
theorem fml_leave_16 {K K' : mS → Prop} {S0 : mS} (hk : ∀ S1, Fr [23, 28, 30, 32] [54, 55, 56, 61, 62, 63, 67, 68, 70, 71, 72, 73, 76, 77, 83, 84, 87] [] S0 S1 → K S1 → K' S1) : ∀ (n : Nat) (u : Int32 × Int32 × Int32 × mS), Fr [23, 28, 30, 32] [54, 55, 56, 61, 62, 63, 67, 68, 70, 71, 72, 73, 76, 77, 83, 84, 87] [] S0 u.2.2.2 → it (ls_leave_16 K) n u → it (ls_leave_16 K') n u := by
  intro n
  induction n with
  | zero => exact fun _ _ h => h
  | succ n ih => exact fun u hF h => fm_leave_16 hk ih hF h
theorem fm_leave_15 {K K' : mS → Prop} {S0 : mS} (hk : ∀ S1, Fr [23, 28, 30, 32] [54, 55, 56, 61, 62, 63, 67, 68, 70, 71, 72, 73, 76, 77, 83, 84, 87] [] S0 S1 → K S1 → K' S1) {x1 : Int32} {x2 : Int32} {y0 : Int32} {S : mS} (hF : Fr [23, 28, 30, 32] [54, 55, 56, 61, 62, 63, 67, 68, 70, 71, 72, 73, 76, 77, 83, 84, 87] [] S0 S) (h : wp_leave_15 K x1 x2 y0 S) : wp_leave_15 K' x1 x2 y0 S := by
  unfold wp_leave_15 at h ⊢
  obtain ⟨n9, h⟩ := h
  exact ⟨n9, fml_leave_16 hk n9 _ hF h⟩
theorem fm_leave (a0 : Int32) (a1 : Int32) : FmV [23, 28, 30, 32] [54, 55, 56, 61, 62, 63, 67, 68, 70, 71, 72, 73, 76, 77, 83, 84, 87] [] (wp_leave a0 a1) := by
  intro S0 K K' hk h
  have hF : Fr [23, 28, 30, 32] [54, 55, 56, 61, 62, 63, 67, 68, 70, 71, 72, 73, 76, 77, 83, 84, 87] [] S0 S0 := Fr_rf
  unfold wp_leave at h ⊢
  refine ⟨fun c => ?_, fun c => ?_⟩
  · replace h := h.1 c
    refine ⟨h.1, ?_⟩
    replace h := h.2
    intro z2 e
    replace h := h z2 e
    exact fm_leave_15 hk hF h
  · replace h := h.2 c
    exact fm_leave_15 hk hF h
theorem fm_finished (a0 : Int32) : FmV [23, 28, 30, 32] [54, 55, 56, 58, 61, 62, 63, 67, 68, 70, 71, 72, 73, 76, 77, 83, 84, 87] [] (wp_finished a0) := by
  intro S0 K K' hk h
  have hF : Fr [23, 28, 30, 32] [54, 55, 56, 58, 61, 62, 63, 67, 68, 70, 71, 72, 73, 76, 77, 83, 84, 87] [] S0 S0 := Fr_rf
  unfold wp_finished at h ⊢
  refine ⟨h.1, ?_⟩
  replace h := h.2
  intro z1 e
  replace h := h z1 e
  intro z2 e
  replace h := h z2 e
  refine ⟨h.1, ?_⟩
  replace h := h.2
  intro S3 e
  replace h := h S3 e
  replace hF := Fr_f hF e (by decide)
  intro z4 e
  replace h := h z4 e
  refine ⟨h.1, ?_⟩
  replace h := h.2
  intro z5 e
  replace h := h z5 e
  intro z6 e
  replace h := h z6 e
  refine ⟨h.1, ?_⟩
  replace h := h.2
  intro z7 e
  replace h := h z7 e
  refine ⟨h.1, ?_⟩
  replace h := h.2
  intro z8 e
  replace h := h z8 e
  refine ⟨fun c => ?_, fun c => ?_⟩
  · replace h := h.1 c
    refine ⟨fun c => ?_, fun c => ?_⟩
    · replace h := h.1 c
      refine ⟨fun c => ?_, fun c => ?_⟩
      · replace h := h.1 c
        refine fm_leave _ _ _ _ _ (fun S12 hG h => ?_) h
        replace hF := Fr_t hF hG (by decide) (by decide) (by decide)
        exact hk _ hF h
      · replace h := h.2 c
        refine fm_raiseCancel _ _ _ (fun S13 hG h => ?_) h
        replace hF := Fr_t hF hG (by decide) (by decide) (by decide)
        exact hk _ hF h
    · replace h := h.2 c
      refine fm_raise _ _ _ _ (fun S14 hG h => ?_) h
      replace hF := Fr_t hF hG (by decide) (by decide) (by decide)
      exact hk _ hF h
  · replace h := h.2 c
    refine ⟨h.1, ?_⟩
    replace h := h.2
    intro z15 e
    replace h := h z15 e
    intro S16 e
    replace h := h S16 e
    replace hF := Fr_z hF e (by decide)
    exact hk _ hF h
theorem fm_finishing_50 {K K' : mS → Int32 → Prop} {k6 k6' : Int32 × Int32 × Int32 × mS → Prop} {S0 : mS} (hk : ∀ S1 r1, Fr [] [] [] S0 S1 → K S1 r1 → K' S1 r1) (hk6 : ∀ u : Int32 × Int32 × Int32 × mS, Fr [] [] [] S0 u.2.2.2 → k6 u → k6' u) {x3 : Int32} {x4 : Int32} {S : mS} (hF : Fr [] [] [] S0 S) (h : wp_finishing_50 K k6 x3 x4 S) : wp_finishing_50 K' k6' x3 x4 S := by
  unfold wp_finishing_50 at h ⊢
  refine ⟨h.1, ?_⟩
  replace h := h.2
  intro z9 e
  replace h := h z9 e
  refine ⟨h.1, ?_⟩
  replace h := h.2
  intro z10 e
  replace h := h z10 e
  exact hk6 _ hF h
theorem fm_finishing_26 {K K' : mS → Int32 → Prop} {k6 k6' : Int32 × Int32 × Int32 × mS → Prop} {S0 : mS} (hk : ∀ S1 r1, Fr [] [] [] S0 S1 → K S1 r1 → K' S1 r1) (hk6 : ∀ u : Int32 × Int32 × Int32 × mS, Fr [] [] [] S0 u.2.2.2 → k6 u → k6' u) {x3 : Int32} {x4 : Int32} {x5 : Int32} {S : mS} (hF : Fr [] [] [] S0 S) (h : wp_finishing_26 K k6 x3 x4 x5 S) : wp_finishing_26 K' k6' x3 x4 x5 S := by
  unfold wp_finishing_26 at h ⊢
  refine ⟨fun c => ?_, fun c => ?_⟩
  · replace h := h.1 c
    exact fm_finishing_50 hk hk6 hF h
  · replace h := h.2 c
    refine ⟨h.1, ?_⟩
    replace h := h.2
    intro z6 e
    replace h := h z6 e
    refine ⟨fun c => ?_, fun c => ?_⟩
    · replace h := h.1 c
      exact fm_finishing_50 hk hk6 hF h
    · replace h := h.2 c
      refine ⟨h.1, ?_⟩
      replace h := h.2
      intro z8 e
      replace h := h z8 e
      exact hk _ _ hF h
theorem fm_finishing_6 {K K' : mS → Int32 → Prop} {k6 k6' : Int32 × Int32 × Int32 × mS → Prop} {S0 : mS} (hk : ∀ S1 r1, Fr [] [] [] S0 S1 → K S1 r1 → K' S1 r1) (hk6 : ∀ u : Int32 × Int32 × Int32 × mS, Fr [] [] [] S0 u.2.2.2 → k6 u → k6' u) {x3 : Int32} {x4 : Int32} {x5 : Int32} {S : mS} (hF : Fr [] [] [] S0 S) (h : wp_finishing_6 K k6 x3 x4 x5 S) : wp_finishing_6 K' k6' x3 x4 x5 S := by
  unfold wp_finishing_6 at h ⊢
  refine ⟨fun c => ?_, fun c => ?_⟩
  · replace h := h.1 c
    exact hk _ _ hF h
  · replace h := h.2 c
    refine ⟨fun c => ?_, fun c => ?_⟩
    · replace h := h.1 c
      exact fm_finishing_26 hk hk6 hF h
    · replace h := h.2 c
      refine ⟨h.1, ?_⟩
      replace h := h.2
      intro z3 e
      replace h := h z3 e
      refine ⟨fun c => ?_, fun c => ?_⟩
      · replace h := h.1 c
        exact hk _ _ hF h
      · replace h := h.2 c
        exact fm_finishing_26 hk hk6 hF h
theorem fml_finishing_6 {K K' : mS → Int32 → Prop} {S0 : mS} (hk : ∀ S1 r1, Fr [] [] [] S0 S1 → K S1 r1 → K' S1 r1) : ∀ (n : Nat) (u : Int32 × Int32 × Int32 × mS), Fr [] [] [] S0 u.2.2.2 → it (ls_finishing_6 K) n u → it (ls_finishing_6 K') n u := by
  intro n
  induction n with
  | zero => exact fun _ _ h => h
  | succ n ih => exact fun u hF h => fm_finishing_6 hk ih hF h
theorem fm_finishing (a0 : Int32) (a1 : Int32) (a2 : Int32) : FmI [] [] [] (wp_finishing a0 a1 a2) := by
  intro S0 K K' hk h
  have hF : Fr [] [] [] S0 S0 := Fr_rf
  unfold wp_finishing at h ⊢
  obtain ⟨n9, h⟩ := h
  exact ⟨n9, fml_finishing_6 hk n9 _ hF h⟩
theorem fm_forget_42 {K K' : mS → Prop} {k42 k42' : Int32 × mS → Prop} {S0 : mS} (hk : ∀ S1, Fr [22, 23, 24, 26, 27, 28, 29, 30] [78] [] S0 S1 → K S1 → K' S1) (hk42 : ∀ u : Int32 × mS, Fr [22, 23, 24, 26, 27, 28, 29, 30] [78] [] S0 u.2 → k42 u → k42' u) {x1 : Int32} {S : mS} (hF : Fr [22, 23, 24, 26, 27, 28, 29, 30] [78] [] S0 S) (h : wp_forget_42 K k42 x1 S) : wp_forget_42 K' k42' x1 S := by
  unfold wp_forget_42 at h ⊢
  refine ⟨fun c => ?_, fun c => ?_⟩
  · replace h := h.1 c
    exact hk _ hF h
  · replace h := h.2 c
    refine ⟨h.1, ?_⟩
    replace h := h.2
    intro S10 e
    replace h := h S10 e
    replace hF := Fr_f hF e (by decide)
    intro z11 e
    replace h := h z11 e
    exact hk42 _ hF h
theorem fml_forget_42 {K K' : mS → Prop} {S0 : mS} (hk : ∀ S1, Fr [22, 23, 24, 26, 27, 28, 29, 30] [78] [] S0 S1 → K S1 → K' S1) : ∀ (n : Nat) (u : Int32 × mS), Fr [22, 23, 24, 26, 27, 28, 29, 30] [78] [] S0 u.2 → it (ls_forget_42 K) n u → it (ls_forget_42 K') n u := by
  intro n
  induction n with
  | zero => exact fun _ _ h => h
  | succ n ih => exact fun u hF h => fm_forget_42 hk ih hF h
theorem fm_forget : FmV [22, 23, 24, 26, 27, 28, 29, 30] [78] [] (wp_forget) := by
  intro S0 K K' hk h
  have hF : Fr [22, 23, 24, 26, 27, 28, 29, 30] [78] [] S0 S0 := Fr_rf
  unfold wp_forget at h ⊢
  intro S1 e
  replace h := h S1 e
  replace hF := Fr_z hF e (by decide)
  intro S2 e
  replace h := h S2 e
  replace hF := Fr_z hF e (by decide)
  intro S3 e
  replace h := h S3 e
  replace hF := Fr_z hF e (by decide)
  intro S4 e
  replace h := h S4 e
  replace hF := Fr_z hF e (by decide)
  intro S5 e
  replace h := h S5 e
  replace hF := Fr_z hF e (by decide)
  intro S6 e
  replace h := h S6 e
  replace hF := Fr_z hF e (by decide)
  intro S7 e
  replace h := h S7 e
  replace hF := Fr_z hF e (by decide)
  intro S8 e
  replace h := h S8 e
  replace hF := Fr_z hF e (by decide)
  obtain ⟨n9, h⟩ := h
  exact ⟨n9, fml_forget_42 hk n9 _ hF h⟩
theorem fm_go_9 {K K' : mS → Prop} {S0 : mS} (hk : ∀ S1, Fr [21] [49, 50] [] S0 S1 → K S1 → K' S1) {y0 : Int32} {S : mS} (hF : Fr [21] [49, 50] [] S0 S) (h : wp_go_9 K y0 S) : wp_go_9 K' y0 S := by
  unfold wp_go_9 at h ⊢
  intro z2 e
  replace h := h z2 e
  intro z3 e
  replace h := h z3 e
  refine ⟨h.1, ?_⟩
  replace h := h.2
  intro z4 e
  replace h := h z4 e
  refine ⟨fun c => ?_, fun c => ?_⟩
  · replace h := h.1 c
    exact hk _ hF h
  · replace h := h.2 c
    refine ⟨h.1, ?_⟩
    replace h := h.2
    intro S6 e
    replace h := h S6 e
    replace hF := Fr_f hF e (by decide)
    refine ⟨h.1, ?_⟩
    replace h := h.2
    intro S7 e
    replace h := h S7 e
    replace hF := Fr_f hF e (by decide)
    intro z8 e
    replace h := h z8 e
    intro S9 e
    replace h := h S9 e
    replace hF := Fr_z hF e (by decide)
    exact hk _ hF h
theorem fm_go (a0 : Int32) (a1 : Int32) : FmV [21] [49, 50] [] (wp_go a0 a1) := by
  intro S0 K K' hk h
  have hF : Fr [21] [49, 50] [] S0 S0 := Fr_rf
  unfold wp_go at h ⊢
  refine ⟨fun c => ?_, fun c => ?_⟩
  · replace h := h.1 c
    exact fm_go_9 hk hF h
  · replace h := h.2 c
    exact fm_go_9 hk hF h
theorem fm_goTo_10 {K K' : mS → Prop} {S0 : mS} (hk : ∀ S1, Fr [21] [49, 50] [] S0 S1 → K S1 → K' S1) {x3 : Int32} {y1 : Int32} {S : mS} (hF : Fr [21] [49, 50] [] S0 S) (h : wp_goTo_10 K x3 y1 S) : wp_goTo_10 K' x3 y1 S := by
  unfold wp_goTo_10 at h ⊢
  refine fm_go _ _ _ _ _ (fun S2 hG h => ?_) h
  replace hF := Fr_t hF hG (by decide) (by decide) (by decide)
  exact hk _ hF h
theorem fm_goTo (a0 : Int32) (a1 : Int32) (a2 : Int32) : FmV [21] [49, 50] [] (wp_goTo a0 a1 a2) := by
  intro S0 K K' hk h
  have hF : Fr [21] [49, 50] [] S0 S0 := Fr_rf
  unfold wp_goTo at h ⊢
  refine ⟨fun c => ?_, fun c => ?_⟩
  · replace h := h.1 c
    exact fm_goTo_10 hk hF h
  · replace h := h.2 c
    exact fm_goTo_10 hk hF h
theorem fm_goFinished_91 {K K' : mS → Prop} {S0 : mS} (hk : ∀ S1, Fr [21] [49, 50] [] S0 S1 → K S1 → K' S1) {x1 : Int32} {x2 : Int32} {x3 : Int32} {x4 : Int32} {x5 : Int32} {S : mS} (hF : Fr [21] [49, 50] [] S0 S) (h : wp_goFinished_91 K x1 x2 x3 x4 x5 S) : wp_goFinished_91 K' x1 x2 x3 x4 x5 S := by
  unfold wp_goFinished_91 at h ⊢
  refine ⟨h.1, ?_⟩
  replace h := h.2
  intro z15 e
  replace h := h z15 e
  refine ⟨fun c => ?_, fun c => ?_⟩
  · replace h := h.1 c
    exact hk _ hF h
  · replace h := h.2 c
    refine fm_finishing _ _ _ _ _ _ (fun S17 r17 hG h => ?_) h
    replace hF := Fr_t hF hG (by decide) (by decide) (by decide)
    refine ⟨h.1, ?_⟩
    replace h := h.2
    intro z18 e
    replace h := h z18 e
    refine fm_goTo _ _ _ _ _ _ (fun S19 hG h => ?_) h
    replace hF := Fr_t hF hG (by decide) (by decide) (by decide)
    exact hk _ hF h
theorem fm_goFinished (a0 : Int32) (a1 : Int32) : FmV [21] [49, 50] [] (wp_goFinished a0 a1) := by
  intro S0 K K' hk h
  have hF : Fr [21] [49, 50] [] S0 S0 := Fr_rf
  unfold wp_goFinished at h ⊢
  refine ⟨h.1, ?_⟩
  replace h := h.2
  intro z1 e
  replace h := h z1 e
  refine ⟨h.1, ?_⟩
  replace h := h.2
  intro z2 e
  replace h := h z2 e
  refine ⟨h.1, ?_⟩
  replace h := h.2
  intro z3 e
  replace h := h z3 e
  refine ⟨h.1, ?_⟩
  replace h := h.2
  intro z4 e
  replace h := h z4 e
  refine fm_go _ _ _ _ _ (fun S5 hG h => ?_) h
  replace hF := Fr_t hF hG (by decide) (by decide) (by decide)
  refine fm_failing _ _ _ _ _ (fun S6 r6 hG h => ?_) h
  replace hF := Fr_t hF hG (by decide) (by decide) (by decide)
  refine fm_goTo _ _ _ _ _ _ (fun S7 hG h => ?_) h
  replace hF := Fr_t hF hG (by decide) (by decide) (by decide)
  refine fm_finishing _ _ _ _ _ _ (fun S8 r8 hG h => ?_) h
  replace hF := Fr_t hF hG (by decide) (by decide) (by decide)
  refine fm_goTo _ _ _ _ _ _ (fun S9 hG h => ?_) h
  replace hF := Fr_t hF hG (by decide) (by decide) (by decide)
  refine ⟨h.1, ?_⟩
  replace h := h.2
  intro z10 e
  replace h := h z10 e
  refine ⟨fun c => ?_, fun c => ?_⟩
  · replace h := h.1 c
    exact fm_goFinished_91 hk hF h
  · replace h := h.2 c
    refine fm_finishing _ _ _ _ _ _ (fun S12 r12 hG h => ?_) h
    replace hF := Fr_t hF hG (by decide) (by decide) (by decide)
    refine ⟨h.1, ?_⟩
    replace h := h.2
    intro z13 e
    replace h := h z13 e
    refine fm_goTo _ _ _ _ _ _ (fun S14 hG h => ?_) h
    replace hF := Fr_t hF hG (by decide) (by decide) (by decide)
    exact fm_goFinished_91 hk hF h
theorem fm_goOn_242 {K K' : mS → Prop} {S0 : mS} (hk : ∀ S1, Fr [21] [49, 50] [] S0 S1 → K S1 → K' S1) {x1 : Int32} {x2 : Int32} {S : mS} (hF : Fr [21] [49, 50] [] S0 S) (h : wp_goOn_242 K x1 x2 S) : wp_goOn_242 K' x1 x2 S := by
  unfold wp_goOn_242 at h ⊢
  refine ⟨h.1, ?_⟩
  replace h := h.2
  intro z38 e
  replace h := h z38 e
  refine ⟨fun c => ?_, fun c => ?_⟩
  · replace h := h.1 c
    exact hk _ hF h
  · replace h := h.2 c
    refine ⟨h.1, ?_⟩
    replace h := h.2
    intro z40 e
    replace h := h z40 e
    refine fm_go _ _ _ _ _ (fun S41 hG h => ?_) h
    replace hF := Fr_t hF hG (by decide) (by decide) (by decide)
    exact hk _ hF h
theorem fm_goOn (a0 : Int32) (a1 : Int32) : FmV [21] [49, 50] [] (wp_goOn a0 a1) := by
  intro S0 K K' hk h
  have hF : Fr [21] [49, 50] [] S0 S0 := Fr_rf
  unfold wp_goOn at h ⊢
  refine ⟨h.1, ?_⟩
  replace h := h.2
  intro z1 e
  replace h := h z1 e
  refine ⟨h.1, ?_⟩
  replace h := h.2
  intro z2 e
  replace h := h z2 e
  refine ⟨h.1, ?_⟩
  replace h := h.2
  intro z3 e
  replace h := h z3 e
  refine ⟨h.1, ?_⟩
  replace h := h.2
  intro z4 e
  replace h := h z4 e
  refine ⟨fun c => ?_, fun c => ?_⟩
  · replace h := h.1 c
    refine ⟨h.1, ?_⟩
    replace h := h.2
    intro z6 e
    replace h := h z6 e
    refine fm_go _ _ _ _ _ (fun S7 hG h => ?_) h
    replace hF := Fr_t hF hG (by decide) (by decide) (by decide)
    refine fm_failing _ _ _ _ _ (fun S8 r8 hG h => ?_) h
    replace hF := Fr_t hF hG (by decide) (by decide) (by decide)
    refine fm_goTo _ _ _ _ _ _ (fun S9 hG h => ?_) h
    replace hF := Fr_t hF hG (by decide) (by decide) (by decide)
    refine fm_finishing _ _ _ _ _ _ (fun S10 r10 hG h => ?_) h
    replace hF := Fr_t hF hG (by decide) (by decide) (by decide)
    refine fm_goTo _ _ _ _ _ _ (fun S11 hG h => ?_) h
    replace hF := Fr_t hF hG (by decide) (by decide) (by decide)
    exact hk _ hF h
  · replace h := h.2 c
    refine ⟨fun c => ?_, fun c => ?_⟩
    · replace h := h.1 c
      refine ⟨h.1, ?_⟩
      replace h := h.2
      intro z13 e
      replace h := h z13 e
      refine fm_go _ _ _ _ _ (fun S14 hG h => ?_) h
      replace hF := Fr_t hF hG (by decide) (by decide) (by decide)
      refine fm_failing _ _ _ _ _ (fun S15 r15 hG h => ?_) h
      replace hF := Fr_t hF hG (by decide) (by decide) (by decide)
      refine fm_goTo _ _ _ _ _ _ (fun S16 hG h => ?_) h
      replace hF := Fr_t hF hG (by decide) (by decide) (by decide)
      exact hk _ hF h
    · replace h := h.2 c
      refine ⟨fun c => ?_, fun c => ?_⟩
      · replace h := h.1 c
        refine fm_failing _ _ _ _ _ (fun S18 r18 hG h => ?_) h
        replace hF := Fr_t hF hG (by decide) (by decide) (by decide)
        refine fm_goTo _ _ _ _ _ _ (fun S19 hG h => ?_) h
        replace hF := Fr_t hF hG (by decide) (by decide) (by decide)
        exact hk _ hF h
      · replace h := h.2 c
        refine ⟨fun c => ?_, fun c => ?_⟩
        · replace h := h.1 c
          exact hk _ hF h
        · replace h := h.2 c
          refine ⟨fun c => ?_, fun c => ?_⟩
          · replace h := h.1 c
            refine fm_goFinished _ _ _ _ _ (fun S22 hG h => ?_) h
            replace hF := Fr_t hF hG (by decide) (by decide) (by decide)
            exact hk _ hF h
          · replace h := h.2 c
            refine ⟨fun c => ?_, fun c => ?_⟩
            · replace h := h.1 c
              refine fm_finishing _ _ _ _ _ _ (fun S24 r24 hG h => ?_) h
              replace hF := Fr_t hF hG (by decide) (by decide) (by decide)
              refine ⟨h.1, ?_⟩
              replace h := h.2
              intro z25 e
              replace h := h z25 e
              refine fm_goTo _ _ _ _ _ _ (fun S26 hG h => ?_) h
              replace hF := Fr_t hF hG (by decide) (by decide) (by decide)
              exact hk _ hF h
            · replace h := h.2 c
              refine ⟨fun c => ?_, fun c => ?_⟩
              · replace h := h.1 c
                refine fm_finishing _ _ _ _ _ _ (fun S28 r28 hG h => ?_) h
                replace hF := Fr_t hF hG (by decide) (by decide) (by decide)
                refine ⟨h.1, ?_⟩
                replace h := h.2
                intro z29 e
                replace h := h z29 e
                refine fm_goTo _ _ _ _ _ _ (fun S30 hG h => ?_) h
                replace hF := Fr_t hF hG (by decide) (by decide) (by decide)
                exact hk _ hF h
              · replace h := h.2 c
                refine ⟨fun c => ?_, fun c => ?_⟩
                · replace h := h.1 c
                  refine fm_finishing _ _ _ _ _ _ (fun S32 r32 hG h => ?_) h
                  replace hF := Fr_t hF hG (by decide) (by decide) (by decide)
                  refine fm_goTo _ _ _ _ _ _ (fun S33 hG h => ?_) h
                  replace hF := Fr_t hF hG (by decide) (by decide) (by decide)
                  exact hk _ hF h
                · replace h := h.2 c
                  refine ⟨h.1, ?_⟩
                  replace h := h.2
                  intro z34 e
                  replace h := h z34 e
                  refine ⟨fun c => ?_, fun c => ?_⟩
                  · replace h := h.1 c
                    exact fm_goOn_242 hk hF h
                  · replace h := h.2 c
                    refine ⟨h.1, ?_⟩
                    replace h := h.2
                    intro z36 e
                    replace h := h z36 e
                    refine fm_go _ _ _ _ _ (fun S37 hG h => ?_) h
                    replace hF := Fr_t hF hG (by decide) (by decide) (by decide)
                    exact fm_goOn_242 hk hF h
theorem fm_from_2 {K K' : mS → Prop} {k2 k2' : Int32 × Int32 × Int32 × mS → Prop} {S0 : mS} (hk : ∀ S1, Fr [21] [49, 50] [] S0 S1 → K S1 → K' S1) (hk2 : ∀ u : Int32 × Int32 × Int32 × mS, Fr [21] [49, 50] [] S0 u.2.2.2 → k2 u → k2' u) {x1 : Int32} {x2 : Int32} {x3 : Int32} {S : mS} (hF : Fr [21] [49, 50] [] S0 S) (h : wp_from_2 K k2 x1 x2 x3 S) : wp_from_2 K' k2' x1 x2 x3 S := by
  unfold wp_from_2 at h ⊢
  refine ⟨fun c => ?_, fun c => ?_⟩
  · replace h := h.1 c
    intro S2 e
    replace h := h S2 e
    replace hF := Fr_z hF e (by decide)
    refine ⟨fun c => ?_, fun c => ?_⟩
    · replace h := h.1 c
      intro z4 e
      replace h := h z4 e
      intro z5 e
      replace h := h z5 e
      intro z6 e
      replace h := h z6 e
      refine ⟨h.1, ?_⟩
      replace h := h.2
      intro z7 e
      replace h := h z7 e
      refine ⟨h.1, ?_⟩
      replace h := h.2
      intro z8 e
      replace h := h z8 e
      refine fm_goOn _ _ _ _ _ (fun S9 hG h => ?_) h
      replace hF := Fr_t hF hG (by decide) (by decide) (by decide)
      exact hk _ hF h
    · replace h := h.2 c
      refine ⟨h.1, ?_⟩
      replace h := h.2
      intro z10 e
      replace h := h z10 e
      refine ⟨h.1, ?_⟩
      replace h := h.2
      intro z11 e
      replace h := h z11 e
      refine fm_go _ _ _ _ _ (fun S12 hG h => ?_) h
      replace hF := Fr_t hF hG (by decide) (by decide) (by decide)
      exact hk _ hF h
  · replace h := h.2 c
    refine ⟨h.1, ?_⟩
    replace h := h.2
    intro S13 e
    replace h := h S13 e
    replace hF := Fr_f hF e (by decide)
    intro z14 e
    replace h := h z14 e
    exact hk2 _ hF h
theorem fml_from_2 {K K' : mS → Prop} {S0 : mS} (hk : ∀ S1, Fr [21] [49, 50] [] S0 S1 → K S1 → K' S1) : ∀ (n : Nat) (u : Int32 × Int32 × Int32 × mS), Fr [21] [49, 50] [] S0 u.2.2.2 → it (ls_from_2 K) n u → it (ls_from_2 K') n u := by
  intro n
  induction n with
  | zero => exact fun _ _ h => h
  | succ n ih => exact fun u hF h => fm_from_2 hk ih hF h
theorem fm_from (a0 : Int32) (a1 : Int32) : FmV [21] [49, 50] [] (wp_from a0 a1) := by
  intro S0 K K' hk h
  have hF : Fr [21] [49, 50] [] S0 S0 := Fr_rf
  unfold wp_from at h ⊢
  obtain ⟨n9, h⟩ := h
  exact ⟨n9, fml_from_2 hk n9 _ hF h⟩
theorem fm_isState (a0 : Int32) (a1 : Int32) : FmI [] [] [] (wp_isState a0 a1) := by
  intro S0 K K' hk h
  have hF : Fr [] [] [] S0 S0 := Fr_rf
  unfold wp_isState at h ⊢
  refine ⟨fun c => ?_, fun c => ?_⟩
  · replace h := h.1 c
    exact hk _ _ hF h
  · replace h := h.2 c
    refine ⟨h.1, ?_⟩
    replace h := h.2
    intro z2 e
    replace h := h z2 e
    refine ⟨fun c => ?_, fun c => ?_⟩
    · replace h := h.1 c
      exact hk _ _ hF h
    · replace h := h.2 c
      refine ⟨fun c => ?_, fun c => ?_⟩
      · replace h := h.1 c
        exact hk _ _ hF h
      · replace h := h.2 c
        intro z5 e
        replace h := h z5 e
        intro z6 e
        replace h := h z6 e
        refine ⟨h.1, ?_⟩
        replace h := h.2
        intro z7 e
        replace h := h z7 e
        refine ⟨fun c => ?_, fun c => ?_⟩
        · replace h := h.1 c
          exact hk _ _ hF h
        · replace h := h.2 c
          exact hk _ _ hF h
theorem fm_leavePart (a0 : Int32) : FmV [32] [68, 70, 71, 72] [] (wp_leavePart a0) := by
  intro S0 K K' hk h
  have hF : Fr [32] [68, 70, 71, 72] [] S0 S0 := Fr_rf
  unfold wp_leavePart at h ⊢
  intro z1 e
  replace h := h z1 e
  refine ⟨h.1, ?_⟩
  replace h := h.2
  intro z2 e
  replace h := h z2 e
  intro z3 e
  replace h := h z3 e
  intro z4 e
  replace h := h z4 e
  refine ⟨h.1, ?_⟩
  replace h := h.2
  intro z5 e
  replace h := h z5 e
  refine ⟨fun c => ?_, fun c => ?_⟩
  · replace h := h.1 c
    refine ⟨h.1, ?_⟩
    replace h := h.2
    intro z7 e
    replace h := h z7 e
    intro z8 e
    replace h := h z8 e
    refine ⟨h.1, ?_⟩
    replace h := h.2
    intro S9 e
    replace h := h S9 e
    replace hF := Fr_f hF e (by decide)
    refine ⟨h.1, ?_⟩
    replace h := h.2
    intro z10 e
    replace h := h z10 e
    intro S11 e
    replace h := h S11 e
    replace hF := Fr_z hF e (by decide)
    exact hk _ hF h
  · replace h := h.2 c
    refine fm_toFinish _ _ _ _ _ _ (fun S12 hG h => ?_) h
    replace hF := Fr_t hF hG (by decide) (by decide) (by decide)
    exact hk _ hF h
theorem fm_letter_84 {K K' : mS → Int32 → Prop} {k20 k20' : Int32 × Int32 × Int32 × mS → Prop} {S0 : mS} (hk : ∀ S1 r1, Fr [0, 23, 28, 30] [54, 55, 56, 61, 62, 63, 67, 73, 76, 77, 78, 79, 83, 84, 87] [] S0 S1 → K S1 r1 → K' S1 r1) (hk20 : ∀ u : Int32 × Int32 × Int32 × mS, Fr [0, 23, 28, 30] [54, 55, 56, 61, 62, 63, 67, 73, 76, 77, 78, 79, 83, 84, 87] [] S0 u.2.2.2 → k20 u → k20' u) {x1 : Int32} {x2 : Int32} {x3 : Int32} {S : mS} (hF : Fr [0, 23, 28, 30] [54, 55, 56, 61, 62, 63, 67, 73, 76, 77, 78, 79, 83, 84, 87] [] S0 S) (h : wp_letter_84 K k20 x1 x2 x3 S) : wp_letter_84 K' k20' x1 x2 x3 S := by
  unfold wp_letter_84 at h ⊢
  intro z22 e
  replace h := h z22 e
  exact hk20 _ hF h
theorem fm_letter_20 {K K' : mS → Int32 → Prop} {k20 k20' : Int32 × Int32 × Int32 × mS → Prop} {S0 : mS} (hk : ∀ S1 r1, Fr [0, 23, 28, 30] [54, 55, 56, 61, 62, 63, 67, 73, 76, 77, 78, 79, 83, 84, 87] [] S0 S1 → K S1 r1 → K' S1 r1) (hk20 : ∀ u : Int32 × Int32 × Int32 × mS, Fr [0, 23, 28, 30] [54, 55, 56, 61, 62, 63, 67, 73, 76, 77, 78, 79, 83, 84, 87] [] S0 u.2.2.2 → k20 u → k20' u) {x1 : Int32} {x2 : Int32} {x3 : Int32} {S : mS} (hF : Fr [0, 23, 28, 30] [54, 55, 56, 61, 62, 63, 67, 73, 76, 77, 78, 79, 83, 84, 87] [] S0 S) (h : wp_letter_20 K k20 x1 x2 x3 S) : wp_letter_20 K' k20' x1 x2 x3 S := by
  unfold wp_letter_20 at h ⊢
  refine ⟨fun c => ?_, fun c => ?_⟩
  · replace h := h.1 c
    refine ⟨h.1, ?_⟩
    replace h := h.2
    intro z5 e
    replace h := h z5 e
    refine ⟨fun c => ?_, fun c => ?_⟩
    · replace h := h.1 c
      intro z7 e
      replace h := h z7 e
      refine ⟨h.1, ?_⟩
      replace h := h.2
      intro z8 e
      replace h := h z8 e
      intro z9 e
      replace h := h z9 e
      refine ⟨h.1, ?_⟩
      replace h := h.2
      intro S10 e
      replace h := h S10 e
      replace hF := Fr_f hF e (by decide)
      refine ⟨h.1, ?_⟩
      replace h := h.2
      intro z11 e
      replace h := h z11 e
      intro z12 e
      replace h := h z12 e
      refine ⟨h.1, ?_⟩
      replace h := h.2
      intro S13 e
      replace h := h S13 e
      replace hF := Fr_f hF e (by decide)
      exact hk _ _ hF h
    · replace h := h.2 c
      exact hk _ _ hF h
  · replace h := h.2 c
    refine ⟨h.1, ?_⟩
    replace h := h.2
    intro z14 e
    replace h := h z14 e
    refine ⟨h.1, ?_⟩
    replace h := h.2
    intro z15 e
    replace h := h z15 e
    refine ⟨fun c => ?_, fun c => ?_⟩
    · replace h := h.1 c
      exact fm_letter_84 hk hk20 hF h
    · replace h := h.2 c
      refine ⟨h.1, ?_⟩
      replace h := h.2
      intro z17 e
      replace h := h z17 e
      refine ⟨fun c => ?_, fun c => ?_⟩
      · replace h := h.1 c
        exact fm_letter_84 hk hk20 hF h
      · replace h := h.2 c
        refine ⟨h.1, ?_⟩
        replace h := h.2
        intro z19 e
        replace h := h z19 e
        refine fm_standsNoMore _ _ _ _ (fun S20 hG h => ?_) h
        replace hF := Fr_t hF hG (by decide) (by decide) (by decide)
        refine fq_decides _ _ _ _ _ _ (fun S21 hG h => ?_) h
        replace hF := Fr_t hF hG (by decide) (by decide) (by decide)
        exact hk _ _ hF h
theorem fml_letter_20 {K K' : mS → Int32 → Prop} {S0 : mS} (hk : ∀ S1 r1, Fr [0, 23, 28, 30] [54, 55, 56, 61, 62, 63, 67, 73, 76, 77, 78, 79, 83, 84, 87] [] S0 S1 → K S1 r1 → K' S1 r1) : ∀ (n : Nat) (u : Int32 × Int32 × Int32 × mS), Fr [0, 23, 28, 30] [54, 55, 56, 61, 62, 63, 67, 73, 76, 77, 78, 79, 83, 84, 87] [] S0 u.2.2.2 → it (ls_letter_20 K) n u → it (ls_letter_20 K') n u := by
  intro n
  induction n with
  | zero => exact fun _ _ h => h
  | succ n ih => exact fun u hF h => fm_letter_20 hk ih hF h
theorem fm_letter (a0 : Int32) (a1 : Int32) : FmI [0, 23, 28, 30] [54, 55, 56, 61, 62, 63, 67, 73, 76, 77, 78, 79, 83, 84, 87] [] (wp_letter a0 a1) := by
  intro S0 K K' hk h
  have hF : Fr [0, 23, 28, 30] [54, 55, 56, 61, 62, 63, 67, 73, 76, 77, 78, 79, 83, 84, 87] [] S0 S0 := Fr_rf
  unfold wp_letter at h ⊢
  intro S1 e
  replace h := h S1 e
  replace hF := Fr_z hF e (by decide)
  refine ⟨fun c => ?_, fun c => ?_⟩
  · replace h := h.1 c
    exact hk _ _ hF h
  · replace h := h.2 c
    refine ⟨fun c => ?_, fun c => ?_⟩
    · replace h := h.1 c
      obtain ⟨n9, h⟩ := h
      exact ⟨n9, fml_letter_20 hk n9 _ hF h⟩
    · replace h := h.2 c
      exact hk _ _ hF h
theorem fm_letterNode_40 {K K' : mS → Prop} {k40 k40' : Int32 × Int32 × Int32 × mS → Prop} {S0 : mS} (hk : ∀ S1, Fr [29, 30] [78, 79, 80, 81, 82, 83, 84, 85, 87] [] S0 S1 → K S1 → K' S1) (hk40 : ∀ u : Int32 × Int32 × Int32 × mS, Fr [29, 30] [78, 79, 80, 81, 82, 83, 84, 85, 87] [] S0 u.2.2.2 → k40 u → k40' u) {x1 : Int32} {x2 : Int32} {x3 : Int32} {S : mS} (hF : Fr [29, 30] [78, 79, 80, 81, 82, 83, 84, 85, 87] [] S0 S) (h : wp_letterNode_40 K k40 x1 x2 x3 S) : wp_letterNode_40 K' k40' x1 x2 x3 S := by
  unfold wp_letterNode_40 at h ⊢
  refine ⟨h.1, ?_⟩
  replace h := h.2
  intro z9 e
  replace h := h z9 e
  refine ⟨fun c => ?_, fun c => ?_⟩
  · replace h := h.1 c
    refine fm_newNode _ _ _ _ _ _ (fun S11 r11 hG h => ?_) h
    replace hF := Fr_t hF hG (by decide) (by decide) (by decide)
    exact hk _ hF h
  · replace h := h.2 c
    intro z12 e
    replace h := h z12 e
    intro z13 e
    replace h := h z13 e
    intro z14 e
    replace h := h z14 e
    intro z15 e
    replace h := h z15 e
    intro z16 e
    replace h := h z16 e
    refine ⟨h.1, ?_⟩
    replace h := h.2
    intro z17 e
    replace h := h z17 e
    refine ⟨h.1, ?_⟩
    replace h := h.2
    intro S18 e
    replace h := h S18 e
    replace hF := Fr_f hF e (by decide)
    intro z19 e
    replace h := h z19 e
    exact hk40 _ hF h
theorem fml_letterNode_40 {K K' : mS → Prop} {S0 : mS} (hk : ∀ S1, Fr [29, 30] [78, 79, 80, 81, 82, 83, 84, 85, 87] [] S0 S1 → K S1 → K' S1) : ∀ (n : Nat) (u : Int32 × Int32 × Int32 × mS), Fr [29, 30] [78, 79, 80, 81, 82, 83, 84, 85, 87] [] S0 u.2.2.2 → it (ls_letterNode_40 K) n u → it (ls_letterNode_40 K') n u := by
  intro n
  induction n with
  | zero => exact fun _ _ h => h
  | succ n ih => exact fun u hF h => fm_letterNode_40 hk ih hF h
theorem fm_letterNode (a0 : Int32) : FmV [29, 30] [78, 79, 80, 81, 82, 83, 84, 85, 87] [] (wp_letterNode a0) := by
  intro S0 K K' hk h
  have hF : Fr [29, 30] [78, 79, 80, 81, 82, 83, 84, 85, 87] [] S0 S0 := Fr_rf
  unfold wp_letterNode at h ⊢
  refine ⟨h.1, ?_⟩
  replace h := h.2
  intro z1 e
  replace h := h z1 e
  refine ⟨fun c => ?_, fun c => ?_⟩
  · replace h := h.1 c
    intro z3 e
    replace h := h z3 e
    refine ⟨h.1, ?_⟩
    replace h := h.2
    intro z4 e
    replace h := h z4 e
    refine ⟨h.1, ?_⟩
    replace h := h.2
    intro z5 e
    replace h := h z5 e
    intro z6 e
    replace h := h z6 e
    refine ⟨h.1, ?_⟩
    replace h := h.2
    intro S7 e
    replace h := h S7 e
    replace hF := Fr_f hF e (by decide)
    obtain ⟨n9, h⟩ := h
    exact ⟨n9, fml_letterNode_40 hk n9 _ hF h⟩
  · replace h := h.2 c
    refine fm_newNode _ _ _ _ _ _ (fun S8 r8 hG h => ?_) h
    replace hF := Fr_t hF hG (by decide) (by decide) (by decide)
    exact hk _ hF h
