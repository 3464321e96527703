
theorem fm_live_149 {K K' : mS → Int32 → Prop} {k56 k56' : Int32 × Int32 × mS → Prop} {S0 : mS} (hk : ∀ S1 r1, Fr [0, 21] [49, 50] [] S0 S1 → K S1 r1 → K' S1 r1) (hk56 : ∀ u : Int32 × Int32 × mS, Fr [0, 21] [49, 50] [] S0 u.2.2 → k56 u → k56' u) {x3 : Int32} {x4 : Int32} {S : mS} (hF : Fr [0, 21] [49, 50] [] S0 S) (h : wp_live_149 K k56 x3 x4 S) : wp_live_149 K' k56' x3 x4 S := by
  unfold wp_live_149 at h ⊢
  exact hk56 _ hF h
theorem fm_live_136 {K K' : mS → Int32 → Prop} {k56 k56' : Int32 × Int32 × mS → Prop} {S0 : mS} (hk : ∀ S1 r1, Fr [0, 21] [49, 50] [] S0 S1 → K S1 r1 → K' S1 r1) (hk56 : ∀ u : Int32 × Int32 × mS, Fr [0, 21] [49, 50] [] S0 u.2.2 → k56 u → k56' u) {x3 : Int32} {x4 : Int32} {x5 : Int32} {S : mS} (hF : Fr [0, 21] [49, 50] [] S0 S) (h : wp_live_136 K k56 x3 x4 x5 S) : wp_live_136 K' k56' x3 x4 x5 S := by
  unfold wp_live_136 at h ⊢
  refine ⟨h.1, ?_⟩
  replace h := h.2
  intro z24 e
  replace h := h z24 e
  refine fm_goOn _ _ _ _ _ (fun S25 hG h => ?_) h
  replace hF := Fr_t hF hG (by decide) (by decide) (by decide)
  exact fm_live_149 hk hk56 hF h
theorem fm_live_120 {K K' : mS → Int32 → Prop} {k56 k56' : Int32 × Int32 × mS → Prop} {S0 : mS} (hk : ∀ S1 r1, Fr [0, 21] [49, 50] [] S0 S1 → K S1 r1 → K' S1 r1) (hk56 : ∀ u : Int32 × Int32 × mS, Fr [0, 21] [49, 50] [] S0 u.2.2 → k56 u → k56' u) {x3 : Int32} {x4 : Int32} {x5 : Int32} {x6 : Int32} {S : mS} (hF : Fr [0, 21] [49, 50] [] S0 S) (h : wp_live_120 K k56 x3 x4 x5 x6 S) : wp_live_120 K' k56' x3 x4 x5 x6 S := by
  unfold wp_live_120 at h ⊢
  refine ⟨fun c => ?_, fun c => ?_⟩
  · replace h := h.1 c
    exact fm_live_136 hk hk56 hF h
  · replace h := h.2 c
    refine ⟨h.1, ?_⟩
    replace h := h.2
    intro z22 e
    replace h := h z22 e
    refine ⟨fun c => ?_, fun c => ?_⟩
    · replace h := h.1 c
      exact fm_live_149 hk hk56 hF h
    · replace h := h.2 c
      exact fm_live_136 hk hk56 hF h
theorem fm_live_100 {K K' : mS → Int32 → Prop} {k56 k56' : Int32 × Int32 × mS → Prop} {S0 : mS} (hk : ∀ S1 r1, Fr [0, 21] [49, 50] [] S0 S1 → K S1 r1 → K' S1 r1) (hk56 : ∀ u : Int32 × Int32 × mS, Fr [0, 21] [49, 50] [] S0 u.2.2 → k56 u → k56' u) {x3 : Int32} {x4 : Int32} {x5 : Int32} {y0 : Int32} {S : mS} (hF : Fr [0, 21] [49, 50] [] S0 S) (h : wp_live_100 K k56 x3 x4 x5 y0 S) : wp_live_100 K' k56' x3 x4 x5 y0 S := by
  unfold wp_live_100 at h ⊢
  refine ⟨fun c => ?_, fun c => ?_⟩
  · replace h := h.1 c
    exact fm_live_120 hk hk56 hF h
  · replace h := h.2 c
    refine ⟨h.1, ?_⟩
    replace h := h.2
    intro z19 e
    replace h := h z19 e
    refine ⟨fun c => ?_, fun c => ?_⟩
    · replace h := h.1 c
      exact fm_live_120 hk hk56 hF h
    · replace h := h.2 c
      exact hk _ _ hF h
theorem fm_live_56 {K K' : mS → Int32 → Prop} {k56 k56' : Int32 × Int32 × mS → Prop} {S0 : mS} (hk : ∀ S1 r1, Fr [0, 21] [49, 50] [] S0 S1 → K S1 r1 → K' S1 r1) (hk56 : ∀ u : Int32 × Int32 × mS, Fr [0, 21] [49, 50] [] S0 u.2.2 → k56 u → k56' u) {x3 : Int32} {x4 : Int32} {S : mS} (hF : Fr [0, 21] [49, 50] [] S0 S) (h : wp_live_56 K k56 x3 x4 S) : wp_live_56 K' k56' x3 x4 S := by
  unfold wp_live_56 at h ⊢
  refine ⟨fun c => ?_, fun c => ?_⟩
  · replace h := h.1 c
    exact hk _ _ hF h
  · replace h := h.2 c
    intro z13 e
    replace h := h z13 e
    intro S14 e
    replace h := h S14 e
    replace hF := Fr_z hF e (by decide)
    refine ⟨h.1, ?_⟩
    replace h := h.2
    intro z15 e
    replace h := h z15 e
    refine ⟨h.1, ?_⟩
    replace h := h.2
    intro z16 e
    replace h := h z16 e
    refine ⟨fun c => ?_, fun c => ?_⟩
    · replace h := h.1 c
      exact fm_live_100 hk hk56 hF h
    · replace h := h.2 c
      exact fm_live_100 hk hk56 hF h
theorem fml_live_56 {K K' : mS → Int32 → Prop} {S0 : mS} (hk : ∀ S1 r1, Fr [0, 21] [49, 50] [] S0 S1 → K S1 r1 → K' S1 r1) : ∀ (n : Nat) (u : Int32 × Int32 × mS), Fr [0, 21] [49, 50] [] S0 u.2.2 → it (ls_live_56 K) n u → it (ls_live_56 K') n u := by
  intro n
  induction n with
  | zero => exact fun _ _ h => h
  | succ n ih => exact fun u hF h => fm_live_56 hk ih hF h
theorem fm_live (a0 : Int32) (a1 : Int32) (a2 : Int32) : FmI [0, 21] [49, 50] [] (wp_live a0 a1 a2) := by
  intro S0 K K' hk h
  have hF : Fr [0, 21] [49, 50] [] S0 S0 := Fr_rf
  unfold wp_live at h ⊢
  intro S1 e
  replace h := h S1 e
  replace hF := Fr_z hF e (by decide)
  refine fm_isState _ _ _ _ _ (fun S2 r2 hG h => ?_) h
  replace hF := Fr_t hF hG (by decide) (by decide) (by decide)
  refine ⟨fun c => ?_, fun c => ?_⟩
  · replace h := h.1 c
    exact hk _ _ hF h
  · replace h := h.2 c
    refine ⟨fun c => ?_, fun c => ?_⟩
    · replace h := h.1 c
      exact hk _ _ hF h
    · replace h := h.2 c
      intro z5 e
      replace h := h z5 e
      intro z6 e
      replace h := h z6 e
      refine ⟨h.1, ?_⟩
      replace h := h.2
      intro z7 e
      replace h := h z7 e
      refine ⟨fun c => ?_, fun c => ?_⟩
      · replace h := h.1 c
        intro z9 e
        replace h := h z9 e
        intro z10 e
        replace h := h z10 e
        refine fm_from _ _ _ _ _ (fun S11 hG h => ?_) h
        replace hF := Fr_t hF hG (by decide) (by decide) (by decide)
        obtain ⟨n9, h⟩ := h
        exact ⟨n9, fml_live_56 hk n9 _ hF h⟩
      · replace h := h.2 c
        exact hk _ _ hF h
theorem fm_lost (a0 : Int32) (a1 : Int32) : FmI [0] [] [] (wp_lost a0 a1) := by
  intro S0 K K' hk h
  have hF : Fr [0] [] [] S0 S0 := Fr_rf
  unfold wp_lost at h ⊢
  intro S1 e
  replace h := h S1 e
  replace hF := Fr_z hF e (by decide)
  refine ⟨fun c => ?_, fun c => ?_⟩
  · replace h := h.1 c
    exact hk _ _ hF h
  · replace h := h.2 c
    refine ⟨fun c => ?_, fun c => ?_⟩
    · replace h := h.1 c
      exact hk _ _ hF h
    · replace h := h.2 c
      refine ⟨fun c => ?_, fun c => ?_⟩
      · replace h := h.1 c
        refine ⟨fun c => ?_, fun c => ?_⟩
        · replace h := h.1 c
          refine ⟨fun c => ?_, fun c => ?_⟩
          · replace h := h.1 c
            exact hk _ _ hF h
          · replace h := h.2 c
            refine ⟨h.1, ?_⟩
            replace h := h.2
            intro z7 e
            replace h := h z7 e
            exact hk _ _ hF h
        · replace h := h.2 c
          refine ⟨h.1, ?_⟩
          replace h := h.2
          intro z8 e
          replace h := h z8 e
          exact hk _ _ hF h
      · replace h := h.2 c
        exact hk _ _ hF h
theorem fm_named (a0 : Int32) : FmI [0, 1, 2, 3, 4] [1, 2] [3] (wp_named a0) := by
  intro S0 K K' hk h
  have hF : Fr [0, 1, 2, 3, 4] [1, 2] [3] S0 S0 := Fr_rf
  unfold wp_named at h ⊢
  intro S1 e
  replace h := h S1 e
  replace hF := Fr_z hF e (by decide)
  refine fm_cutAll _ _ _ (fun S2 hG h => ?_) h
  replace hF := Fr_t hF hG (by decide) (by decide) (by decide)
  refine ⟨h.1, ?_⟩
  replace h := h.2
  intro z3 e
  replace h := h z3 e
  refine ⟨fun c => ?_, fun c => ?_⟩
  · replace h := h.1 c
    exact hk _ _ hF h
  · replace h := h.2 c
    refine ⟨h.1, ?_⟩
    replace h := h.2
    intro z5 e
    replace h := h z5 e
    refine ⟨fun c => ?_, fun c => ?_⟩
    · replace h := h.1 c
      exact hk _ _ hF h
    · replace h := h.2 c
      refine ⟨fun c => ?_, fun c => ?_⟩
      · replace h := h.1 c
        exact hk _ _ hF h
      · replace h := h.2 c
        refine ⟨h.1, ?_⟩
        replace h := h.2
        intro z8 e
        replace h := h z8 e
        refine ⟨fun c => ?_, fun c => ?_⟩
        · replace h := h.1 c
          intro z10 e
          replace h := h z10 e
          intro z11 e
          replace h := h z11 e
          refine ⟨fun c => ?_, fun c => ?_⟩
          · replace h := h.1 c
            intro z13 e
            replace h := h z13 e
            refine ⟨h.1, ?_⟩
            replace h := h.2
            intro z14 e
            replace h := h z14 e
            refine ⟨h.1, ?_⟩
            replace h := h.2
            intro z15 e
            replace h := h z15 e
            refine fm_find_c _ _ _ _ _ _ (fun S16 r16 hG h => ?_) h
            replace hF := Fr_t hF hG (by decide) (by decide) (by decide)
            exact hk _ _ hF h
          · replace h := h.2 c
            intro z17 e
            replace h := h z17 e
            refine ⟨h.1, ?_⟩
            replace h := h.2
            intro z18 e
            replace h := h z18 e
            refine ⟨h.1, ?_⟩
            replace h := h.2
            intro z19 e
            replace h := h z19 e
            refine fm_find_r _ _ _ _ _ _ (fun S20 r20 hG h => ?_) h
            replace hF := Fr_t hF hG (by decide) (by decide) (by decide)
            exact hk _ _ hF h
        · replace h := h.2 c
          exact hk _ _ hF h
theorem fm_next_154 {K K' : mS → Int32 → Prop} {k46 k46' : Int32 × Int32 × Int32 × mS → Prop} {S0 : mS} (hk : ∀ S1 r1, Fr [0, 21] [49, 50] [] S0 S1 → K S1 r1 → K' S1 r1) (hk46 : ∀ u : Int32 × Int32 × Int32 × mS, Fr [0, 21] [49, 50] [] S0 u.2.2.2 → k46 u → k46' u) {x3 : Int32} {x4 : Int32} {x5 : Int32} {S : mS} (hF : Fr [0, 21] [49, 50] [] S0 S) (h : wp_next_154 K k46 x3 x4 x5 S) : wp_next_154 K' k46' x3 x4 x5 S := by
  unfold wp_next_154 at h ⊢
  exact hk46 _ hF h
theorem fm_next_139 {K K' : mS → Int32 → Prop} {k46 k46' : Int32 × Int32 × Int32 × mS → Prop} {S0 : mS} (hk : ∀ S1 r1, Fr [0, 21] [49, 50] [] S0 S1 → K S1 r1 → K' S1 r1) (hk46 : ∀ u : Int32 × Int32 × Int32 × mS, Fr [0, 21] [49, 50] [] S0 u.2.2.2 → k46 u → k46' u) {x3 : Int32} {x4 : Int32} {x6 : Int32} {y0 : Int32} {S : mS} (hF : Fr [0, 21] [49, 50] [] S0 S) (h : wp_next_139 K k46 x3 x4 x6 y0 S) : wp_next_139 K' k46' x3 x4 x6 y0 S := by
  unfold wp_next_139 at h ⊢
  refine ⟨h.1, ?_⟩
  replace h := h.2
  intro z24 e
  replace h := h z24 e
  refine fm_goOn _ _ _ _ _ (fun S25 hG h => ?_) h
  replace hF := Fr_t hF hG (by decide) (by decide) (by decide)
  exact fm_next_154 hk hk46 hF h
theorem fm_next_138 {K K' : mS → Int32 → Prop} {k46 k46' : Int32 × Int32 × Int32 × mS → Prop} {S0 : mS} (hk : ∀ S1 r1, Fr [0, 21] [49, 50] [] S0 S1 → K S1 r1 → K' S1 r1) (hk46 : ∀ u : Int32 × Int32 × Int32 × mS, Fr [0, 21] [49, 50] [] S0 u.2.2.2 → k46 u → k46' u) {x3 : Int32} {x4 : Int32} {x6 : Int32} {S : mS} (hF : Fr [0, 21] [49, 50] [] S0 S) (h : wp_next_138 K k46 x3 x4 x6 S) : wp_next_138 K' k46' x3 x4 x6 S := by
  unfold wp_next_138 at h ⊢
  exact fm_next_139 hk hk46 hF h
theorem fm_next_134 {K K' : mS → Int32 → Prop} {k46 k46' : Int32 × Int32 × Int32 × mS → Prop} {S0 : mS} (hk : ∀ S1 r1, Fr [0, 21] [49, 50] [] S0 S1 → K S1 r1 → K' S1 r1) (hk46 : ∀ u : Int32 × Int32 × Int32 × mS, Fr [0, 21] [49, 50] [] S0 u.2.2.2 → k46 u → k46' u) {x3 : Int32} {x4 : Int32} {x6 : Int32} {S : mS} (hF : Fr [0, 21] [49, 50] [] S0 S) (h : wp_next_134 K k46 x3 x4 x6 S) : wp_next_134 K' k46' x3 x4 x6 S := by
  unfold wp_next_134 at h ⊢
  exact fm_next_139 hk hk46 hF h
theorem fm_next_108 {K K' : mS → Int32 → Prop} {k46 k46' : Int32 × Int32 × Int32 × mS → Prop} {S0 : mS} (hk : ∀ S1 r1, Fr [0, 21] [49, 50] [] S0 S1 → K S1 r1 → K' S1 r1) (hk46 : ∀ u : Int32 × Int32 × Int32 × mS, Fr [0, 21] [49, 50] [] S0 u.2.2.2 → k46 u → k46' u) {x3 : Int32} {x4 : Int32} {y0 : Int32} {S : mS} (hF : Fr [0, 21] [49, 50] [] S0 S) (h : wp_next_108 K k46 x3 x4 y0 S) : wp_next_108 K' k46' x3 x4 y0 S := by
  unfold wp_next_108 at h ⊢
  exact fm_next_154 hk hk46 hF h
theorem fm_next_103 {K K' : mS → Int32 → Prop} {k46 k46' : Int32 × Int32 × Int32 × mS → Prop} {S0 : mS} (hk : ∀ S1 r1, Fr [0, 21] [49, 50] [] S0 S1 → K S1 r1 → K' S1 r1) (hk46 : ∀ u : Int32 × Int32 × Int32 × mS, Fr [0, 21] [49, 50] [] S0 u.2.2.2 → k46 u → k46' u) {x3 : Int32} {x4 : Int32} {S : mS} (hF : Fr [0, 21] [49, 50] [] S0 S) (h : wp_next_103 K k46 x3 x4 S) : wp_next_103 K' k46' x3 x4 S := by
  unfold wp_next_103 at h ⊢
  exact fm_next_108 hk hk46 hF h
theorem fm_next_46 {K K' : mS → Int32 → Prop} {k46 k46' : Int32 × Int32 × Int32 × mS → Prop} {S0 : mS} (hk : ∀ S1 r1, Fr [0, 21] [49, 50] [] S0 S1 → K S1 r1 → K' S1 r1) (hk46 : ∀ u : Int32 × Int32 × Int32 × mS, Fr [0, 21] [49, 50] [] S0 u.2.2.2 → k46 u → k46' u) {x3 : Int32} {x4 : Int32} {x5 : Int32} {S : mS} (hF : Fr [0, 21] [49, 50] [] S0 S) (h : wp_next_46 K k46 x3 x4 x5 S) : wp_next_46 K' k46' x3 x4 x5 S := by
  unfold wp_next_46 at h ⊢
  refine ⟨fun c => ?_, fun c => ?_⟩
  · replace h := h.1 c
    refine ⟨fun c => ?_, fun c => ?_⟩
    · replace h := h.1 c
      exact hk _ _ hF h
    · replace h := h.2 c
      exact hk _ _ hF h
  · replace h := h.2 c
    intro z11 e
    replace h := h z11 e
    intro S12 e
    replace h := h S12 e
    replace hF := Fr_z hF e (by decide)
    refine ⟨h.1, ?_⟩
    replace h := h.2
    intro z13 e
    replace h := h z13 e
    refine ⟨h.1, ?_⟩
    replace h := h.2
    intro z14 e
    replace h := h z14 e
    refine ⟨fun c => ?_, fun c => ?_⟩
    · replace h := h.1 c
      refine ⟨fun c => ?_, fun c => ?_⟩
      · replace h := h.1 c
        exact fm_next_134 hk hk46 hF h
      · replace h := h.2 c
        refine ⟨h.1, ?_⟩
        replace h := h.2
        intro z17 e
        replace h := h z17 e
        refine ⟨fun c => ?_, fun c => ?_⟩
        · replace h := h.1 c
          exact fm_next_138 hk hk46 hF h
        · replace h := h.2 c
          refine ⟨fun c => ?_, fun c => ?_⟩
          · replace h := h.1 c
            exact fm_next_138 hk hk46 hF h
          · replace h := h.2 c
            exact fm_next_134 hk hk46 hF h
    · replace h := h.2 c
      refine ⟨fun c => ?_, fun c => ?_⟩
      · replace h := h.1 c
        exact fm_next_103 hk hk46 hF h
      · replace h := h.2 c
        refine ⟨h.1, ?_⟩
        replace h := h.2
        intro z21 e
        replace h := h z21 e
        intro z22 e
        replace h := h z22 e
        refine ⟨fun c => ?_, fun c => ?_⟩
        · replace h := h.1 c
          exact fm_next_108 hk hk46 hF h
        · replace h := h.2 c
          exact fm_next_103 hk hk46 hF h
theorem fml_next_46 {K K' : mS → Int32 → Prop} {S0 : mS} (hk : ∀ S1 r1, Fr [0, 21] [49, 50] [] S0 S1 → K S1 r1 → K' S1 r1) : ∀ (n : Nat) (u : Int32 × Int32 × Int32 × mS), Fr [0, 21] [49, 50] [] S0 u.2.2.2 → it (ls_next_46 K) n u → it (ls_next_46 K') n u := by
  intro n
  induction n with
  | zero => exact fun _ _ h => h
  | succ n ih => exact fun u hF h => fm_next_46 hk ih hF h
theorem fm_next (a0 : Int32) (a1 : Int32) (a2 : Int32) : FmI [0, 21] [49, 50] [] (wp_next a0 a1 a2) := by
  intro S0 K K' hk h
  have hF : Fr [0, 21] [49, 50] [] S0 S0 := Fr_rf
  unfold wp_next at h ⊢
  intro S1 e
  replace h := h S1 e
  replace hF := Fr_z hF e (by decide)
  refine fm_isState _ _ _ _ _ (fun S2 r2 hG h => ?_) h
  replace hF := Fr_t hF hG (by decide) (by decide) (by decide)
  refine ⟨fun c => ?_, fun c => ?_⟩
  · replace h := h.1 c
    exact hk _ _ hF h
  · replace h := h.2 c
    refine fm_isState _ _ _ _ _ (fun S4 r4 hG h => ?_) h
    replace hF := Fr_t hF hG (by decide) (by decide) (by decide)
    refine ⟨fun c => ?_, fun c => ?_⟩
    · replace h := h.1 c
      intro z6 e
      replace h := h z6 e
      intro z7 e
      replace h := h z7 e
      refine fm_from _ _ _ _ _ (fun S8 hG h => ?_) h
      replace hF := Fr_t hF hG (by decide) (by decide) (by decide)
      obtain ⟨n9, h⟩ := h
      exact ⟨n9, fml_next_46 hk n9 _ hF h⟩
    · replace h := h.2 c
      exact hk _ _ hF h
theorem fm_notePut_33 {K K' : mS → Prop} {S0 : mS} (hk : ∀ S1, Fr [27] [74, 75] [] S0 S1 → K S1 → K' S1) {S : mS} (hF : Fr [27] [74, 75] [] S0 S) (h : wp_notePut_33 K S) : wp_notePut_33 K' S := by
  unfold wp_notePut_33 at h ⊢
  intro z4 e
  replace h := h z4 e
  intro S5 e
  replace h := h S5 e
  replace hF := Fr_z hF e (by decide)
  exact hk _ hF h
theorem fm_notePut (a0 : Int32) : FmV [27] [74, 75] [] (wp_notePut a0) := by
  intro S0 K K' hk h
  have hF : Fr [27] [74, 75] [] S0 S0 := Fr_rf
  unfold wp_notePut at h ⊢
  refine ⟨fun c => ?_, fun c => ?_⟩
  · replace h := h.1 c
    exact fm_notePut_33 hk hF h
  · replace h := h.2 c
    refine ⟨h.1, ?_⟩
    replace h := h.2
    intro S2 e
    replace h := h S2 e
    replace hF := Fr_f hF e (by decide)
    refine ⟨h.1, ?_⟩
    replace h := h.2
    intro S3 e
    replace h := h S3 e
    replace hF := Fr_f hF e (by decide)
    exact fm_notePut_33 hk hF h
theorem fm_pop : FmI [31] [] [] (wp_pop) := by
  intro S0 K K' hk h
  have hF : Fr [31] [] [] S0 S0 := Fr_rf
  unfold wp_pop at h ⊢
  intro z1 e
  replace h := h z1 e
  intro S2 e
  replace h := h S2 e
  replace hF := Fr_z hF e (by decide)
  refine ⟨h.1, ?_⟩
  replace h := h.2
  intro z3 e
  replace h := h z3 e
  exact hk _ _ hF h
theorem fm_toldRoutine_180 {K K' : mS → Prop} {S0 : mS} (hk : ∀ S1, Fr [3, 4, 7, 8, 9, 10, 11, 12, 13, 14, 15, 16, 17, 18, 19, 20] [5, 7, 8, 10, 11, 12, 13, 14, 15, 16, 17, 18, 19, 20, 21, 22, 23, 24, 25, 26, 27, 28, 29, 30, 31, 32, 33, 34, 35, 36, 37, 38, 39, 40, 41, 42, 43, 44, 45, 46, 47, 48] [6, 9] S0 S1 → K S1 → K' S1) {x1 : Int32} {x2 : Int64} {S : mS} (hF : Fr [3, 4, 7, 8, 9, 10, 11, 12, 13, 14, 15, 16, 17, 18, 19, 20] [5, 7, 8, 10, 11, 12, 13, 14, 15, 16, 17, 18, 19, 20, 21, 22, 23, 24, 25, 26, 27, 28, 29, 30, 31, 32, 33, 34, 35, 36, 37, 38, 39, 40, 41, 42, 43, 44, 45, 46, 47, 48] [6, 9] S0 S) (h : wp_toldRoutine_180 K x1 x2 S) : wp_toldRoutine_180 K' x1 x2 S := by
  unfold wp_toldRoutine_180 at h ⊢
  refine fm_takeSign _ _ _ _ (fun S31 hG h => ?_) h
  replace hF := Fr_t hF hG (by decide) (by decide) (by decide)
  refine ⟨h.1, ?_⟩
  replace h := h.2
  intro z32 e
  replace h := h z32 e
  refine ⟨h.1, ?_⟩
  replace h := h.2
  intro S33 e
  replace h := h S33 e
  replace hF := Fr_f hF e (by decide)
  refine ⟨fun c => ?_, fun c => ?_⟩
  · replace h := h.1 c
    refine ⟨h.1, ?_⟩
    replace h := h.2
    intro S35 e
    replace h := h S35 e
    replace hF := Fr_f hF e (by decide)
    intro S36 e
    replace h := h S36 e
    replace hF := Fr_z hF e (by decide)
    intro S37 e
    replace h := h S37 e
    replace hF := Fr_z hF e (by decide)
    intro S38 e
    replace h := h S38 e
    replace hF := Fr_z hF e (by decide)
    intro S39 e
    replace h := h S39 e
    replace hF := Fr_z hF e (by decide)
    intro S40 e
    replace h := h S40 e
    replace hF := Fr_z hF e (by decide)
    intro S41 e
    replace h := h S41 e
    replace hF := Fr_z hF e (by decide)
    refine fm_act _ _ _ _ _ (fun S42 r42 hG h => ?_) h
    replace hF := Fr_t hF hG (by decide) (by decide) (by decide)
    refine ⟨h.1, ?_⟩
    replace h := h.2
    intro S43 e
    replace h := h S43 e
    replace hF := Fr_f hF e (by decide)
    refine fm_act _ _ _ _ _ (fun S44 r44 hG h => ?_) h
    replace hF := Fr_t hF hG (by decide) (by decide) (by decide)
    refine ⟨h.1, ?_⟩
    replace h := h.2
    intro S45 e
    replace h := h S45 e
    replace hF := Fr_f hF e (by decide)
    refine ⟨h.1, ?_⟩
    replace h := h.2
    intro z46 e
    replace h := h z46 e
    intro S47 e
    replace h := h S47 e
    replace hF := Fr_z hF e (by decide)
    refine fq_block _ _ _ (fun S48 hG h => ?_) h
    replace hF := Fr_t hF hG (by decide) (by decide) (by decide)
    refine fm_emit _ _ _ _ _ _ (fun S49 r49 hG h => ?_) h
    replace hF := Fr_t hF hG (by decide) (by decide) (by decide)
    refine ⟨h.1, ?_⟩
    replace h := h.2
    intro z50 e
    replace h := h z50 e
    refine fm_lead _ _ _ _ (fun S51 hG h => ?_) h
    replace hF := Fr_t hF hG (by decide) (by decide) (by decide)
    refine ⟨fun c => ?_, fun c => ?_⟩
    · replace h := h.1 c
      exact hk _ hF h
    · replace h := h.2 c
      refine ⟨h.1, ?_⟩
      replace h := h.2
      intro S53 e
      replace h := h S53 e
      replace hF := Fr_g hF e (by decide)
      refine ⟨h.1, ?_⟩
      replace h := h.2
      intro z54 e
      replace h := h z54 e
      intro z55 e
      replace h := h z55 e
      refine ⟨h.1, ?_⟩
      replace h := h.2
      intro S56 e
      replace h := h S56 e
      replace hF := Fr_f hF e (by decide)
      exact hk _ hF h
  · replace h := h.2 c
    exact hk _ hF h
theorem fm_toldRoutine_163 {K K' : mS → Prop} {k163 k163' : Int32 × Int64 × mS → Prop} {S0 : mS} (hk : ∀ S1, Fr [3, 4, 7, 8, 9, 10, 11, 12, 13, 14, 15, 16, 17, 18, 19, 20] [5, 7, 8, 10, 11, 12, 13, 14, 15, 16, 17, 18, 19, 20, 21, 22, 23, 24, 25, 26, 27, 28, 29, 30, 31, 32, 33, 34, 35, 36, 37, 38, 39, 40, 41, 42, 43, 44, 45, 46, 47, 48] [6, 9] S0 S1 → K S1 → K' S1) (hk163 : ∀ u : Int32 × Int64 × mS, Fr [3, 4, 7, 8, 9, 10, 11, 12, 13, 14, 15, 16, 17, 18, 19, 20] [5, 7, 8, 10, 11, 12, 13, 14, 15, 16, 17, 18, 19, 20, 21, 22, 23, 24, 25, 26, 27, 28, 29, 30, 31, 32, 33, 34, 35, 36, 37, 38, 39, 40, 41, 42, 43, 44, 45, 46, 47, 48] [6, 9] S0 u.2.2 → k163 u → k163' u) {x1 : Int32} {x2 : Int64} {S : mS} (hF : Fr [3, 4, 7, 8, 9, 10, 11, 12, 13, 14, 15, 16, 17, 18, 19, 20] [5, 7, 8, 10, 11, 12, 13, 14, 15, 16, 17, 18, 19, 20, 21, 22, 23, 24, 25, 26, 27, 28, 29, 30, 31, 32, 33, 34, 35, 36, 37, 38, 39, 40, 41, 42, 43, 44, 45, 46, 47, 48] [6, 9] S0 S) (h : wp_toldRoutine_163 K k163 x1 x2 S) : wp_toldRoutine_163 K' k163' x1 x2 S := by
  unfold wp_toldRoutine_163 at h ⊢
  refine fm_hasSign _ _ _ _ (fun S28 r28 hG h => ?_) h
  replace hF := Fr_t hF hG (by decide) (by decide) (by decide)
  refine ⟨fun c => ?_, fun c => ?_⟩
  · replace h := h.1 c
    exact fm_toldRoutine_180 hk hF h
  · replace h := h.2 c
    refine fm_givenCell _ _ _ _ (fun S30 hG h => ?_) h
    replace hF := Fr_t hF hG (by decide) (by decide) (by decide)
    exact hk163 _ hF h
theorem fml_toldRoutine_163 {K K' : mS → Prop} {S0 : mS} (hk : ∀ S1, Fr [3, 4, 7, 8, 9, 10, 11, 12, 13, 14, 15, 16, 17, 18, 19, 20] [5, 7, 8, 10, 11, 12, 13, 14, 15, 16, 17, 18, 19, 20, 21, 22, 23, 24, 25, 26, 27, 28, 29, 30, 31, 32, 33, 34, 35, 36, 37, 38, 39, 40, 41, 42, 43, 44, 45, 46, 47, 48] [6, 9] S0 S1 → K S1 → K' S1) : ∀ (n : Nat) (u : Int32 × Int64 × mS), Fr [3, 4, 7, 8, 9, 10, 11, 12, 13, 14, 15, 16, 17, 18, 19, 20] [5, 7, 8, 10, 11, 12, 13, 14, 15, 16, 17, 18, 19, 20, 21, 22, 23, 24, 25, 26, 27, 28, 29, 30, 31, 32, 33, 34, 35, 36, 37, 38, 39, 40, 41, 42, 43, 44, 45, 46, 47, 48] [6, 9] S0 u.2.2 → it (ls_toldRoutine_163 K) n u → it (ls_toldRoutine_163 K') n u := by
  intro n
  induction n with
  | zero => exact fun _ _ h => h
  | succ n ih => exact fun u hF h => fm_toldRoutine_163 hk ih hF h
theorem fm_toldRoutine_104 {K K' : mS → Prop} {S0 : mS} (hk : ∀ S1, Fr [3, 4, 7, 8, 9, 10, 11, 12, 13, 14, 15, 16, 17, 18, 19, 20] [5, 7, 8, 10, 11, 12, 13, 14, 15, 16, 17, 18, 19, 20, 21, 22, 23, 24, 25, 26, 27, 28, 29, 30, 31, 32, 33, 34, 35, 36, 37, 38, 39, 40, 41, 42, 43, 44, 45, 46, 47, 48] [6, 9] S0 S1 → K S1 → K' S1) {x1 : Int32} {S : mS} (hF : Fr [3, 4, 7, 8, 9, 10, 11, 12, 13, 14, 15, 16, 17, 18, 19, 20] [5, 7, 8, 10, 11, 12, 13, 14, 15, 16, 17, 18, 19, 20, 21, 22, 23, 24, 25, 26, 27, 28, 29, 30, 31, 32, 33, 34, 35, 36, 37, 38, 39, 40, 41, 42, 43, 44, 45, 46, 47, 48] [6, 9] S0 S) (h : wp_toldRoutine_104 K x1 S) : wp_toldRoutine_104 K' x1 S := by
  unfold wp_toldRoutine_104 at h ⊢
  refine ⟨h.1, ?_⟩
  replace h := h.2
  intro z18 e
  replace h := h z18 e
  intro z19 e
  replace h := h z19 e
  intro S20 e
  replace h := h S20 e
  replace hF := Fr_z hF e (by decide)
  intro S21 e
  replace h := h S21 e
  replace hF := Fr_z hF e (by decide)
  refine ⟨h.1, ?_⟩
  replace h := h.2
  intro S22 e
  replace h := h S22 e
  replace hF := Fr_f hF e (by decide)
  refine ⟨h.1, ?_⟩
  replace h := h.2
  intro S23 e
  replace h := h S23 e
  replace hF := Fr_f hF e (by decide)
  refine fm_takeSign _ _ _ _ (fun S24 hG h => ?_) h
  replace hF := Fr_t hF hG (by decide) (by decide) (by decide)
  refine fm_isSign _ _ _ _ (fun S25 r25 hG h => ?_) h
  replace hF := Fr_t hF hG (by decide) (by decide) (by decide)
  refine ⟨fun c => ?_, fun c => ?_⟩
  · replace h := h.1 c
    exact fm_toldRoutine_180 hk hF h
  · replace h := h.2 c
    refine fm_givenCell _ _ _ _ (fun S27 hG h => ?_) h
    replace hF := Fr_t hF hG (by decide) (by decide) (by decide)
    obtain ⟨n9, h⟩ := h
    exact ⟨n9, fml_toldRoutine_163 hk n9 _ hF h⟩
theorem fm_toldRoutine : FmV [3, 4, 7, 8, 9, 10, 11, 12, 13, 14, 15, 16, 17, 18, 19, 20] [5, 7, 8, 10, 11, 12, 13, 14, 15, 16, 17, 18, 19, 20, 21, 22, 23, 24, 25, 26, 27, 28, 29, 30, 31, 32, 33, 34, 35, 36, 37, 38, 39, 40, 41, 42, 43, 44, 45, 46, 47, 48] [6, 9] (wp_toldRoutine) := by
  intro S0 K K' hk h
  have hF : Fr [3, 4, 7, 8, 9, 10, 11, 12, 13, 14, 15, 16, 17, 18, 19, 20] [5, 7, 8, 10, 11, 12, 13, 14, 15, 16, 17, 18, 19, 20, 21, 22, 23, 24, 25, 26, 27, 28, 29, 30, 31, 32, 33, 34, 35, 36, 37, 38, 39, 40, 41, 42, 43, 44, 45, 46, 47, 48] [6, 9] S0 S0 := Fr_rf
  unfold wp_toldRoutine at h ⊢
  intro z1 e
  replace h := h z1 e
  refine ⟨h.1, ?_⟩
  replace h := h.2
  intro z2 e
  replace h := h z2 e
  intro z3 e
  replace h := h z3 e
  refine ⟨h.1, ?_⟩
  replace h := h.2
  intro z4 e
  replace h := h z4 e
  refine ⟨fun c => ?_, fun c => ?_⟩
  · replace h := h.1 c
    intro z6 e
    replace h := h z6 e
    intro S7 e
    replace h := h S7 e
    replace hF := Fr_z hF e (by decide)
    refine fm_isName _ _ _ (fun S8 r8 hG h => ?_) h
    replace hF := Fr_t hF hG (by decide) (by decide) (by decide)
    refine ⟨fun c => ?_, fun c => ?_⟩
    · replace h := h.1 c
      intro z10 e
      replace h := h z10 e
      refine ⟨h.1, ?_⟩
      replace h := h.2
      intro z11 e
      replace h := h z11 e
      refine ⟨h.1, ?_⟩
      replace h := h.2
      intro z12 e
      replace h := h z12 e
      refine fm_find_r _ _ _ _ _ _ (fun S13 r13 hG h => ?_) h
      replace hF := Fr_t hF hG (by decide) (by decide) (by decide)
      refine ⟨fun c => ?_, fun c => ?_⟩
      · replace h := h.1 c
        exact fm_toldRoutine_104 hk hF h
      · replace h := h.2 c
        refine fm_wrong _ _ _ _ (fun S15 hG h => ?_) h
        replace hF := Fr_t hF hG (by decide) (by decide) (by decide)
        exact fm_toldRoutine_104 hk hF h
    · replace h := h.2 c
      refine fm_wrong _ _ _ _ (fun S16 hG h => ?_) h
      replace hF := Fr_t hF hG (by decide) (by decide) (by decide)
      exact fm_toldRoutine_104 hk hF h
  · replace h := h.2 c
    refine fm_wrong _ _ _ _ (fun S17 hG h => ?_) h
    replace hF := Fr_t hF hG (by decide) (by decide) (by decide)
    exact hk _ hF h
theorem fm_program_249 {K K' : mS → Int32 → Prop} {S0 : mS} (hk : ∀ S1 r1, Fr [0, 1, 2, 3, 4, 5, 6, 7, 8, 9, 10, 11, 12, 13, 14, 15, 16, 17, 18, 19, 20, 22, 23, 24, 26, 27, 28, 29, 30] [1, 2, 5, 7, 8, 10, 11, 12, 13, 14, 15, 16, 17, 18, 19, 20, 21, 22, 23, 24, 25, 26, 27, 28, 29, 30, 31, 32, 33, 34, 35, 36, 37, 38, 39, 40, 41, 42, 43, 44, 45, 46, 47, 48, 78] [3, 6, 9] S0 S1 → K S1 r1 → K' S1 r1) {S : mS} (hF : Fr [0, 1, 2, 3, 4, 5, 6, 7, 8, 9, 10, 11, 12, 13, 14, 15, 16, 17, 18, 19, 20, 22, 23, 24, 26, 27, 28, 29, 30] [1, 2, 5, 7, 8, 10, 11, 12, 13, 14, 15, 16, 17, 18, 19, 20, 21, 22, 23, 24, 25, 26, 27, 28, 29, 30, 31, 32, 33, 34, 35, 36, 37, 38, 39, 40, 41, 42, 43, 44, 45, 46, 47, 48, 78] [3, 6, 9] S0 S) (h : wp_program_249 K S) : wp_program_249 K' S := by
  unfold wp_program_249 at h ⊢
  refine ⟨fun c => ?_, fun c => ?_⟩
  · replace h := h.1 c
    exact hk _ _ hF h
  · replace h := h.2 c
    intro S43 e
    replace h := h S43 e
    replace hF := Fr_z hF e (by decide)
    refine fm_forget _ _ _ (fun S44 hG h => ?_) h
    replace hF := Fr_t hF hG (by decide) (by decide) (by decide)
    exact hk _ _ hF h
theorem fm_program_243 {K K' : mS → Int32 → Prop} {k126 k126' : Int32 × mS → Prop} {S0 : mS} (hk : ∀ S1 r1, Fr [0, 1, 2, 3, 4, 5, 6, 7, 8, 9, 10, 11, 12, 13, 14, 15, 16, 17, 18, 19, 20, 22, 23, 24, 26, 27, 28, 29, 30] [1, 2, 5, 7, 8, 10, 11, 12, 13, 14, 15, 16, 17, 18, 19, 20, 21, 22, 23, 24, 25, 26, 27, 28, 29, 30, 31, 32, 33, 34, 35, 36, 37, 38, 39, 40, 41, 42, 43, 44, 45, 46, 47, 48, 78] [3, 6, 9] S0 S1 → K S1 r1 → K' S1 r1) (hk126 : ∀ u : Int32 × mS, Fr [0, 1, 2, 3, 4, 5, 6, 7, 8, 9, 10, 11, 12, 13, 14, 15, 16, 17, 18, 19, 20, 22, 23, 24, 26, 27, 28, 29, 30] [1, 2, 5, 7, 8, 10, 11, 12, 13, 14, 15, 16, 17, 18, 19, 20, 21, 22, 23, 24, 25, 26, 27, 28, 29, 30, 31, 32, 33, 34, 35, 36, 37, 38, 39, 40, 41, 42, 43, 44, 45, 46, 47, 48, 78] [3, 6, 9] S0 u.2 → k126 u → k126' u) {x1 : Int32} {S : mS} (hF : Fr [0, 1, 2, 3, 4, 5, 6, 7, 8, 9, 10, 11, 12, 13, 14, 15, 16, 17, 18, 19, 20, 22, 23, 24, 26, 27, 28, 29, 30] [1, 2, 5, 7, 8, 10, 11, 12, 13, 14, 15, 16, 17, 18, 19, 20, 21, 22, 23, 24, 25, 26, 27, 28, 29, 30, 31, 32, 33, 34, 35, 36, 37, 38, 39, 40, 41, 42, 43, 44, 45, 46, 47, 48, 78] [3, 6, 9] S0 S) (h : wp_program_243 K k126 x1 S) : wp_program_243 K' k126' x1 S := by
  unfold wp_program_243 at h ⊢
  intro z41 e
  replace h := h z41 e
  exact hk126 _ hF h
theorem fm_program_126 {K K' : mS → Int32 → Prop} {k126 k126' : Int32 × mS → Prop} {S0 : mS} (hk : ∀ S1 r1, Fr [0, 1, 2, 3, 4, 5, 6, 7, 8, 9, 10, 11, 12, 13, 14, 15, 16, 17, 18, 19, 20, 22, 23, 24, 26, 27, 28, 29, 30] [1, 2, 5, 7, 8, 10, 11, 12, 13, 14, 15, 16, 17, 18, 19, 20, 21, 22, 23, 24, 25, 26, 27, 28, 29, 30, 31, 32, 33, 34, 35, 36, 37, 38, 39, 40, 41, 42, 43, 44, 45, 46, 47, 48, 78] [3, 6, 9] S0 S1 → K S1 r1 → K' S1 r1) (hk126 : ∀ u : Int32 × mS, Fr [0, 1, 2, 3, 4, 5, 6, 7, 8, 9, 10, 11, 12, 13, 14, 15, 16, 17, 18, 19, 20, 22, 23, 24, 26, 27, 28, 29, 30] [1, 2, 5, 7, 8, 10, 11, 12, 13, 14, 15, 16, 17, 18, 19, 20, 21, 22, 23, 24, 25, 26, 27, 28, 29, 30, 31, 32, 33, 34, 35, 36, 37, 38, 39, 40, 41, 42, 43, 44, 45, 46, 47, 48, 78] [3, 6, 9] S0 u.2 → k126 u → k126' u) {x1 : Int32} {S : mS} (hF : Fr [0, 1, 2, 3, 4, 5, 6, 7, 8, 9, 10, 11, 12, 13, 14, 15, 16, 17, 18, 19, 20, 22, 23, 24, 26, 27, 28, 29, 30] [1, 2, 5, 7, 8, 10, 11, 12, 13, 14, 15, 16, 17, 18, 19, 20, 21, 22, 23, 24, 25, 26, 27, 28, 29, 30, 31, 32, 33, 34, 35, 36, 37, 38, 39, 40, 41, 42, 43, 44, 45, 46, 47, 48, 78] [3, 6, 9] S0 S) (h : wp_program_126 K k126 x1 S) : wp_program_126 K' k126' x1 S := by
  unfold wp_program_126 at h ⊢
  refine ⟨fun c => ?_, fun c => ?_⟩
  · replace h := h.1 c
    exact fm_program_249 hk hF h
  · replace h := h.2 c
    refine ⟨fun c => ?_, fun c => ?_⟩
    · replace h := h.1 c
      exact fm_program_249 hk hF h
    · replace h := h.2 c
      intro z24 e
      replace h := h z24 e
      refine ⟨h.1, ?_⟩
      replace h := h.2
      intro z25 e
      replace h := h z25 e
      refine ⟨h.1, ?_⟩
      replace h := h.2
      intro z26 e
      replace h := h z26 e
      refine ⟨h.1, ?_⟩
      replace h := h.2
      intro z27 e
      replace h := h z27 e
      refine fm_find_r _ _ _ _ _ _ (fun S28 r28 hG h => ?_) h
      replace hF := Fr_t hF hG (by decide) (by decide) (by decide)
      refine ⟨h.1, ?_⟩
      replace h := h.2
      intro z29 e
      replace h := h z29 e
      intro S30 e
      replace h := h S30 e
      replace hF := Fr_z hF e (by decide)
      refine ⟨fun c => ?_, fun c => ?_⟩
      · replace h := h.1 c
        intro z32 e
        replace h := h z32 e
        intro z33 e
        replace h := h z33 e
        refine ⟨h.1, ?_⟩
        replace h := h.2
        intro z34 e
        replace h := h z34 e
        refine ⟨h.1, ?_⟩
        replace h := h.2
        intro z35 e
        replace h := h z35 e
        refine ⟨fun c => ?_, fun c => ?_⟩
        · replace h := h.1 c
          refine ⟨h.1, ?_⟩
          replace h := h.2
          intro z37 e
          replace h := h z37 e
          refine ⟨h.1, ?_⟩
          replace h := h.2
          intro S38 e
          replace h := h S38 e
          replace hF := Fr_f hF e (by decide)
          exact fm_program_243 hk hk126 hF h
        · replace h := h.2 c
          refine fm_wrong _ _ _ _ (fun S39 hG h => ?_) h
          replace hF := Fr_t hF hG (by decide) (by decide) (by decide)
          exact fm_program_243 hk hk126 hF h
      · replace h := h.2 c
        refine fm_wrong _ _ _ _ (fun S40 hG h => ?_) h
        replace hF := Fr_t hF hG (by decide) (by decide) (by decide)
        exact fm_program_243 hk hk126 hF h
theorem fml_program_126 {K K' : mS → Int32 → Prop} {S0 : mS} (hk : ∀ S1 r1, Fr [0, 1, 2, 3, 4, 5, 6, 7, 8, 9, 10, 11, 12, 13, 14, 15, 16, 17, 18, 19, 20, 22, 23, 24, 26, 27, 28, 29, 30] [1, 2, 5, 7, 8, 10, 11, 12, 13, 14, 15, 16, 17, 18, 19, 20, 21, 22, 23, 24, 25, 26, 27, 28, 29, 30, 31, 32, 33, 34, 35, 36, 37, 38, 39, 40, 41, 42, 43, 44, 45, 46, 47, 48, 78] [3, 6, 9] S0 S1 → K S1 r1 → K' S1 r1) : ∀ (n : Nat) (u : Int32 × mS), Fr [0, 1, 2, 3, 4, 5, 6, 7, 8, 9, 10, 11, 12, 13, 14, 15, 16, 17, 18, 19, 20, 22, 23, 24, 26, 27, 28, 29, 30] [1, 2, 5, 7, 8, 10, 11, 12, 13, 14, 15, 16, 17, 18, 19, 20, 21, 22, 23, 24, 25, 26, 27, 28, 29, 30, 31, 32, 33, 34, 35, 36, 37, 38, 39, 40, 41, 42, 43, 44, 45, 46, 47, 48, 78] [3, 6, 9] S0 u.2 → it (ls_program_126 K) n u → it (ls_program_126 K') n u := by
  intro n
  induction n with
  | zero => exact fun _ _ h => h
  | succ n ih => exact fun u hF h => fm_program_126 hk ih hF h
theorem fm_program_124 {K K' : mS → Int32 → Prop} {S0 : mS} (hk : ∀ S1 r1, Fr [0, 1, 2, 3, 4, 5, 6, 7, 8, 9, 10, 11, 12, 13, 14, 15, 16, 17, 18, 19, 20, 22, 23, 24, 26, 27, 28, 29, 30] [1, 2, 5, 7, 8, 10, 11, 12, 13, 14, 15, 16, 17, 18, 19, 20, 21, 22, 23, 24, 25, 26, 27, 28, 29, 30, 31, 32, 33, 34, 35, 36, 37, 38, 39, 40, 41, 42, 43, 44, 45, 46, 47, 48, 78] [3, 6, 9] S0 S1 → K S1 r1 → K' S1 r1) {S : mS} (hF : Fr [0, 1, 2, 3, 4, 5, 6, 7, 8, 9, 10, 11, 12, 13, 14, 15, 16, 17, 18, 19, 20, 22, 23, 24, 26, 27, 28, 29, 30] [1, 2, 5, 7, 8, 10, 11, 12, 13, 14, 15, 16, 17, 18, 19, 20, 21, 22, 23, 24, 25, 26, 27, 28, 29, 30, 31, 32, 33, 34, 35, 36, 37, 38, 39, 40, 41, 42, 43, 44, 45, 46, 47, 48, 78] [3, 6, 9] S0 S) (h : wp_program_124 K S) : wp_program_124 K' S := by
  unfold wp_program_124 at h ⊢
  obtain ⟨n9, h⟩ := h
  exact ⟨n9, fml_program_126 hk n9 _ hF h⟩
theorem fm_program_82 {K K' : mS → Int32 → Prop} {k82 k82' : mS → Prop} {S0 : mS} (hk : ∀ S1 r1, Fr [0, 1, 2, 3, 4, 5, 6, 7, 8, 9, 10, 11, 12, 13, 14, 15, 16, 17, 18, 19, 20, 22, 23, 24, 26, 27, 28, 29, 30] [1, 2, 5, 7, 8, 10, 11, 12, 13, 14, 15, 16, 17, 18, 19, 20, 21, 22, 23, 24, 25, 26, 27, 28, 29, 30, 31, 32, 33, 34, 35, 36, 37, 38, 39, 40, 41, 42, 43, 44, 45, 46, 47, 48, 78] [3, 6, 9] S0 S1 → K S1 r1 → K' S1 r1) (hk82 : ∀ u : mS, Fr [0, 1, 2, 3, 4, 5, 6, 7, 8, 9, 10, 11, 12, 13, 14, 15, 16, 17, 18, 19, 20, 22, 23, 24, 26, 27, 28, 29, 30] [1, 2, 5, 7, 8, 10, 11, 12, 13, 14, 15, 16, 17, 18, 19, 20, 21, 22, 23, 24, 25, 26, 27, 28, 29, 30, 31, 32, 33, 34, 35, 36, 37, 38, 39, 40, 41, 42, 43, 44, 45, 46, 47, 48, 78] [3, 6, 9] S0 u → k82 u → k82' u) {S : mS} (hF : Fr [0, 1, 2, 3, 4, 5, 6, 7, 8, 9, 10, 11, 12, 13, 14, 15, 16, 17, 18, 19, 20, 22, 23, 24, 26, 27, 28, 29, 30] [1, 2, 5, 7, 8, 10, 11, 12, 13, 14, 15, 16, 17, 18, 19, 20, 21, 22, 23, 24, 25, 26, 27, 28, 29, 30, 31, 32, 33, 34, 35, 36, 37, 38, 39, 40, 41, 42, 43, 44, 45, 46, 47, 48, 78] [3, 6, 9] S0 S) (h : wp_program_82 K k82 S) : wp_program_82 K' k82' S := by
  unfold wp_program_82 at h ⊢
  refine ⟨fun c => ?_, fun c => ?_⟩
  · replace h := h.1 c
    exact fm_program_124 hk hF h
  · replace h := h.2 c
    refine ⟨h.1, ?_⟩
    replace h := h.2
    intro z16 e
    replace h := h z16 e
    refine ⟨fun c => ?_, fun c => ?_⟩
    · replace h := h.1 c
      exact fm_program_124 hk hF h
    · replace h := h.2 c
      refine fm_isWord _ _ _ _ (fun S18 r18 hG h => ?_) h
      replace hF := Fr_t hF hG (by decide) (by decide) (by decide)
      refine ⟨fun c => ?_, fun c => ?_⟩
      · replace h := h.1 c
        refine fm_wrong _ _ _ _ (fun S20 hG h => ?_) h
        replace hF := Fr_t hF hG (by decide) (by decide) (by decide)
        exact hk82 _ hF h
      · replace h := h.2 c
        refine fm_toldRoutine _ _ _ (fun S21 hG h => ?_) h
        replace hF := Fr_t hF hG (by decide) (by decide) (by decide)
        exact hk82 _ hF h
theorem fml_program_82 {K K' : mS → Int32 → Prop} {S0 : mS} (hk : ∀ S1 r1, Fr [0, 1, 2, 3, 4, 5, 6, 7, 8, 9, 10, 11, 12, 13, 14, 15, 16, 17, 18, 19, 20, 22, 23, 24, 26, 27, 28, 29, 30] [1, 2, 5, 7, 8, 10, 11, 12, 13, 14, 15, 16, 17, 18, 19, 20, 21, 22, 23, 24, 25, 26, 27, 28, 29, 30, 31, 32, 33, 34, 35, 36, 37, 38, 39, 40, 41, 42, 43, 44, 45, 46, 47, 48, 78] [3, 6, 9] S0 S1 → K S1 r1 → K' S1 r1) : ∀ (n : Nat) (u : mS), Fr [0, 1, 2, 3, 4, 5, 6, 7, 8, 9, 10, 11, 12, 13, 14, 15, 16, 17, 18, 19, 20, 22, 23, 24, 26, 27, 28, 29, 30] [1, 2, 5, 7, 8, 10, 11, 12, 13, 14, 15, 16, 17, 18, 19, 20, 21, 22, 23, 24, 25, 26, 27, 28, 29, 30, 31, 32, 33, 34, 35, 36, 37, 38, 39, 40, 41, 42, 43, 44, 45, 46, 47, 48, 78] [3, 6, 9] S0 u → it (ls_program_82 K) n u → it (ls_program_82 K') n u := by
  intro n
  induction n with
  | zero => exact fun _ _ h => h
  | succ n ih => exact fun u hF h => fm_program_82 hk ih hF h
theorem fm_program : FmI [0, 1, 2, 3, 4, 5, 6, 7, 8, 9, 10, 11, 12, 13, 14, 15, 16, 17, 18, 19, 20, 22, 23, 24, 26, 27, 28, 29, 30] [1, 2, 5, 7, 8, 10, 11, 12, 13, 14, 15, 16, 17, 18, 19, 20, 21, 22, 23, 24, 25, 26, 27, 28, 29, 30, 31, 32, 33, 34, 35, 36, 37, 38, 39, 40, 41, 42, 43, 44, 45, 46, 47, 48, 78] [3, 6, 9] (wp_program) := by
  intro S0 K K' hk h
  have hF : Fr [0, 1, 2, 3, 4, 5, 6, 7, 8, 9, 10, 11, 12, 13, 14, 15, 16, 17, 18, 19, 20, 22, 23, 24, 26, 27, 28, 29, 30] [1, 2, 5, 7, 8, 10, 11, 12, 13, 14, 15, 16, 17, 18, 19, 20, 21, 22, 23, 24, 25, 26, 27, 28, 29, 30, 31, 32, 33, 34, 35, 36, 37, 38, 39, 40, 41, 42, 43, 44, 45, 46, 47, 48, 78] [3, 6, 9] S0 S0 := Fr_rf
  unfold wp_program at h ⊢
  intro S1 e
  replace h := h S1 e
  replace hF := Fr_z hF e (by decide)
  refine fm_cutAll _ _ _ (fun S2 hG h => ?_) h
  replace hF := Fr_t hF hG (by decide) (by decide) (by decide)
  intro z3 e
  replace h := h z3 e
  intro S4 e
  replace h := h S4 e
  replace hF := Fr_z hF e (by decide)
  refine ⟨h.1, ?_⟩
  replace h := h.2
  intro S5 e
  replace h := h S5 e
  replace hF := Fr_f hF e (by decide)
  intro z6 e
  replace h := h z6 e
  intro S7 e
  replace h := h S7 e
  replace hF := Fr_z hF e (by decide)
  intro z8 e
  replace h := h z8 e
  intro S9 e
  replace h := h S9 e
  replace hF := Fr_z hF e (by decide)
  intro z10 e
  replace h := h z10 e
  intro S11 e
  replace h := h S11 e
  replace hF := Fr_z hF e (by decide)
  intro z12 e
  replace h := h z12 e
  intro S13 e
  replace h := h S13 e
  replace hF := Fr_z hF e (by decide)
  intro S14 e
  replace h := h S14 e
  replace hF := Fr_z hF e (by decide)
  obtain ⟨n9, h⟩ := h
  exact ⟨n9, fml_program_82 hk n9 _ hF h⟩
theorem fm_push (a0 : Int32) : FmV [31] [88] [] (wp_push a0) := by
  intro S0 K K' hk h
  have hF : Fr [31] [88] [] S0 S0 := Fr_rf
  unfold wp_push at h ⊢
  refine ⟨h.1, ?_⟩
  replace h := h.2
  intro S1 e
  replace h := h S1 e
  replace hF := Fr_f hF e (by decide)
  intro z2 e
  replace h := h z2 e
  intro S3 e
  replace h := h S3 e
  replace hF := Fr_z hF e (by decide)
  exact hk _ hF h
theorem fm_put (a0 : Int32) (a1 : Int32) : FmI [0] [] [] (wp_put a0 a1) := by
  intro S0 K K' hk h
  have hF : Fr [0] [] [] S0 S0 := Fr_rf
  unfold wp_put at h ⊢
  intro S1 e
  replace h := h S1 e
  replace hF := Fr_z hF e (by decide)
  refine ⟨fun c => ?_, fun c => ?_⟩
  · replace h := h.1 c
    exact hk _ _ hF h
  · replace h := h.2 c
    refine ⟨fun c => ?_, fun c => ?_⟩
    · replace h := h.1 c
      exact hk _ _ hF h
    · replace h := h.2 c
      refine ⟨fun c => ?_, fun c => ?_⟩
      · replace h := h.1 c
        refine ⟨fun c => ?_, fun c => ?_⟩
        · replace h := h.1 c
          refine ⟨fun c => ?_, fun c => ?_⟩
          · replace h := h.1 c
            exact hk _ _ hF h
          · replace h := h.2 c
            refine ⟨h.1, ?_⟩
            replace h := h.2
            intro z7 e
            replace h := h z7 e
            exact hk _ _ hF h
        · replace h := h.2 c
          refine ⟨h.1, ?_⟩
          replace h := h.2
          intro z8 e
          replace h := h z8 e
          exact hk _ _ hF h
      · replace h := h.2 c
        exact hk _ _ hF h
theorem fm_reckons_205 {K K' : mS → Prop} {S0 : mS} (hk : ∀ S1, Fr [23, 28, 30, 31, 32, 34] [54, 55, 56, 57, 58, 61, 62, 63, 65, 66, 67, 68, 70, 71, 72, 73, 76, 77, 83, 84, 87, 88] [] S0 S1 → K S1 → K' S1) {y1 : Int32} {S : mS} (hF : Fr [23, 28, 30, 31, 32, 34] [54, 55, 56, 57, 58, 61, 62, 63, 65, 66, 67, 68, 70, 71, 72, 73, 76, 77, 83, 84, 87, 88] [] S0 S) (h : wp_reckons_205 K y1 S) : wp_reckons_205 K' y1 S := by
  unfold wp_reckons_205 at h ⊢
  refine fm_push _ _ _ _ (fun S25 hG h => ?_) h
  replace hF := Fr_t hF hG (by decide) (by decide) (by decide)
  exact hk _ hF h
theorem fm_reckons_108 {K K' : mS → Prop} {S0 : mS} (hk : ∀ S1, Fr [23, 28, 30, 31, 32, 34] [54, 55, 56, 57, 58, 61, 62, 63, 65, 66, 67, 68, 70, 71, 72, 73, 76, 77, 83, 84, 87, 88] [] S0 S1 → K S1 → K' S1) {x1 : Int32} {x3 : Int32} {x4 : Int32} {S : mS} (hF : Fr [23, 28, 30, 31, 32, 34] [54, 55, 56, 57, 58, 61, 62, 63, 65, 66, 67, 68, 70, 71, 72, 73, 76, 77, 83, 84, 87, 88] [] S0 S) (h : wp_reckons_108 K x1 x3 x4 S) : wp_reckons_108 K' x1 x3 x4 S := by
  unfold wp_reckons_108 at h ⊢
  refine ⟨fun c => ?_, fun c => ?_⟩
  · replace h := h.1 c
    refine ⟨fun c => ?_, fun c => ?_⟩
    · replace h := h.1 c
      refine ⟨fun c => ?_, fun c => ?_⟩
      · replace h := h.1 c
        refine ⟨fun c => ?_, fun c => ?_⟩
        · replace h := h.1 c
          refine ⟨fun c => ?_, fun c => ?_⟩
          · replace h := h.1 c
            refine ⟨fun c => ?_, fun c => ?_⟩
            · replace h := h.1 c
              refine ⟨fun c => ?_, fun c => ?_⟩
              · replace h := h.1 c
                exact fm_reckons_205 hk hF h
              · replace h := h.2 c
                exact fm_reckons_205 hk hF h
            · replace h := h.2 c
              refine ⟨fun c => ?_, fun c => ?_⟩
              · replace h := h.1 c
                exact fm_reckons_205 hk hF h
              · replace h := h.2 c
                exact fm_reckons_205 hk hF h
          · replace h := h.2 c
            intro z20 e
            replace h := h z20 e
            exact fm_reckons_205 hk hF h
        · replace h := h.2 c
          intro z21 e
          replace h := h z21 e
          exact fm_reckons_205 hk hF h
      · replace h := h.2 c
        refine ⟨h.1, ?_⟩
        replace h := h.2
        intro z22 e
        replace h := h z22 e
        exact fm_reckons_205 hk hF h
    · replace h := h.2 c
      refine ⟨h.1, ?_⟩
      replace h := h.2
      intro z23 e
      replace h := h z23 e
      exact fm_reckons_205 hk hF h
  · replace h := h.2 c
    intro z24 e
    replace h := h z24 e
    exact fm_reckons_205 hk hF h
theorem fm_reckons_97 {K K' : mS → Prop} {S0 : mS} (hk : ∀ S1, Fr [23, 28, 30, 31, 32, 34] [54, 55, 56, 57, 58, 61, 62, 63, 65, 66, 67, 68, 70, 71, 72, 73, 76, 77, 83, 84, 87, 88] [] S0 S1 → K S1 → K' S1) {x1 : Int32} {x3 : Int32} {x4 : Int32} {S : mS} (hF : Fr [23, 28, 30, 31, 32, 34] [54, 55, 56, 57, 58, 61, 62, 63, 65, 66, 67, 68, 70, 71, 72, 73, 76, 77, 83, 84, 87, 88] [] S0 S) (h : wp_reckons_97 K x1 x3 x4 S) : wp_reckons_97 K' x1 x3 x4 S := by
  unfold wp_reckons_97 at h ⊢
  refine ⟨fun c => ?_, fun c => ?_⟩
  · replace h := h.1 c
    exact fm_reckons_108 hk hF h
  · replace h := h.2 c
    refine fm_failure _ _ _ _ (fun S27 hG h => ?_) h
    replace hF := Fr_t hF hG (by decide) (by decide) (by decide)
    exact hk _ hF h
theorem fm_reckons_51 {K K' : mS → Prop} {S0 : mS} (hk : ∀ S1, Fr [23, 28, 30, 31, 32, 34] [54, 55, 56, 57, 58, 61, 62, 63, 65, 66, 67, 68, 70, 71, 72, 73, 76, 77, 83, 84, 87, 88] [] S0 S1 → K S1 → K' S1) {y1 : Int32} {S : mS} (hF : Fr [23, 28, 30, 31, 32, 34] [54, 55, 56, 57, 58, 61, 62, 63, 65, 66, 67, 68, 70, 71, 72, 73, 76, 77, 83, 84, 87, 88] [] S0 S) (h : wp_reckons_51 K y1 S) : wp_reckons_51 K' y1 S := by
  unfold wp_reckons_51 at h ⊢
  refine fm_push _ _ _ _ (fun S33 hG h => ?_) h
  replace hF := Fr_t hF hG (by decide) (by decide) (by decide)
  exact hk _ hF h
theorem fm_reckons_15 {K K' : mS → Prop} {S0 : mS} (hk : ∀ S1, Fr [23, 28, 30, 31, 32, 34] [54, 55, 56, 57, 58, 61, 62, 63, 65, 66, 67, 68, 70, 71, 72, 73, 76, 77, 83, 84, 87, 88] [] S0 S1 → K S1 → K' S1) {x1 : Int32} {x2 : Int32} {S : mS} (hF : Fr [23, 28, 30, 31, 32, 34] [54, 55, 56, 57, 58, 61, 62, 63, 65, 66, 67, 68, 70, 71, 72, 73, 76, 77, 83, 84, 87, 88] [] S0 S) (h : wp_reckons_15 K x1 x2 S) : wp_reckons_15 K' x1 x2 S := by
  unfold wp_reckons_15 at h ⊢
  refine ⟨fun c => ?_, fun c => ?_⟩
  · replace h := h.1 c
    refine ⟨fun c => ?_, fun c => ?_⟩
    · replace h := h.1 c
      exact fm_reckons_51 hk hF h
    · replace h := h.2 c
      intro z30 e
      replace h := h z30 e
      intro z31 e
      replace h := h z31 e
      refine ⟨h.1, ?_⟩
      replace h := h.2
      intro z32 e
      replace h := h z32 e
      exact fm_reckons_51 hk hF h
  · replace h := h.2 c
    exact fm_reckons_51 hk hF h
theorem fm_reckons (a0 : Int32) (a1 : Int32) : FmV [23, 28, 30, 31, 32, 34] [54, 55, 56, 57, 58, 61, 62, 63, 65, 66, 67, 68, 70, 71, 72, 73, 76, 77, 83, 84, 87, 88] [] (wp_reckons a0 a1) := by
  intro S0 K K' hk h
  have hF : Fr [23, 28, 30, 31, 32, 34] [54, 55, 56, 57, 58, 61, 62, 63, 65, 66, 67, 68, 70, 71, 72, 73, 76, 77, 83, 84, 87, 88] [] S0 S0 := Fr_rf
  unfold wp_reckons at h ⊢
  refine ⟨fun c => ?_, fun c => ?_⟩
  · replace h := h.1 c
    exact fm_reckons_15 hk hF h
  · replace h := h.2 c
    refine ⟨fun c => ?_, fun c => ?_⟩
    · replace h := h.1 c
      exact fm_reckons_15 hk hF h
    · replace h := h.2 c
      refine ⟨fun c => ?_, fun c => ?_⟩
      · replace h := h.1 c
        refine ⟨fun c => ?_, fun c => ?_⟩
        · replace h := h.1 c
          refine fm_pop _ _ _ (fun S5 r5 hG h => ?_) h
          replace hF := Fr_t hF hG (by decide) (by decide) (by decide)
          refine fm_pop _ _ _ (fun S6 r6 hG h => ?_) h
          replace hF := Fr_t hF hG (by decide) (by decide) (by decide)
          refine ⟨fun c => ?_, fun c => ?_⟩
          · replace h := h.1 c
            exact fm_reckons_97 hk hF h
          · replace h := h.2 c
            refine ⟨fun c => ?_, fun c => ?_⟩
            · replace h := h.1 c
              exact fm_reckons_108 hk hF h
            · replace h := h.2 c
              exact fm_reckons_97 hk hF h
        · replace h := h.2 c
          refine fm_pop _ _ _ (fun S9 r9 hG h => ?_) h
          replace hF := Fr_t hF hG (by decide) (by decide) (by decide)
          intro z10 e
          replace h := h z10 e
          refine fm_push _ _ _ _ (fun S11 hG h => ?_) h
          replace hF := Fr_t hF hG (by decide) (by decide) (by decide)
          exact hk _ hF h
      · replace h := h.2 c
        exact fm_reckons_15 hk hF h
theorem fm_spent_19 {K K' : mS → Prop} {S0 : mS} (hk : ∀ S1, Fr [23, 28, 30] [54, 55, 56, 61, 62, 63, 67, 73, 76, 77, 83, 84, 87] [] S0 S1 → K S1 → K' S1) {S : mS} (hF : Fr [23, 28, 30] [54, 55, 56, 61, 62, 63, 67, 73, 76, 77, 83, 84, 87] [] S0 S) (h : wp_spent_19 K S) : wp_spent_19 K' S := by
  unfold wp_spent_19 at h ⊢
  refine fq_ends _ _ _ _ _ _ (fun S3 hG h => ?_) h
  replace hF := Fr_t hF hG (by decide) (by decide) (by decide)
  exact hk _ hF h
theorem fm_spent : FmV [23, 28, 30] [54, 55, 56, 61, 62, 63, 67, 73, 76, 77, 83, 84, 87] [] (wp_spent) := by
  intro S0 K K' hk h
  have hF : Fr [23, 28, 30] [54, 55, 56, 61, 62, 63, 67, 73, 76, 77, 83, 84, 87] [] S0 S0 := Fr_rf
  unfold wp_spent at h ⊢
  refine ⟨fun c => ?_, fun c => ?_⟩
  · replace h := h.1 c
    exact fm_spent_19 hk hF h
  · replace h := h.2 c
    refine fq_letGo _ _ _ _ _ (fun S2 hG h => ?_) h
    replace hF := Fr_t hF hG (by decide) (by decide) (by decide)
    exact fm_spent_19 hk hF h
theorem fm_step : FmI [25, 26] [] [] (wp_step) := by
  intro S0 K K' hk h
  have hF : Fr [25, 26] [] [] S0 S0 := Fr_rf
  unfold wp_step at h ⊢
  refine ⟨fun c => ?_, fun c => ?_⟩
  · replace h := h.1 c
    exact hk _ _ hF h
  · replace h := h.2 c
    refine ⟨fun c => ?_, fun c => ?_⟩
    · replace h := h.1 c
      intro z3 e
      replace h := h z3 e
      intro S4 e
      replace h := h S4 e
      replace hF := Fr_z hF e (by decide)
      intro z5 e
      replace h := h z5 e
      intro S6 e
      replace h := h S6 e
      replace hF := Fr_z hF e (by decide)
      exact hk _ _ hF h
    · replace h := h.2 c
      exact hk _ _ hF h
theorem fm_tickNode_11 {K K' : mS → Prop} {S0 : mS} (hk : ∀ S1, Fr [29, 30] [80, 81, 82, 83, 84, 85, 87] [86] S0 S1 → K S1 → K' S1) {x1 : Int32} {y1 : Int32} {y2 : Int32} {S : mS} (hF : Fr [29, 30] [80, 81, 82, 83, 84, 85, 87] [86] S0 S) (h : wp_tickNode_11 K x1 y1 y2 S) : wp_tickNode_11 K' x1 y1 y2 S := by
  unfold wp_tickNode_11 at h ⊢
  refine fm_newNode _ _ _ _ _ _ (fun S2 r2 hG h => ?_) h
  replace hF := Fr_t hF hG (by decide) (by decide) (by decide)
  intro z3 e
  replace h := h z3 e
  intro z4 e
  replace h := h z4 e
  intro z5 e
  replace h := h z5 e
  refine ⟨h.1, ?_⟩
  replace h := h.2
  intro S6 e
  replace h := h S6 e
  replace hF := Fr_g hF e (by decide)
  exact hk _ hF h
theorem fm_tickNode (a0 : Int32) : FmV [29, 30] [80, 81, 82, 83, 84, 85, 87] [86] (wp_tickNode a0) := by
  intro S0 K K' hk h
  have hF : Fr [29, 30] [80, 81, 82, 83, 84, 85, 87] [86] S0 S0 := Fr_rf
  unfold wp_tickNode at h ⊢
  refine ⟨fun c => ?_, fun c => ?_⟩
  · replace h := h.1 c
    exact fm_tickNode_11 hk hF h
  · replace h := h.2 c
    exact fm_tickNode_11 hk hF h
theorem fm_shuts_26 {K K' : mS → Prop} {S0 : mS} (hk : ∀ S1, Fr [23, 28, 29, 30, 36] [54, 55, 56, 61, 62, 63, 67, 73, 76, 77, 80, 81, 82, 83, 84, 85, 87] [86] S0 S1 → K S1 → K' S1) {x1 : Int32} {S : mS} (hF : Fr [23, 28, 29, 30, 36] [54, 55, 56, 61, 62, 63, 67, 73, 76, 77, 80, 81, 82, 83, 84, 85, 87] [86] S0 S) (h : wp_shuts_26 K x1 S) : wp_shuts_26 K' x1 S := by
  unfold wp_shuts_26 at h ⊢
  refine ⟨h.1, ?_⟩
  replace h := h.2
  intro S6 e
  replace h := h S6 e
  replace hF := Fr_f hF e (by decide)
  refine ⟨h.1, ?_⟩
  replace h := h.2
  intro z7 e
  replace h := h z7 e
  intro S8 e
  replace h := h S8 e
  replace hF := Fr_z hF e (by decide)
  refine fq_weighs _ _ _ _ (fun S9 hG h => ?_) h
  replace hF := Fr_t hF hG (by decide) (by decide) (by decide)
  exact hk _ hF h
theorem fm_shuts : FmV [23, 28, 29, 30, 36] [54, 55, 56, 61, 62, 63, 67, 73, 76, 77, 80, 81, 82, 83, 84, 85, 87] [86] (wp_shuts) := by
  intro S0 K K' hk h
  have hF : Fr [23, 28, 29, 30, 36] [54, 55, 56, 61, 62, 63, 67, 73, 76, 77, 80, 81, 82, 83, 84, 85, 87] [86] S0 S0 := Fr_rf
  unfold wp_shuts at h ⊢
  refine ⟨h.1, ?_⟩
  replace h := h.2
  intro z1 e
  replace h := h z1 e
  refine ⟨fun c => ?_, fun c => ?_⟩
  · replace h := h.1 c
    exact fm_shuts_26 hk hF h
  · replace h := h.2 c
    refine ⟨h.1, ?_⟩
    replace h := h.2
    intro z3 e
    replace h := h z3 e
    intro z4 e
    replace h := h z4 e
    refine fm_tickNode _ _ _ _ (fun S5 hG h => ?_) h
    replace hF := Fr_t hF hG (by decide) (by decide) (by decide)
    exact fm_shuts_26 hk hF h
theorem fm_worksWait (a0 : Int32) (a1 : Int32) (a2 : Int32) : FmV [22, 23, 28, 29, 30, 31, 32, 34, 35, 36, 37] [51, 52, 53, 54, 55, 56, 57, 58, 59, 60, 61, 62, 63, 64, 65, 66, 67, 68, 70, 71, 72, 73, 76, 77, 78, 79, 80, 81, 82, 83, 84, 85, 87] [86] (wp_worksWait a0 a1 a2) := by
  intro S0 K K' hk h
  have hF : Fr [22, 23, 28, 29, 30, 31, 32, 34, 35, 36, 37] [51, 52, 53, 54, 55, 56, 57, 58, 59, 60, 61, 62, 63, 64, 65, 66, 67, 68, 70, 71, 72, 73, 76, 77, 78, 79, 80, 81, 82, 83, 84, 85, 87] [86] S0 S0 := Fr_rf
  unfold wp_worksWait at h ⊢
  refine ⟨fun c => ?_, fun c => ?_⟩
  · replace h := h.1 c
    refine fm_letterNode _ _ _ _ (fun S2 hG h => ?_) h
    replace hF := Fr_t hF hG (by decide) (by decide) (by decide)
    exact hk _ hF h
  · replace h := h.2 c
    refine ⟨fun c => ?_, fun c => ?_⟩
    · replace h := h.1 c
      refine fm_pop _ _ _ (fun S4 r4 hG h => ?_) h
      replace hF := Fr_t hF hG (by decide) (by decide) (by decide)
      refine fm_tickNode _ _ _ _ (fun S5 hG h => ?_) h
      replace hF := Fr_t hF hG (by decide) (by decide) (by decide)
      exact hk _ hF h
    · replace h := h.2 c
      refine ⟨fun c => ?_, fun c => ?_⟩
      · replace h := h.1 c
        refine fm_newNode _ _ _ _ _ _ (fun S7 r7 hG h => ?_) h
        replace hF := Fr_t hF hG (by decide) (by decide) (by decide)
        exact hk _ hF h
      · replace h := h.2 c
        refine ⟨fun c => ?_, fun c => ?_⟩
        · replace h := h.1 c
          refine fm_childNode _ _ _ _ _ (fun S9 hG h => ?_) h
          replace hF := Fr_t hF hG (by decide) (by decide) (by decide)
          exact hk _ hF h
        · replace h := h.2 c
          refine ⟨fun c => ?_, fun c => ?_⟩
          · replace h := h.1 c
            refine fm_newNode _ _ _ _ _ _ (fun S11 r11 hG h => ?_) h
            replace hF := Fr_t hF hG (by decide) (by decide) (by decide)
            refine ⟨fun c => ?_, fun c => ?_⟩
            · replace h := h.1 c
              refine ⟨h.1, ?_⟩
              replace h := h.2
              intro S13 e
              replace h := h S13 e
              replace hF := Fr_g hF e (by decide)
              intro S14 e
              replace h := h S14 e
              replace hF := Fr_z hF e (by decide)
              exact hk _ hF h
            · replace h := h.2 c
              refine fm_pop _ _ _ (fun S15 r15 hG h => ?_) h
              replace hF := Fr_t hF hG (by decide) (by decide) (by decide)
              intro z16 e
              replace h := h z16 e
              refine ⟨h.1, ?_⟩
              replace h := h.2
              intro S17 e
              replace h := h S17 e
              replace hF := Fr_g hF e (by decide)
              intro S18 e
              replace h := h S18 e
              replace hF := Fr_z hF e (by decide)
              exact hk _ hF h
          · replace h := h.2 c
            refine ⟨fun c => ?_, fun c => ?_⟩
            · replace h := h.1 c
              refine fm_shuts _ _ _ (fun S20 hG h => ?_) h
              replace hF := Fr_t hF hG (by decide) (by decide) (by decide)
              exact hk _ hF h
            · replace h := h.2 c
              refine ⟨fun c => ?_, fun c => ?_⟩
              · replace h := h.1 c
                refine ⟨h.1, ?_⟩
                replace h := h.2
                intro S22 e
                replace h := h S22 e
                replace hF := Fr_f hF e (by decide)
                refine fm_stops _ _ _ _ (fun S23 hG h => ?_) h
                replace hF := Fr_t hF hG (by decide) (by decide) (by decide)
                exact hk _ hF h
              · replace h := h.2 c
                refine ⟨fun c => ?_, fun c => ?_⟩
                · replace h := h.1 c
                  intro S25 e
                  replace h := h S25 e
                  replace hF := Fr_z hF e (by decide)
                  intro S26 e
                  replace h := h S26 e
                  replace hF := Fr_z hF e (by decide)
                  intro S27 e
                  replace h := h S27 e
                  replace hF := Fr_z hF e (by decide)
                  intro S28 e
                  replace h := h S28 e
                  replace hF := Fr_z hF e (by decide)
                  refine ⟨h.1, ?_⟩
                  replace h := h.2
                  intro S29 e
                  replace h := h S29 e
                  replace hF := Fr_f hF e (by decide)
                  intro z30 e
                  replace h := h z30 e
                  refine ⟨h.1, ?_⟩
                  replace h := h.2
                  intro S31 e
                  replace h := h S31 e
                  replace hF := Fr_f hF e (by decide)
                  exact hk _ hF h
                · replace h := h.2 c
                  refine ⟨h.1, ?_⟩
                  replace h := h.2
                  intro S32 e
                  replace h := h S32 e
                  replace hF := Fr_f hF e (by decide)
                  refine fm_stops _ _ _ _ (fun S33 hG h => ?_) h
                  replace hF := Fr_t hF hG (by decide) (by decide) (by decide)
                  exact hk _ hF h
