
theorem fm_letGo_78 {r_decides : Int32 → Int32 → Int32 → mS → (mS → Prop) → Prop} (hr_decides : ∀ a0 : Int32, ∀ a1 : Int32, ∀ a2 : Int32, FmV [23, 28, 30] [54, 55, 56, 61, 62, 63, 67, 73, 76, 77, 83, 84, 87] [] (r_decides a0 a1 a2)) {r_cancels : Int32 → mS → (mS → Int32 → Prop) → Prop} (hr_cancels : ∀ a0 : Int32, FmI [23, 28, 30] [54, 55, 56, 61, 62, 63, 67, 73, 76, 77, 83, 84, 87] [] (r_cancels a0)) {K K' : mS → Prop} {k4 k4' : Int32 × Int32 × mS → Prop} {S0 : mS} (hk : ∀ S1, Fr [23, 28, 30] [54, 55, 56, 61, 62, 63, 67, 73, 76, 77, 83, 84, 87] [] S0 S1 → K S1 → K' S1) (hk4 : ∀ u : Int32 × Int32 × mS, Fr [23, 28, 30] [54, 55, 56, 61, 62, 63, 67, 73, 76, 77, 83, 84, 87] [] S0 u.2.2 → k4 u → k4' u) {x1 : Int32} {x3 : Int32} {S : mS} (hF : Fr [23, 28, 30] [54, 55, 56, 61, 62, 63, 67, 73, 76, 77, 83, 84, 87] [] S0 S) (h : wp_letGo_78 r_decides r_cancels K k4 x1 x3 S) : wp_letGo_78 r_decides r_cancels K' k4' x1 x3 S := by
  unfold wp_letGo_78 at h ⊢
  intro z14 e
  replace h := h z14 e
  exact hk4 _ hF h
theorem fm_letGo_73 {r_decides : Int32 → Int32 → Int32 → mS → (mS → Prop) → Prop} (hr_decides : ∀ a0 : Int32, ∀ a1 : Int32, ∀ a2 : Int32, FmV [23, 28, 30] [54, 55, 56, 61, 62, 63, 67, 73, 76, 77, 83, 84, 87] [] (r_decides a0 a1 a2)) {r_cancels : Int32 → mS → (mS → Int32 → Prop) → Prop} (hr_cancels : ∀ a0 : Int32, FmI [23, 28, 30] [54, 55, 56, 61, 62, 63, 67, 73, 76, 77, 83, 84, 87] [] (r_cancels a0)) {K K' : mS → Prop} {k4 k4' : Int32 × Int32 × mS → Prop} {S0 : mS} (hk : ∀ S1, Fr [23, 28, 30] [54, 55, 56, 61, 62, 63, 67, 73, 76, 77, 83, 84, 87] [] S0 S1 → K S1 → K' S1) (hk4 : ∀ u : Int32 × Int32 × mS, Fr [23, 28, 30] [54, 55, 56, 61, 62, 63, 67, 73, 76, 77, 83, 84, 87] [] S0 u.2.2 → k4 u → k4' u) {x1 : Int32} {x3 : Int32} {S : mS} (hF : Fr [23, 28, 30] [54, 55, 56, 61, 62, 63, 67, 73, 76, 77, 83, 84, 87] [] S0 S) (h : wp_letGo_73 r_decides r_cancels K k4 x1 x3 S) : wp_letGo_73 r_decides r_cancels K' k4' x1 x3 S := by
  unfold wp_letGo_73 at h ⊢
  refine fm_standsNoMore _ _ _ _ (fun S15 hG h => ?_) h
  replace hF := Fr_t hF hG (by decide) (by decide) (by decide)
  exact fm_letGo_78 hr_decides hr_cancels hk hk4 hF h
theorem fm_letGo_4 {r_decides : Int32 → Int32 → Int32 → mS → (mS → Prop) → Prop} (hr_decides : ∀ a0 : Int32, ∀ a1 : Int32, ∀ a2 : Int32, FmV [23, 28, 30] [54, 55, 56, 61, 62, 63, 67, 73, 76, 77, 83, 84, 87] [] (r_decides a0 a1 a2)) {r_cancels : Int32 → mS → (mS → Int32 → Prop) → Prop} (hr_cancels : ∀ a0 : Int32, FmI [23, 28, 30] [54, 55, 56, 61, 62, 63, 67, 73, 76, 77, 83, 84, 87] [] (r_cancels a0)) {K K' : mS → Prop} {k4 k4' : Int32 × Int32 × mS → Prop} {S0 : mS} (hk : ∀ S1, Fr [23, 28, 30] [54, 55, 56, 61, 62, 63, 67, 73, 76, 77, 83, 84, 87] [] S0 S1 → K S1 → K' S1) (hk4 : ∀ u : Int32 × Int32 × mS, Fr [23, 28, 30] [54, 55, 56, 61, 62, 63, 67, 73, 76, 77, 83, 84, 87] [] S0 u.2.2 → k4 u → k4' u) {x1 : Int32} {x3 : Int32} {S : mS} (hF : Fr [23, 28, 30] [54, 55, 56, 61, 62, 63, 67, 73, 76, 77, 83, 84, 87] [] S0 S) (h : wp_letGo_4 r_decides r_cancels K k4 x1 x3 S) : wp_letGo_4 r_decides r_cancels K' k4' x1 x3 S := by
  unfold wp_letGo_4 at h ⊢
  refine ⟨fun c => ?_, fun c => ?_⟩
  · replace h := h.1 c
    exact hk _ hF h
  · replace h := h.2 c
    refine ⟨h.1, ?_⟩
    replace h := h.2
    intro z3 e
    replace h := h z3 e
    refine ⟨fun c => ?_, fun c => ?_⟩
    · replace h := h.1 c
      refine ⟨h.1, ?_⟩
      replace h := h.2
      intro S5 e
      replace h := h S5 e
      replace hF := Fr_f hF e (by decide)
      refine ⟨h.1, ?_⟩
      replace h := h.2
      intro z6 e
      replace h := h z6 e
      refine ⟨fun c => ?_, fun c => ?_⟩
      · replace h := h.1 c
        refine ⟨h.1, ?_⟩
        replace h := h.2
        intro z8 e
        replace h := h z8 e
        refine ⟨fun c => ?_, fun c => ?_⟩
        · replace h := h.1 c
          exact fm_letGo_73 hr_decides hr_cancels hk hk4 hF h
        · replace h := h.2 c
          refine ⟨h.1, ?_⟩
          replace h := h.2
          intro z10 e
          replace h := h z10 e
          refine ⟨fun c => ?_, fun c => ?_⟩
          · replace h := h.1 c
            exact fm_letGo_78 hr_decides hr_cancels hk hk4 hF h
          · replace h := h.2 c
            exact fm_letGo_73 hr_decides hr_cancels hk hk4 hF h
      · replace h := h.2 c
        refine ⟨h.1, ?_⟩
        replace h := h.2
        intro z12 e
        replace h := h z12 e
        refine hr_cancels _ _ _ _ (fun S13 r13 hG h => ?_) h
        replace hF := Fr_t hF hG (by decide) (by decide) (by decide)
        exact fm_letGo_78 hr_decides hr_cancels hk hk4 hF h
    · replace h := h.2 c
      exact fm_letGo_78 hr_decides hr_cancels hk hk4 hF h
theorem fml_letGo_4 {r_decides : Int32 → Int32 → Int32 → mS → (mS → Prop) → Prop} (hr_decides : ∀ a0 : Int32, ∀ a1 : Int32, ∀ a2 : Int32, FmV [23, 28, 30] [54, 55, 56, 61, 62, 63, 67, 73, 76, 77, 83, 84, 87] [] (r_decides a0 a1 a2)) {r_cancels : Int32 → mS → (mS → Int32 → Prop) → Prop} (hr_cancels : ∀ a0 : Int32, FmI [23, 28, 30] [54, 55, 56, 61, 62, 63, 67, 73, 76, 77, 83, 84, 87] [] (r_cancels a0)) {K K' : mS → Prop} {S0 : mS} (hk : ∀ S1, Fr [23, 28, 30] [54, 55, 56, 61, 62, 63, 67, 73, 76, 77, 83, 84, 87] [] S0 S1 → K S1 → K' S1) : ∀ (n : Nat) (u : Int32 × Int32 × mS), Fr [23, 28, 30] [54, 55, 56, 61, 62, 63, 67, 73, 76, 77, 83, 84, 87] [] S0 u.2.2 → it (ls_letGo_4 r_decides r_cancels K) n u → it (ls_letGo_4 r_decides r_cancels K') n u := by
  intro n
  induction n with
  | zero => exact fun _ _ h => h
  | succ n ih => exact fun u hF h => fm_letGo_4 hr_decides hr_cancels hk ih hF h
theorem fm_letGo {r_decides : Int32 → Int32 → Int32 → mS → (mS → Prop) → Prop} (hr_decides : ∀ a0 : Int32, ∀ a1 : Int32, ∀ a2 : Int32, FmV [23, 28, 30] [54, 55, 56, 61, 62, 63, 67, 73, 76, 77, 83, 84, 87] [] (r_decides a0 a1 a2)) {r_cancels : Int32 → mS → (mS → Int32 → Prop) → Prop} (hr_cancels : ∀ a0 : Int32, FmI [23, 28, 30] [54, 55, 56, 61, 62, 63, 67, 73, 76, 77, 83, 84, 87] [] (r_cancels a0)) (a0 : Int32) (a1 : Int32) : FmV [23, 28, 30] [54, 55, 56, 61, 62, 63, 67, 73, 76, 77, 83, 84, 87] [] (wp_letGo r_decides r_cancels a0 a1) := by
  intro S0 K K' hk h
  have hF : Fr [23, 28, 30] [54, 55, 56, 61, 62, 63, 67, 73, 76, 77, 83, 84, 87] [] S0 S0 := Fr_rf
  unfold wp_letGo at h ⊢
  intro z1 e
  replace h := h z1 e
  obtain ⟨n9, h⟩ := h
  exact ⟨n9, fml_letGo_4 hr_decides hr_cancels hk n9 _ hF h⟩
theorem fm_weighs_202 {r_decides : Int32 → Int32 → Int32 → mS → (mS → Prop) → Prop} (hr_decides : ∀ a0 : Int32, ∀ a1 : Int32, ∀ a2 : Int32, FmV [23, 28, 30] [54, 55, 56, 61, 62, 63, 67, 73, 76, 77, 83, 84, 87] [] (r_decides a0 a1 a2)) {r_cancels : Int32 → mS → (mS → Int32 → Prop) → Prop} (hr_cancels : ∀ a0 : Int32, FmI [23, 28, 30] [54, 55, 56, 61, 62, 63, 67, 73, 76, 77, 83, 84, 87] [] (r_cancels a0)) {K K' : mS → Prop} {k9 k9' : Int32 × Int32 × Int32 × Int32 × mS → Prop} {S0 : mS} (hk : ∀ S1, Fr [23, 28, 30] [54, 55, 56, 61, 62, 63, 67, 73, 76, 77, 83, 84, 87] [] S0 S1 → K S1 → K' S1) (hk9 : ∀ u : Int32 × Int32 × Int32 × Int32 × mS, Fr [23, 28, 30] [54, 55, 56, 61, 62, 63, 67, 73, 76, 77, 83, 84, 87] [] S0 u.2.2.2.2 → k9 u → k9' u) {x1 : Int32} {x2 : Int32} {x3 : Int32} {y0 : Int32} {S : mS} (hF : Fr [23, 28, 30] [54, 55, 56, 61, 62, 63, 67, 73, 76, 77, 83, 84, 87] [] S0 S) (h : wp_weighs_202 r_decides r_cancels K k9 x1 x2 x3 y0 S) : wp_weighs_202 r_decides r_cancels K' k9' x1 x2 x3 y0 S := by
  unfold wp_weighs_202 at h ⊢
  exact hk9 _ hF h
theorem fm_weighs_166 {r_decides : Int32 → Int32 → Int32 → mS → (mS → Prop) → Prop} (hr_decides : ∀ a0 : Int32, ∀ a1 : Int32, ∀ a2 : Int32, FmV [23, 28, 30] [54, 55, 56, 61, 62, 63, 67, 73, 76, 77, 83, 84, 87] [] (r_decides a0 a1 a2)) {r_cancels : Int32 → mS → (mS → Int32 → Prop) → Prop} (hr_cancels : ∀ a0 : Int32, FmI [23, 28, 30] [54, 55, 56, 61, 62, 63, 67, 73, 76, 77, 83, 84, 87] [] (r_cancels a0)) {K K' : mS → Prop} {k9 k9' : Int32 × Int32 × Int32 × Int32 × mS → Prop} {S0 : mS} (hk : ∀ S1, Fr [23, 28, 30] [54, 55, 56, 61, 62, 63, 67, 73, 76, 77, 83, 84, 87] [] S0 S1 → K S1 → K' S1) (hk9 : ∀ u : Int32 × Int32 × Int32 × Int32 × mS, Fr [23, 28, 30] [54, 55, 56, 61, 62, 63, 67, 73, 76, 77, 83, 84, 87] [] S0 u.2.2.2.2 → k9 u → k9' u) {x1 : Int32} {x2 : Int32} {x4 : Int32} {y0 : Int32} {S : mS} (hF : Fr [23, 28, 30] [54, 55, 56, 61, 62, 63, 67, 73, 76, 77, 83, 84, 87] [] S0 S) (h : wp_weighs_166 r_decides r_cancels K k9 x1 x2 x4 y0 S) : wp_weighs_166 r_decides r_cancels K' k9' x1 x2 x4 y0 S := by
  unfold wp_weighs_166 at h ⊢
  refine ⟨h.1, ?_⟩
  replace h := h.2
  intro z21 e
  replace h := h z21 e
  intro z22 e
  replace h := h z22 e
  refine ⟨h.1, ?_⟩
  replace h := h.2
  intro z23 e
  replace h := h z23 e
  refine ⟨fun c => ?_, fun c => ?_⟩
  · replace h := h.1 c
    intro z25 e
    replace h := h z25 e
    exact fm_weighs_202 hr_decides hr_cancels hk hk9 hF h
  · replace h := h.2 c
    refine ⟨h.1, ?_⟩
    replace h := h.2
    intro z26 e
    replace h := h z26 e
    exact fm_weighs_202 hr_decides hr_cancels hk hk9 hF h
theorem fm_weighs_165 {r_decides : Int32 → Int32 → Int32 → mS → (mS → Prop) → Prop} (hr_decides : ∀ a0 : Int32, ∀ a1 : Int32, ∀ a2 : Int32, FmV [23, 28, 30] [54, 55, 56, 61, 62, 63, 67, 73, 76, 77, 83, 84, 87] [] (r_decides a0 a1 a2)) {r_cancels : Int32 → mS → (mS → Int32 → Prop) → Prop} (hr_cancels : ∀ a0 : Int32, FmI [23, 28, 30] [54, 55, 56, 61, 62, 63, 67, 73, 76, 77, 83, 84, 87] [] (r_cancels a0)) {K K' : mS → Prop} {k9 k9' : Int32 × Int32 × Int32 × Int32 × mS → Prop} {S0 : mS} (hk : ∀ S1, Fr [23, 28, 30] [54, 55, 56, 61, 62, 63, 67, 73, 76, 77, 83, 84, 87] [] S0 S1 → K S1 → K' S1) (hk9 : ∀ u : Int32 × Int32 × Int32 × Int32 × mS, Fr [23, 28, 30] [54, 55, 56, 61, 62, 63, 67, 73, 76, 77, 83, 84, 87] [] S0 u.2.2.2.2 → k9 u → k9' u) {x1 : Int32} {x2 : Int32} {x4 : Int32} {S : mS} (hF : Fr [23, 28, 30] [54, 55, 56, 61, 62, 63, 67, 73, 76, 77, 83, 84, 87] [] S0 S) (h : wp_weighs_165 r_decides r_cancels K k9 x1 x2 x4 S) : wp_weighs_165 r_decides r_cancels K' k9' x1 x2 x4 S := by
  unfold wp_weighs_165 at h ⊢
  exact fm_weighs_166 hr_decides hr_cancels hk hk9 hF h
theorem fm_weighs_151 {r_decides : Int32 → Int32 → Int32 → mS → (mS → Prop) → Prop} (hr_decides : ∀ a0 : Int32, ∀ a1 : Int32, ∀ a2 : Int32, FmV [23, 28, 30] [54, 55, 56, 61, 62, 63, 67, 73, 76, 77, 83, 84, 87] [] (r_decides a0 a1 a2)) {r_cancels : Int32 → mS → (mS → Int32 → Prop) → Prop} (hr_cancels : ∀ a0 : Int32, FmI [23, 28, 30] [54, 55, 56, 61, 62, 63, 67, 73, 76, 77, 83, 84, 87] [] (r_cancels a0)) {K K' : mS → Prop} {k9 k9' : Int32 × Int32 × Int32 × Int32 × mS → Prop} {S0 : mS} (hk : ∀ S1, Fr [23, 28, 30] [54, 55, 56, 61, 62, 63, 67, 73, 76, 77, 83, 84, 87] [] S0 S1 → K S1 → K' S1) (hk9 : ∀ u : Int32 × Int32 × Int32 × Int32 × mS, Fr [23, 28, 30] [54, 55, 56, 61, 62, 63, 67, 73, 76, 77, 83, 84, 87] [] S0 u.2.2.2.2 → k9 u → k9' u) {x1 : Int32} {x2 : Int32} {x3 : Int32} {x4 : Int32} {x5 : Int32} {S : mS} (hF : Fr [23, 28, 30] [54, 55, 56, 61, 62, 63, 67, 73, 76, 77, 83, 84, 87] [] S0 S) (h : wp_weighs_151 r_decides r_cancels K k9 x1 x2 x3 x4 x5 S) : wp_weighs_151 r_decides r_cancels K' k9' x1 x2 x3 x4 x5 S := by
  unfold wp_weighs_151 at h ⊢
  refine ⟨fun c => ?_, fun c => ?_⟩
  · replace h := h.1 c
    exact fm_weighs_165 hr_decides hr_cancels hk hk9 hF h
  · replace h := h.2 c
    refine ⟨fun c => ?_, fun c => ?_⟩
    · replace h := h.1 c
      exact fm_weighs_165 hr_decides hr_cancels hk hk9 hF h
    · replace h := h.2 c
      exact fm_weighs_166 hr_decides hr_cancels hk hk9 hF h
theorem fm_weighs_147 {r_decides : Int32 → Int32 → Int32 → mS → (mS → Prop) → Prop} (hr_decides : ∀ a0 : Int32, ∀ a1 : Int32, ∀ a2 : Int32, FmV [23, 28, 30] [54, 55, 56, 61, 62, 63, 67, 73, 76, 77, 83, 84, 87] [] (r_decides a0 a1 a2)) {r_cancels : Int32 → mS → (mS → Int32 → Prop) → Prop} (hr_cancels : ∀ a0 : Int32, FmI [23, 28, 30] [54, 55, 56, 61, 62, 63, 67, 73, 76, 77, 83, 84, 87] [] (r_cancels a0)) {K K' : mS → Prop} {S0 : mS} (hk : ∀ S1, Fr [23, 28, 30] [54, 55, 56, 61, 62, 63, 67, 73, 76, 77, 83, 84, 87] [] S0 S1 → K S1 → K' S1) {y1 : Int32} {y2 : Int32} {y3 : Int32} {S : mS} (hF : Fr [23, 28, 30] [54, 55, 56, 61, 62, 63, 67, 73, 76, 77, 83, 84, 87] [] S0 S) (h : wp_weighs_147 r_decides r_cancels K y1 y2 y3 S) : wp_weighs_147 r_decides r_cancels K' y1 y2 y3 S := by
  unfold wp_weighs_147 at h ⊢
  refine hr_decides _ _ _ _ _ _ (fun S35 hG h => ?_) h
  replace hF := Fr_t hF hG (by decide) (by decide) (by decide)
  exact hk _ hF h
theorem fm_weighs_130 {r_decides : Int32 → Int32 → Int32 → mS → (mS → Prop) → Prop} (hr_decides : ∀ a0 : Int32, ∀ a1 : Int32, ∀ a2 : Int32, FmV [23, 28, 30] [54, 55, 56, 61, 62, 63, 67, 73, 76, 77, 83, 84, 87] [] (r_decides a0 a1 a2)) {r_cancels : Int32 → mS → (mS → Int32 → Prop) → Prop} (hr_cancels : ∀ a0 : Int32, FmI [23, 28, 30] [54, 55, 56, 61, 62, 63, 67, 73, 76, 77, 83, 84, 87] [] (r_cancels a0)) {K K' : mS → Prop} {S0 : mS} (hk : ∀ S1, Fr [23, 28, 30] [54, 55, 56, 61, 62, 63, 67, 73, 76, 77, 83, 84, 87] [] S0 S1 → K S1 → K' S1) {x4 : Int32} {x7 : Int32} {y1 : Int32} {y2 : Int32} {S : mS} (hF : Fr [23, 28, 30] [54, 55, 56, 61, 62, 63, 67, 73, 76, 77, 83, 84, 87] [] S0 S) (h : wp_weighs_130 r_decides r_cancels K x4 x7 y1 y2 S) : wp_weighs_130 r_decides r_cancels K' x4 x7 y1 y2 S := by
  unfold wp_weighs_130 at h ⊢
  refine ⟨fun c => ?_, fun c => ?_⟩
  · replace h := h.1 c
    refine ⟨h.1, ?_⟩
    replace h := h.2
    intro z34 e
    replace h := h z34 e
    exact fm_weighs_147 hr_decides hr_cancels hk hF h
  · replace h := h.2 c
    exact fm_weighs_147 hr_decides hr_cancels hk hF h
theorem fm_weighs_102 {r_decides : Int32 → Int32 → Int32 → mS → (mS → Prop) → Prop} (hr_decides : ∀ a0 : Int32, ∀ a1 : Int32, ∀ a2 : Int32, FmV [23, 28, 30] [54, 55, 56, 61, 62, 63, 67, 73, 76, 77, 83, 84, 87] [] (r_decides a0 a1 a2)) {r_cancels : Int32 → mS → (mS → Int32 → Prop) → Prop} (hr_cancels : ∀ a0 : Int32, FmI [23, 28, 30] [54, 55, 56, 61, 62, 63, 67, 73, 76, 77, 83, 84, 87] [] (r_cancels a0)) {K K' : mS → Prop} {S0 : mS} (hk : ∀ S1, Fr [23, 28, 30] [54, 55, 56, 61, 62, 63, 67, 73, 76, 77, 83, 84, 87] [] S0 S1 → K S1 → K' S1) {x1 : Int32} {x4 : Int32} {x5 : Int32} {y0 : Int32} {S : mS} (hF : Fr [23, 28, 30] [54, 55, 56, 61, 62, 63, 67, 73, 76, 77, 83, 84, 87] [] S0 S) (h : wp_weighs_102 r_decides r_cancels K x1 x4 x5 y0 S) : wp_weighs_102 r_decides r_cancels K' x1 x4 x5 y0 S := by
  unfold wp_weighs_102 at h ⊢
  intro z29 e
  replace h := h z29 e
  refine ⟨h.1, ?_⟩
  replace h := h.2
  intro z30 e
  replace h := h z30 e
  refine fm_letGo hr_decides hr_cancels _ _ _ _ _ (fun S31 hG h => ?_) h
  replace hF := Fr_t hF hG (by decide) (by decide) (by decide)
  refine ⟨fun c => ?_, fun c => ?_⟩
  · replace h := h.1 c
    exact fm_weighs_130 hr_decides hr_cancels hk hF h
  · replace h := h.2 c
    exact fm_weighs_130 hr_decides hr_cancels hk hF h
theorem fm_weighs_101 {r_decides : Int32 → Int32 → Int32 → mS → (mS → Prop) → Prop} (hr_decides : ∀ a0 : Int32, ∀ a1 : Int32, ∀ a2 : Int32, FmV [23, 28, 30] [54, 55, 56, 61, 62, 63, 67, 73, 76, 77, 83, 84, 87] [] (r_decides a0 a1 a2)) {r_cancels : Int32 → mS → (mS → Int32 → Prop) → Prop} (hr_cancels : ∀ a0 : Int32, FmI [23, 28, 30] [54, 55, 56, 61, 62, 63, 67, 73, 76, 77, 83, 84, 87] [] (r_cancels a0)) {K K' : mS → Prop} {S0 : mS} (hk : ∀ S1, Fr [23, 28, 30] [54, 55, 56, 61, 62, 63, 67, 73, 76, 77, 83, 84, 87] [] S0 S1 → K S1 → K' S1) {x1 : Int32} {x4 : Int32} {x5 : Int32} {S : mS} (hF : Fr [23, 28, 30] [54, 55, 56, 61, 62, 63, 67, 73, 76, 77, 83, 84, 87] [] S0 S) (h : wp_weighs_101 r_decides r_cancels K x1 x4 x5 S) : wp_weighs_101 r_decides r_cancels K' x1 x4 x5 S := by
  unfold wp_weighs_101 at h ⊢
  exact fm_weighs_102 hr_decides hr_cancels hk hF h
theorem fm_weighs_86 {r_decides : Int32 → Int32 → Int32 → mS → (mS → Prop) → Prop} (hr_decides : ∀ a0 : Int32, ∀ a1 : Int32, ∀ a2 : Int32, FmV [23, 28, 30] [54, 55, 56, 61, 62, 63, 67, 73, 76, 77, 83, 84, 87] [] (r_decides a0 a1 a2)) {r_cancels : Int32 → mS → (mS → Int32 → Prop) → Prop} (hr_cancels : ∀ a0 : Int32, FmI [23, 28, 30] [54, 55, 56, 61, 62, 63, 67, 73, 76, 77, 83, 84, 87] [] (r_cancels a0)) {K K' : mS → Prop} {S0 : mS} (hk : ∀ S1, Fr [23, 28, 30] [54, 55, 56, 61, 62, 63, 67, 73, 76, 77, 83, 84, 87] [] S0 S1 → K S1 → K' S1) {x1 : Int32} {x4 : Int32} {x5 : Int32} {x6 : Int32} {S : mS} (hF : Fr [23, 28, 30] [54, 55, 56, 61, 62, 63, 67, 73, 76, 77, 83, 84, 87] [] S0 S) (h : wp_weighs_86 r_decides r_cancels K x1 x4 x5 x6 S) : wp_weighs_86 r_decides r_cancels K' x1 x4 x5 x6 S := by
  unfold wp_weighs_86 at h ⊢
  refine ⟨fun c => ?_, fun c => ?_⟩
  · replace h := h.1 c
    exact fm_weighs_101 hr_decides hr_cancels hk hF h
  · replace h := h.2 c
    refine ⟨fun c => ?_, fun c => ?_⟩
    · replace h := h.1 c
      exact fm_weighs_101 hr_decides hr_cancels hk hF h
    · replace h := h.2 c
      exact fm_weighs_102 hr_decides hr_cancels hk hF h
theorem fm_weighs_63 {r_decides : Int32 → Int32 → Int32 → mS → (mS → Prop) → Prop} (hr_decides : ∀ a0 : Int32, ∀ a1 : Int32, ∀ a2 : Int32, FmV [23, 28, 30] [54, 55, 56, 61, 62, 63, 67, 73, 76, 77, 83, 84, 87] [] (r_decides a0 a1 a2)) {r_cancels : Int32 → mS → (mS → Int32 → Prop) → Prop} (hr_cancels : ∀ a0 : Int32, FmI [23, 28, 30] [54, 55, 56, 61, 62, 63, 67, 73, 76, 77, 83, 84, 87] [] (r_cancels a0)) {K K' : mS → Prop} {k9 k9' : Int32 × Int32 × Int32 × Int32 × mS → Prop} {S0 : mS} (hk : ∀ S1, Fr [23, 28, 30] [54, 55, 56, 61, 62, 63, 67, 73, 76, 77, 83, 84, 87] [] S0 S1 → K S1 → K' S1) (hk9 : ∀ u : Int32 × Int32 × Int32 × Int32 × mS, Fr [23, 28, 30] [54, 55, 56, 61, 62, 63, 67, 73, 76, 77, 83, 84, 87] [] S0 u.2.2.2.2 → k9 u → k9' u) {x1 : Int32} {x2 : Int32} {x3 : Int32} {x4 : Int32} {x5 : Int32} {y0 : Int32} {S : mS} (hF : Fr [23, 28, 30] [54, 55, 56, 61, 62, 63, 67, 73, 76, 77, 83, 84, 87] [] S0 S) (h : wp_weighs_63 r_decides r_cancels K k9 x1 x2 x3 x4 x5 y0 S) : wp_weighs_63 r_decides r_cancels K' k9' x1 x2 x3 x4 x5 y0 S := by
  unfold wp_weighs_63 at h ⊢
  refine ⟨fun c => ?_, fun c => ?_⟩
  · replace h := h.1 c
    exact fm_weighs_86 hr_decides hr_cancels hk hF h
  · replace h := h.2 c
    refine ⟨fun c => ?_, fun c => ?_⟩
    · replace h := h.1 c
      exact fm_weighs_151 hr_decides hr_cancels hk hk9 hF h
    · replace h := h.2 c
      refine ⟨h.1, ?_⟩
      replace h := h.2
      intro z17 e
      replace h := h z17 e
      refine ⟨fun c => ?_, fun c => ?_⟩
      · replace h := h.1 c
        exact fm_weighs_151 hr_decides hr_cancels hk hk9 hF h
      · replace h := h.2 c
        exact fm_weighs_86 hr_decides hr_cancels hk hF h
theorem fm_weighs_62 {r_decides : Int32 → Int32 → Int32 → mS → (mS → Prop) → Prop} (hr_decides : ∀ a0 : Int32, ∀ a1 : Int32, ∀ a2 : Int32, FmV [23, 28, 30] [54, 55, 56, 61, 62, 63, 67, 73, 76, 77, 83, 84, 87] [] (r_decides a0 a1 a2)) {r_cancels : Int32 → mS → (mS → Int32 → Prop) → Prop} (hr_cancels : ∀ a0 : Int32, FmI [23, 28, 30] [54, 55, 56, 61, 62, 63, 67, 73, 76, 77, 83, 84, 87] [] (r_cancels a0)) {K K' : mS → Prop} {k9 k9' : Int32 × Int32 × Int32 × Int32 × mS → Prop} {S0 : mS} (hk : ∀ S1, Fr [23, 28, 30] [54, 55, 56, 61, 62, 63, 67, 73, 76, 77, 83, 84, 87] [] S0 S1 → K S1 → K' S1) (hk9 : ∀ u : Int32 × Int32 × Int32 × Int32 × mS, Fr [23, 28, 30] [54, 55, 56, 61, 62, 63, 67, 73, 76, 77, 83, 84, 87] [] S0 u.2.2.2.2 → k9 u → k9' u) {x1 : Int32} {x2 : Int32} {x3 : Int32} {x4 : Int32} {x5 : Int32} {S : mS} (hF : Fr [23, 28, 30] [54, 55, 56, 61, 62, 63, 67, 73, 76, 77, 83, 84, 87] [] S0 S) (h : wp_weighs_62 r_decides r_cancels K k9 x1 x2 x3 x4 x5 S) : wp_weighs_62 r_decides r_cancels K' k9' x1 x2 x3 x4 x5 S := by
  unfold wp_weighs_62 at h ⊢
  exact fm_weighs_63 hr_decides hr_cancels hk hk9 hF h
theorem fm_weighs_9 {r_decides : Int32 → Int32 → Int32 → mS → (mS → Prop) → Prop} (hr_decides : ∀ a0 : Int32, ∀ a1 : Int32, ∀ a2 : Int32, FmV [23, 28, 30] [54, 55, 56, 61, 62, 63, 67, 73, 76, 77, 83, 84, 87] [] (r_decides a0 a1 a2)) {r_cancels : Int32 → mS → (mS → Int32 → Prop) → Prop} (hr_cancels : ∀ a0 : Int32, FmI [23, 28, 30] [54, 55, 56, 61, 62, 63, 67, 73, 76, 77, 83, 84, 87] [] (r_cancels a0)) {K K' : mS → Prop} {k9 k9' : Int32 × Int32 × Int32 × Int32 × mS → Prop} {S0 : mS} (hk : ∀ S1, Fr [23, 28, 30] [54, 55, 56, 61, 62, 63, 67, 73, 76, 77, 83, 84, 87] [] S0 S1 → K S1 → K' S1) (hk9 : ∀ u : Int32 × Int32 × Int32 × Int32 × mS, Fr [23, 28, 30] [54, 55, 56, 61, 62, 63, 67, 73, 76, 77, 83, 84, 87] [] S0 u.2.2.2.2 → k9 u → k9' u) {x1 : Int32} {x2 : Int32} {x3 : Int32} {x4 : Int32} {S : mS} (hF : Fr [23, 28, 30] [54, 55, 56, 61, 62, 63, 67, 73, 76, 77, 83, 84, 87] [] S0 S) (h : wp_weighs_9 r_decides r_cancels K k9 x1 x2 x3 x4 S) : wp_weighs_9 r_decides r_cancels K' k9' x1 x2 x3 x4 S := by
  unfold wp_weighs_9 at h ⊢
  refine ⟨h.1, ?_⟩
  replace h := h.2
  intro z2 e
  replace h := h z2 e
  refine ⟨fun c => ?_, fun c => ?_⟩
  · replace h := h.1 c
    refine ⟨fun c => ?_, fun c => ?_⟩
    · replace h := h.1 c
      exact hk _ hF h
    · replace h := h.2 c
      refine ⟨h.1, ?_⟩
      replace h := h.2
      intro z5 e
      replace h := h z5 e
      refine ⟨fun c => ?_, fun c => ?_⟩
      · replace h := h.1 c
        exact hk _ hF h
      · replace h := h.2 c
        refine hr_decides _ _ _ _ _ _ (fun S7 hG h => ?_) h
        replace hF := Fr_t hF hG (by decide) (by decide) (by decide)
        exact hk _ hF h
  · replace h := h.2 c
    refine ⟨h.1, ?_⟩
    replace h := h.2
    intro z8 e
    replace h := h z8 e
    refine ⟨h.1, ?_⟩
    replace h := h.2
    intro z9 e
    replace h := h z9 e
    refine ⟨fun c => ?_, fun c => ?_⟩
    · replace h := h.1 c
      exact fm_weighs_62 hr_decides hr_cancels hk hk9 hF h
    · replace h := h.2 c
      intro z11 e
      replace h := h z11 e
      refine ⟨fun c => ?_, fun c => ?_⟩
      · replace h := h.1 c
        exact fm_weighs_62 hr_decides hr_cancels hk hk9 hF h
      · replace h := h.2 c
        refine ⟨h.1, ?_⟩
        replace h := h.2
        intro z13 e
        replace h := h z13 e
        refine ⟨fun c => ?_, fun c => ?_⟩
        · replace h := h.1 c
          exact fm_weighs_62 hr_decides hr_cancels hk hk9 hF h
        · replace h := h.2 c
          exact fm_weighs_63 hr_decides hr_cancels hk hk9 hF h
theorem fml_weighs_9 {r_decides : Int32 → Int32 → Int32 → mS → (mS → Prop) → Prop} (hr_decides : ∀ a0 : Int32, ∀ a1 : Int32, ∀ a2 : Int32, FmV [23, 28, 30] [54, 55, 56, 61, 62, 63, 67, 73, 76, 77, 83, 84, 87] [] (r_decides a0 a1 a2)) {r_cancels : Int32 → mS → (mS → Int32 → Prop) → Prop} (hr_cancels : ∀ a0 : Int32, FmI [23, 28, 30] [54, 55, 56, 61, 62, 63, 67, 73, 76, 77, 83, 84, 87] [] (r_cancels a0)) {K K' : mS → Prop} {S0 : mS} (hk : ∀ S1, Fr [23, 28, 30] [54, 55, 56, 61, 62, 63, 67, 73, 76, 77, 83, 84, 87] [] S0 S1 → K S1 → K' S1) : ∀ (n : Nat) (u : Int32 × Int32 × Int32 × Int32 × mS), Fr [23, 28, 30] [54, 55, 56, 61, 62, 63, 67, 73, 76, 77, 83, 84, 87] [] S0 u.2.2.2.2 → it (ls_weighs_9 r_decides r_cancels K) n u → it (ls_weighs_9 r_decides r_cancels K') n u := by
  intro n
  induction n with
  | zero => exact fun _ _ h => h
  | succ n ih => exact fun u hF h => fm_weighs_9 hr_decides hr_cancels hk ih hF h
theorem fm_weighs {r_decides : Int32 → Int32 → Int32 → mS → (mS → Prop) → Prop} (hr_decides : ∀ a0 : Int32, ∀ a1 : Int32, ∀ a2 : Int32, FmV [23, 28, 30] [54, 55, 56, 61, 62, 63, 67, 73, 76, 77, 83, 84, 87] [] (r_decides a0 a1 a2)) {r_cancels : Int32 → mS → (mS → Int32 → Prop) → Prop} (hr_cancels : ∀ a0 : Int32, FmI [23, 28, 30] [54, 55, 56, 61, 62, 63, 67, 73, 76, 77, 83, 84, 87] [] (r_cancels a0)) (a0 : Int32) : FmV [23, 28, 30] [54, 55, 56, 61, 62, 63, 67, 73, 76, 77, 83, 84, 87] [] (wp_weighs r_decides r_cancels a0) := by
  intro S0 K K' hk h
  have hF : Fr [23, 28, 30] [54, 55, 56, 61, 62, 63, 67, 73, 76, 77, 83, 84, 87] [] S0 S0 := Fr_rf
  unfold wp_weighs at h ⊢
  intro z1 e
  replace h := h z1 e
  obtain ⟨n9, h⟩ := h
  exact ⟨n9, fml_weighs_9 hr_decides hr_cancels hk n9 _ hF h⟩
theorem fm_ends_96 {r_decides : Int32 → Int32 → Int32 → mS → (mS → Prop) → Prop} (hr_decides : ∀ a0 : Int32, ∀ a1 : Int32, ∀ a2 : Int32, FmV [23, 28, 30] [54, 55, 56, 61, 62, 63, 67, 73, 76, 77, 83, 84, 87] [] (r_decides a0 a1 a2)) {r_cancels : Int32 → mS → (mS → Int32 → Prop) → Prop} (hr_cancels : ∀ a0 : Int32, FmI [23, 28, 30] [54, 55, 56, 61, 62, 63, 67, 73, 76, 77, 83, 84, 87] [] (r_cancels a0)) {K K' : mS → Prop} {S0 : mS} (hk : ∀ S1, Fr [23, 28, 30] [54, 55, 56, 61, 62, 63, 67, 73, 76, 77, 83, 84, 87] [] S0 S1 → K S1 → K' S1) {x4 : Int32} {S : mS} (hF : Fr [23, 28, 30] [54, 55, 56, 61, 62, 63, 67, 73, 76, 77, 83, 84, 87] [] S0 S) (h : wp_ends_96 r_decides r_cancels K x4 S) : wp_ends_96 r_decides r_cancels K' x4 S := by
  unfold wp_ends_96 at h ⊢
  refine ⟨h.1, ?_⟩
  replace h := h.2
  intro z16 e
  replace h := h z16 e
  refine ⟨fun c => ?_, fun c => ?_⟩
  · replace h := h.1 c
    exact hk _ hF h
  · replace h := h.2 c
    refine ⟨h.1, ?_⟩
    replace h := h.2
    intro z18 e
    replace h := h z18 e
    refine ⟨fun c => ?_, fun c => ?_⟩
    · replace h := h.1 c
      exact hk _ hF h
    · replace h := h.2 c
      refine fm_toRow _ _ _ _ (fun S20 hG h => ?_) h
      replace hF := Fr_t hF hG (by decide) (by decide) (by decide)
      exact hk _ hF h
theorem fm_ends_93 {r_decides : Int32 → Int32 → Int32 → mS → (mS → Prop) → Prop} (hr_decides : ∀ a0 : Int32, ∀ a1 : Int32, ∀ a2 : Int32, FmV [23, 28, 30] [54, 55, 56, 61, 62, 63, 67, 73, 76, 77, 83, 84, 87] [] (r_decides a0 a1 a2)) {r_cancels : Int32 → mS → (mS → Int32 → Prop) → Prop} (hr_cancels : ∀ a0 : Int32, FmI [23, 28, 30] [54, 55, 56, 61, 62, 63, 67, 73, 76, 77, 83, 84, 87] [] (r_cancels a0)) {K K' : mS → Prop} {S0 : mS} (hk : ∀ S1, Fr [23, 28, 30] [54, 55, 56, 61, 62, 63, 67, 73, 76, 77, 83, 84, 87] [] S0 S1 → K S1 → K' S1) {x4 : Int32} {y1 : Int32} {y2 : Int32} {y3 : Int32} {S : mS} (hF : Fr [23, 28, 30] [54, 55, 56, 61, 62, 63, 67, 73, 76, 77, 83, 84, 87] [] S0 S) (h : wp_ends_93 r_decides r_cancels K x4 y1 y2 y3 S) : wp_ends_93 r_decides r_cancels K' x4 y1 y2 y3 S := by
  unfold wp_ends_93 at h ⊢
  refine hr_decides _ _ _ _ _ _ (fun S15 hG h => ?_) h
  replace hF := Fr_t hF hG (by decide) (by decide) (by decide)
  exact fm_ends_96 hr_decides hr_cancels hk hF h
theorem fm_ends_84 {r_decides : Int32 → Int32 → Int32 → mS → (mS → Prop) → Prop} (hr_decides : ∀ a0 : Int32, ∀ a1 : Int32, ∀ a2 : Int32, FmV [23, 28, 30] [54, 55, 56, 61, 62, 63, 67, 73, 76, 77, 83, 84, 87] [] (r_decides a0 a1 a2)) {r_cancels : Int32 → mS → (mS → Int32 → Prop) → Prop} (hr_cancels : ∀ a0 : Int32, FmI [23, 28, 30] [54, 55, 56, 61, 62, 63, 67, 73, 76, 77, 83, 84, 87] [] (r_cancels a0)) {K K' : mS → Prop} {S0 : mS} (hk : ∀ S1, Fr [23, 28, 30] [54, 55, 56, 61, 62, 63, 67, 73, 76, 77, 83, 84, 87] [] S0 S1 → K S1 → K' S1) {x2 : Int32} {x3 : Int32} {x4 : Int32} {y1 : Int32} {y2 : Int32} {S : mS} (hF : Fr [23, 28, 30] [54, 55, 56, 61, 62, 63, 67, 73, 76, 77, 83, 84, 87] [] S0 S) (h : wp_ends_84 r_decides r_cancels K x2 x3 x4 y1 y2 S) : wp_ends_84 r_decides r_cancels K' x2 x3 x4 y1 y2 S := by
  unfold wp_ends_84 at h ⊢
  refine ⟨fun c => ?_, fun c => ?_⟩
  · replace h := h.1 c
    exact fm_ends_93 hr_decides hr_cancels hk hF h
  · replace h := h.2 c
    exact fm_ends_93 hr_decides hr_cancels hk hF h
theorem fm_ends_28 {r_decides : Int32 → Int32 → Int32 → mS → (mS → Prop) → Prop} (hr_decides : ∀ a0 : Int32, ∀ a1 : Int32, ∀ a2 : Int32, FmV [23, 28, 30] [54, 55, 56, 61, 62, 63, 67, 73, 76, 77, 83, 84, 87] [] (r_decides a0 a1 a2)) {r_cancels : Int32 → mS → (mS → Int32 → Prop) → Prop} (hr_cancels : ∀ a0 : Int32, FmI [23, 28, 30] [54, 55, 56, 61, 62, 63, 67, 73, 76, 77, 83, 84, 87] [] (r_cancels a0)) {K K' : mS → Prop} {S0 : mS} (hk : ∀ S1, Fr [23, 28, 30] [54, 55, 56, 61, 62, 63, 67, 73, 76, 77, 83, 84, 87] [] S0 S1 → K S1 → K' S1) {x1 : Int32} {x2 : Int32} {x3 : Int32} {y1 : Int32} {y2 : Int32} {S : mS} (hF : Fr [23, 28, 30] [54, 55, 56, 61, 62, 63, 67, 73, 76, 77, 83, 84, 87] [] S0 S) (h : wp_ends_28 r_decides r_cancels K x1 x2 x3 y1 y2 S) : wp_ends_28 r_decides r_cancels K' x1 x2 x3 y1 y2 S := by
  unfold wp_ends_28 at h ⊢
  refine ⟨h.1, ?_⟩
  replace h := h.2
  intro S4 e
  replace h := h S4 e
  replace hF := Fr_f hF e (by decide)
  refine ⟨h.1, ?_⟩
  replace h := h.2
  intro z5 e
  replace h := h z5 e
  refine ⟨fun c => ?_, fun c => ?_⟩
  · replace h := h.1 c
    refine ⟨h.1, ?_⟩
    replace h := h.2
    intro z7 e
    replace h := h z7 e
    intro z8 e
    replace h := h z8 e
    refine ⟨h.1, ?_⟩
    replace h := h.2
    intro S9 e
    replace h := h S9 e
    replace hF := Fr_f hF e (by decide)
    refine ⟨h.1, ?_⟩
    replace h := h.2
    intro z10 e
    replace h := h z10 e
    refine ⟨h.1, ?_⟩
    replace h := h.2
    intro z11 e
    replace h := h z11 e
    refine ⟨fun c => ?_, fun c => ?_⟩
    · replace h := h.1 c
      exact fm_ends_96 hr_decides hr_cancels hk hF h
    · replace h := h.2 c
      refine ⟨fun c => ?_, fun c => ?_⟩
      · replace h := h.1 c
        exact fm_ends_84 hr_decides hr_cancels hk hF h
      · replace h := h.2 c
        exact fm_ends_84 hr_decides hr_cancels hk hF h
  · replace h := h.2 c
    exact hk _ hF h
theorem fm_ends {r_decides : Int32 → Int32 → Int32 → mS → (mS → Prop) → Prop} (hr_decides : ∀ a0 : Int32, ∀ a1 : Int32, ∀ a2 : Int32, FmV [23, 28, 30] [54, 55, 56, 61, 62, 63, 67, 73, 76, 77, 83, 84, 87] [] (r_decides a0 a1 a2)) {r_cancels : Int32 → mS → (mS → Int32 → Prop) → Prop} (hr_cancels : ∀ a0 : Int32, FmI [23, 28, 30] [54, 55, 56, 61, 62, 63, 67, 73, 76, 77, 83, 84, 87] [] (r_cancels a0)) (a0 : Int32) (a1 : Int32) (a2 : Int32) : FmV [23, 28, 30] [54, 55, 56, 61, 62, 63, 67, 73, 76, 77, 83, 84, 87] [] (wp_ends r_decides r_cancels a0 a1 a2) := by
  intro S0 K K' hk h
  have hF : Fr [23, 28, 30] [54, 55, 56, 61, 62, 63, 67, 73, 76, 77, 83, 84, 87] [] S0 S0 := Fr_rf
  unfold wp_ends at h ⊢
  refine ⟨h.1, ?_⟩
  replace h := h.2
  intro S1 e
  replace h := h S1 e
  replace hF := Fr_f hF e (by decide)
  refine ⟨h.1, ?_⟩
  replace h := h.2
  intro S2 e
  replace h := h S2 e
  replace hF := Fr_f hF e (by decide)
  refine ⟨fun c => ?_, fun c => ?_⟩
  · replace h := h.1 c
    exact fm_ends_28 hr_decides hr_cancels hk hF h
  · replace h := h.2 c
    exact fm_ends_28 hr_decides hr_cancels hk hF h
theorem fm_decides {r_decides : Int32 → Int32 → Int32 → mS → (mS → Prop) → Prop} (hr_decides : ∀ a0 : Int32, ∀ a1 : Int32, ∀ a2 : Int32, FmV [23, 28, 30] [54, 55, 56, 61, 62, 63, 67, 73, 76, 77, 83, 84, 87] [] (r_decides a0 a1 a2)) {r_cancels : Int32 → mS → (mS → Int32 → Prop) → Prop} (hr_cancels : ∀ a0 : Int32, FmI [23, 28, 30] [54, 55, 56, 61, 62, 63, 67, 73, 76, 77, 83, 84, 87] [] (r_cancels a0)) (a0 : Int32) (a1 : Int32) (a2 : Int32) : FmV [23, 28, 30] [54, 55, 56, 61, 62, 63, 67, 73, 76, 77, 83, 84, 87] [] (wp_decides r_decides r_cancels a0 a1 a2) := by
  intro S0 K K' hk h
  have hF : Fr [23, 28, 30] [54, 55, 56, 61, 62, 63, 67, 73, 76, 77, 83, 84, 87] [] S0 S0 := Fr_rf
  unfold wp_decides at h ⊢
  refine ⟨h.1, ?_⟩
  replace h := h.2
  intro S1 e
  replace h := h S1 e
  replace hF := Fr_f hF e (by decide)
  refine ⟨h.1, ?_⟩
  replace h := h.2
  intro S2 e
  replace h := h S2 e
  replace hF := Fr_f hF e (by decide)
  refine ⟨h.1, ?_⟩
  replace h := h.2
  intro z3 e
  replace h := h z3 e
  refine ⟨fun c => ?_, fun c => ?_⟩
  · replace h := h.1 c
    refine ⟨h.1, ?_⟩
    replace h := h.2
    intro z5 e
    replace h := h z5 e
    refine ⟨fun c => ?_, fun c => ?_⟩
    · replace h := h.1 c
      exact hk _ hF h
    · replace h := h.2 c
      refine ⟨h.1, ?_⟩
      replace h := h.2
      intro z7 e
      replace h := h z7 e
      refine ⟨fun c => ?_, fun c => ?_⟩
      · replace h := h.1 c
        exact hk _ hF h
      · replace h := h.2 c
        refine fm_weighs hr_decides hr_cancels _ _ _ _ (fun S9 hG h => ?_) h
        replace hF := Fr_t hF hG (by decide) (by decide) (by decide)
        exact hk _ hF h
  · replace h := h.2 c
    refine ⟨h.1, ?_⟩
    replace h := h.2
    intro z10 e
    replace h := h z10 e
    refine fm_waitEnds _ _ _ _ _ _ (fun S11 hG h => ?_) h
    replace hF := Fr_t hF hG (by decide) (by decide) (by decide)
    exact hk _ hF h
theorem fm_cancels_189 {r_decides : Int32 → Int32 → Int32 → mS → (mS → Prop) → Prop} (hr_decides : ∀ a0 : Int32, ∀ a1 : Int32, ∀ a2 : Int32, FmV [23, 28, 30] [54, 55, 56, 61, 62, 63, 67, 73, 76, 77, 83, 84, 87] [] (r_decides a0 a1 a2)) {r_cancels : Int32 → mS → (mS → Int32 → Prop) → Prop} (hr_cancels : ∀ a0 : Int32, FmI [23, 28, 30] [54, 55, 56, 61, 62, 63, 67, 73, 76, 77, 83, 84, 87] [] (r_cancels a0)) {K K' : mS → Int32 → Prop} {S0 : mS} (hk : ∀ S1 r1, Fr [23, 28, 30] [54, 55, 56, 61, 62, 63, 67, 73, 76, 77, 83, 84, 87] [] S0 S1 → K S1 r1 → K' S1 r1) {x1 : Int32} {S : mS} (hF : Fr [23, 28, 30] [54, 55, 56, 61, 62, 63, 67, 73, 76, 77, 83, 84, 87] [] S0 S) (h : wp_cancels_189 r_decides r_cancels K x1 S) : wp_cancels_189 r_decides r_cancels K' x1 S := by
  unfold wp_cancels_189 at h ⊢
  refine ⟨h.1, ?_⟩
  replace h := h.2
  intro S33 e
  replace h := h S33 e
  replace hF := Fr_f hF e (by decide)
  exact hk _ _ hF h
theorem fm_cancels_125 {r_decides : Int32 → Int32 → Int32 → mS → (mS → Prop) → Prop} (hr_decides : ∀ a0 : Int32, ∀ a1 : Int32, ∀ a2 : Int32, FmV [23, 28, 30] [54, 55, 56, 61, 62, 63, 67, 73, 76, 77, 83, 84, 87] [] (r_decides a0 a1 a2)) {r_cancels : Int32 → mS → (mS → Int32 → Prop) → Prop} (hr_cancels : ∀ a0 : Int32, FmI [23, 28, 30] [54, 55, 56, 61, 62, 63, 67, 73, 76, 77, 83, 84, 87] [] (r_cancels a0)) {K K' : mS → Int32 → Prop} {S0 : mS} (hk : ∀ S1 r1, Fr [23, 28, 30] [54, 55, 56, 61, 62, 63, 67, 73, 76, 77, 83, 84, 87] [] S0 S1 → K S1 r1 → K' S1 r1) {x1 : Int32} {S : mS} (hF : Fr [23, 28, 30] [54, 55, 56, 61, 62, 63, 67, 73, 76, 77, 83, 84, 87] [] S0 S) (h : wp_cancels_125 r_decides r_cancels K x1 S) : wp_cancels_125 r_decides r_cancels K' x1 S := by
  unfold wp_cancels_125 at h ⊢
  refine ⟨h.1, ?_⟩
  replace h := h.2
  intro z21 e
  replace h := h z21 e
  refine ⟨fun c => ?_, fun c => ?_⟩
  · replace h := h.1 c
    exact fm_cancels_189 hr_decides hr_cancels hk hF h
  · replace h := h.2 c
    refine ⟨h.1, ?_⟩
    replace h := h.2
    intro S23 e
    replace h := h S23 e
    replace hF := Fr_f hF e (by decide)
    refine ⟨h.1, ?_⟩
    replace h := h.2
    intro S24 e
    replace h := h S24 e
    replace hF := Fr_f hF e (by decide)
    refine ⟨h.1, ?_⟩
    replace h := h.2
    intro z25 e
    replace h := h z25 e
    refine ⟨h.1, ?_⟩
    replace h := h.2
    intro z26 e
    replace h := h z26 e
    refine fm_letGo hr_decides hr_cancels _ _ _ _ _ (fun S27 hG h => ?_) h
    replace hF := Fr_t hF hG (by decide) (by decide) (by decide)
    refine ⟨h.1, ?_⟩
    replace h := h.2
    intro z28 e
    replace h := h z28 e
    refine ⟨fun c => ?_, fun c => ?_⟩
    · replace h := h.1 c
      exact fm_cancels_189 hr_decides hr_cancels hk hF h
    · replace h := h.2 c
      refine ⟨h.1, ?_⟩
      replace h := h.2
      intro z30 e
      replace h := h z30 e
      refine ⟨fun c => ?_, fun c => ?_⟩
      · replace h := h.1 c
        exact fm_cancels_189 hr_decides hr_cancels hk hF h
      · replace h := h.2 c
        refine fm_toRow _ _ _ _ (fun S32 hG h => ?_) h
        replace hF := Fr_t hF hG (by decide) (by decide) (by decide)
        exact fm_cancels_189 hr_decides hr_cancels hk hF h
theorem fm_cancels_115 {r_decides : Int32 → Int32 → Int32 → mS → (mS → Prop) → Prop} (hr_decides : ∀ a0 : Int32, ∀ a1 : Int32, ∀ a2 : Int32, FmV [23, 28, 30] [54, 55, 56, 61, 62, 63, 67, 73, 76, 77, 83, 84, 87] [] (r_decides a0 a1 a2)) {r_cancels : Int32 → mS → (mS → Int32 → Prop) → Prop} (hr_cancels : ∀ a0 : Int32, FmI [23, 28, 30] [54, 55, 56, 61, 62, 63, 67, 73, 76, 77, 83, 84, 87] [] (r_cancels a0)) {K K' : mS → Int32 → Prop} {S0 : mS} (hk : ∀ S1 r1, Fr [23, 28, 30] [54, 55, 56, 61, 62, 63, 67, 73, 76, 77, 83, 84, 87] [] S0 S1 → K S1 r1 → K' S1 r1) {x1 : Int32} {S : mS} (hF : Fr [23, 28, 30] [54, 55, 56, 61, 62, 63, 67, 73, 76, 77, 83, 84, 87] [] S0 S) (h : wp_cancels_115 r_decides r_cancels K x1 S) : wp_cancels_115 r_decides r_cancels K' x1 S := by
  unfold wp_cancels_115 at h ⊢
  intro z19 e
  replace h := h z19 e
  intro S20 e
  replace h := h S20 e
  replace hF := Fr_z hF e (by decide)
  exact fm_cancels_125 hr_decides hr_cancels hk hF h
theorem fm_cancels_39 {r_decides : Int32 → Int32 → Int32 → mS → (mS → Prop) → Prop} (hr_decides : ∀ a0 : Int32, ∀ a1 : Int32, ∀ a2 : Int32, FmV [23, 28, 30] [54, 55, 56, 61, 62, 63, 67, 73, 76, 77, 83, 84, 87] [] (r_decides a0 a1 a2)) {r_cancels : Int32 → mS → (mS → Int32 → Prop) → Prop} (hr_cancels : ∀ a0 : Int32, FmI [23, 28, 30] [54, 55, 56, 61, 62, 63, 67, 73, 76, 77, 83, 84, 87] [] (r_cancels a0)) {K K' : mS → Int32 → Prop} {k39 k39' : Int32 × Int32 × mS → Prop} {S0 : mS} (hk : ∀ S1 r1, Fr [23, 28, 30] [54, 55, 56, 61, 62, 63, 67, 73, 76, 77, 83, 84, 87] [] S0 S1 → K S1 r1 → K' S1 r1) (hk39 : ∀ u : Int32 × Int32 × mS, Fr [23, 28, 30] [54, 55, 56, 61, 62, 63, 67, 73, 76, 77, 83, 84, 87] [] S0 u.2.2 → k39 u → k39' u) {x1 : Int32} {x2 : Int32} {S : mS} (hF : Fr [23, 28, 30] [54, 55, 56, 61, 62, 63, 67, 73, 76, 77, 83, 84, 87] [] S0 S) (h : wp_cancels_39 r_decides r_cancels K k39 x1 x2 S) : wp_cancels_39 r_decides r_cancels K' k39' x1 x2 S := by
  unfold wp_cancels_39 at h ⊢
  refine ⟨h.1, ?_⟩
  replace h := h.2
  intro z14 e
  replace h := h z14 e
  refine ⟨fun c => ?_, fun c => ?_⟩
  · replace h := h.1 c
    refine fm_outOfRow _ _ _ _ (fun S16 hG h => ?_) h
    replace hF := Fr_t hF hG (by decide) (by decide) (by decide)
    refine fm_ends hr_decides hr_cancels _ _ _ _ _ _ (fun S17 hG h => ?_) h
    replace hF := Fr_t hF hG (by decide) (by decide) (by decide)
    exact hk _ _ hF h
  · replace h := h.2 c
    intro z18 e
    replace h := h z18 e
    exact hk39 _ hF h
theorem fml_cancels_39 {r_decides : Int32 → Int32 → Int32 → mS → (mS → Prop) → Prop} (hr_decides : ∀ a0 : Int32, ∀ a1 : Int32, ∀ a2 : Int32, FmV [23, 28, 30] [54, 55, 56, 61, 62, 63, 67, 73, 76, 77, 83, 84, 87] [] (r_decides a0 a1 a2)) {r_cancels : Int32 → mS → (mS → Int32 → Prop) → Prop} (hr_cancels : ∀ a0 : Int32, FmI [23, 28, 30] [54, 55, 56, 61, 62, 63, 67, 73, 76, 77, 83, 84, 87] [] (r_cancels a0)) {K K' : mS → Int32 → Prop} {S0 : mS} (hk : ∀ S1 r1, Fr [23, 28, 30] [54, 55, 56, 61, 62, 63, 67, 73, 76, 77, 83, 84, 87] [] S0 S1 → K S1 r1 → K' S1 r1) : ∀ (n : Nat) (u : Int32 × Int32 × mS), Fr [23, 28, 30] [54, 55, 56, 61, 62, 63, 67, 73, 76, 77, 83, 84, 87] [] S0 u.2.2 → it (ls_cancels_39 r_decides r_cancels K) n u → it (ls_cancels_39 r_decides r_cancels K') n u := by
  intro n
  induction n with
  | zero => exact fun _ _ h => h
  | succ n ih => exact fun u hF h => fm_cancels_39 hr_decides hr_cancels hk ih hF h
theorem fm_cancels {r_decides : Int32 → Int32 → Int32 → mS → (mS → Prop) → Prop} (hr_decides : ∀ a0 : Int32, ∀ a1 : Int32, ∀ a2 : Int32, FmV [23, 28, 30] [54, 55, 56, 61, 62, 63, 67, 73, 76, 77, 83, 84, 87] [] (r_decides a0 a1 a2)) {r_cancels : Int32 → mS → (mS → Int32 → Prop) → Prop} (hr_cancels : ∀ a0 : Int32, FmI [23, 28, 30] [54, 55, 56, 61, 62, 63, 67, 73, 76, 77, 83, 84, 87] [] (r_cancels a0)) (a0 : Int32) : FmI [23, 28, 30] [54, 55, 56, 61, 62, 63, 67, 73, 76, 77, 83, 84, 87] [] (wp_cancels r_decides r_cancels a0) := by
  intro S0 K K' hk h
  have hF : Fr [23, 28, 30] [54, 55, 56, 61, 62, 63, 67, 73, 76, 77, 83, 84, 87] [] S0 S0 := Fr_rf
  unfold wp_cancels at h ⊢
  refine ⟨h.1, ?_⟩
  replace h := h.2
  intro z1 e
  replace h := h z1 e
  refine ⟨fun c => ?_, fun c => ?_⟩
  · replace h := h.1 c
    exact hk _ _ hF h
  · replace h := h.2 c
    refine ⟨h.1, ?_⟩
    replace h := h.2
    intro z3 e
    replace h := h z3 e
    refine ⟨fun c => ?_, fun c => ?_⟩
    · replace h := h.1 c
      refine ⟨h.1, ?_⟩
      replace h := h.2
      intro S5 e
      replace h := h S5 e
      replace hF := Fr_f hF e (by decide)
      refine ⟨h.1, ?_⟩
      replace h := h.2
      intro z6 e
      replace h := h z6 e
      refine ⟨fun c => ?_, fun c => ?_⟩
      · replace h := h.1 c
        refine ⟨h.1, ?_⟩
        replace h := h.2
        intro z8 e
        replace h := h z8 e
        refine ⟨fun c => ?_, fun c => ?_⟩
        · replace h := h.1 c
          exact fm_cancels_125 hr_decides hr_cancels hk hF h
        · replace h := h.2 c
          refine ⟨fun c => ?_, fun c => ?_⟩
          · replace h := h.1 c
            exact fm_cancels_115 hr_decides hr_cancels hk hF h
          · replace h := h.2 c
            refine ⟨h.1, ?_⟩
            replace h := h.2
            intro S11 e
            replace h := h S11 e
            replace hF := Fr_f hF e (by decide)
            refine ⟨h.1, ?_⟩
            replace h := h.2
            intro z12 e
            replace h := h z12 e
            refine ⟨h.1, ?_⟩
            replace h := h.2
            intro S13 e
            replace h := h S13 e
            replace hF := Fr_f hF e (by decide)
            exact fm_cancels_115 hr_decides hr_cancels hk hF h
      · replace h := h.2 c
        obtain ⟨n9, h⟩ := h
        exact ⟨n9, fml_cancels_39 hr_decides hr_cancels hk n9 _ hF h⟩
    · replace h := h.2 c
      exact hk _ _ hF h
theorem fr_decides : ∀ n : Nat, (∀ a0 : Int32, ∀ a1 : Int32, ∀ a2 : Int32, FmV [23, 28, 30] [54, 55, 56, 61, 62, 63, 67, 73, 76, 77, 83, 84, 87] [] ((wr_decides n).1 a0 a1 a2)) ∧ (∀ a0 : Int32, FmI [23, 28, 30] [54, 55, 56, 61, 62, 63, 67, 73, 76, 77, 83, 84, 87] [] ((wr_decides n).2 a0)) := by
  intro n
  induction n with
  | zero => exact ⟨fun _ _ _ _ _ _ _ h => h, fun _ _ _ _ _ h => h⟩
  | succ n ih => exact ⟨fm_decides ih.1 ih.2, fm_cancels ih.1 ih.2⟩
theorem fq_letGo (a0 : Int32) (a1 : Int32) : FmV [23, 28, 30] [54, 55, 56, 61, 62, 63, 67, 73, 76, 77, 83, 84, 87] [] (wq_letGo a0 a1) := fm_letGo (fr_decides 230).1 (fr_decides 230).2 a0 a1
theorem fq_weighs (a0 : Int32) : FmV [23, 28, 30] [54, 55, 56, 61, 62, 63, 67, 73, 76, 77, 83, 84, 87] [] (wq_weighs a0) := fm_weighs (fr_decides 230).1 (fr_decides 230).2 a0
theorem fq_decides (a0 : Int32) (a1 : Int32) (a2 : Int32) : FmV [23, 28, 30] [54, 55, 56, 61, 62, 63, 67, 73, 76, 77, 83, 84, 87] [] (wq_decides a0 a1 a2) := (fr_decides 230).1 a0 a1 a2
theorem fq_ends (a0 : Int32) (a1 : Int32) (a2 : Int32) : FmV [23, 28, 30] [54, 55, 56, 61, 62, 63, 67, 73, 76, 77, 83, 84, 87] [] (wq_ends a0 a1 a2) := fm_ends (fr_decides 230).1 (fr_decides 230).2 a0 a1 a2
theorem fq_cancels (a0 : Int32) : FmI [23, 28, 30] [54, 55, 56, 61, 62, 63, 67, 73, 76, 77, 83, 84, 87] [] (wq_cancels a0) := (fr_decides 230).2 a0
theorem fm_cancel (a0 : Int32) : FmI [0, 23, 28, 30] [54, 55, 56, 61, 62, 63, 67, 73, 76, 77, 83, 84, 87] [] (wp_cancel a0) := by
  intro S0 K K' hk h
  have hF : Fr [0, 23, 28, 30] [54, 55, 56, 61, 62, 63, 67, 73, 76, 77, 83, 84, 87] [] S0 S0 := Fr_rf
  unfold wp_cancel at h ⊢
  intro S1 e
  replace h := h S1 e
  replace hF := Fr_z hF e (by decide)
  refine ⟨fun c => ?_, fun c => ?_⟩
  · replace h := h.1 c
    exact hk _ _ hF h
  · replace h := h.2 c
    refine ⟨fun c => ?_, fun c => ?_⟩
    · replace h := h.1 c
      exact hk _ _ hF h
    · replace h := h.2 c
      refine fq_cancels _ _ _ _ (fun S4 r4 hG h => ?_) h
      replace hF := Fr_t hF hG (by decide) (by decide) (by decide)
      refine ⟨fun c => ?_, fun c => ?_⟩
      · replace h := h.1 c
        exact hk _ _ hF h
      · replace h := h.2 c
        exact hk _ _ hF h
theorem fm_isTask (a0 : Int32) : FmI [] [] [] (wp_isTask a0) := by
  intro S0 K K' hk h
  have hF : Fr [] [] [] S0 S0 := Fr_rf
  unfold wp_isTask at h ⊢
  refine ⟨fun c => ?_, fun c => ?_⟩
  · replace h := h.1 c
    exact hk _ _ hF h
  · replace h := h.2 c
    refine ⟨fun c => ?_, fun c => ?_⟩
    · replace h := h.1 c
      exact hk _ _ hF h
    · replace h := h.2 c
      exact hk _ _ hF h
theorem fm_cell_41 {K K' : mS → Int32 → Prop} {S0 : mS} (hk : ∀ S1 r1, Fr [0] [] [] S0 S1 → K S1 r1 → K' S1 r1) {x1 : Int32} {x2 : Int32} {y1 : Int32} {S : mS} (hF : Fr [0] [] [] S0 S) (h : wp_cell_41 K x1 x2 y1 S) : wp_cell_41 K' x1 x2 y1 S := by
  unfold wp_cell_41 at h ⊢
  intro S9 e
  replace h := h S9 e
  replace hF := Fr_z hF e (by decide)
  refine ⟨fun c => ?_, fun c => ?_⟩
  · replace h := h.1 c
    intro z11 e
    replace h := h z11 e
    intro z12 e
    replace h := h z12 e
    refine ⟨h.1, ?_⟩
    replace h := h.2
    intro z13 e
    replace h := h z13 e
    exact hk _ _ hF h
  · replace h := h.2 c
    exact hk _ _ hF h
theorem fm_cell_40 {K K' : mS → Int32 → Prop} {S0 : mS} (hk : ∀ S1 r1, Fr [0] [] [] S0 S1 → K S1 r1 → K' S1 r1) {x1 : Int32} {x2 : Int32} {S : mS} (hF : Fr [0] [] [] S0 S) (h : wp_cell_40 K x1 x2 S) : wp_cell_40 K' x1 x2 S := by
  unfold wp_cell_40 at h ⊢
  exact fm_cell_41 hk hF h
theorem fm_cell (a0 : Int32) (a1 : Int32) : FmI [0] [] [] (wp_cell a0 a1) := by
  intro S0 K K' hk h
  have hF : Fr [0] [] [] S0 S0 := Fr_rf
  unfold wp_cell at h ⊢
  refine fm_isTask _ _ _ _ (fun S1 r1 hG h => ?_) h
  replace hF := Fr_t hF hG (by decide) (by decide) (by decide)
  refine ⟨fun c => ?_, fun c => ?_⟩
  · replace h := h.1 c
    exact fm_cell_40 hk hF h
  · replace h := h.2 c
    refine ⟨fun c => ?_, fun c => ?_⟩
    · replace h := h.1 c
      exact fm_cell_40 hk hF h
    · replace h := h.2 c
      intro z4 e
      replace h := h z4 e
      refine ⟨h.1, ?_⟩
      replace h := h.2
      intro z5 e
      replace h := h z5 e
      intro z6 e
      replace h := h z6 e
      refine ⟨h.1, ?_⟩
      replace h := h.2
      intro z7 e
      replace h := h z7 e
      refine ⟨fun c => ?_, fun c => ?_⟩
      · replace h := h.1 c
        exact fm_cell_40 hk hF h
      · replace h := h.2 c
        exact fm_cell_41 hk hF h
theorem fm_toFinish (a0 : Int32) (a1 : Int32) (a2 : Int32) : FmV [32] [70, 71, 72] [] (wp_toFinish a0 a1 a2) := by
  intro S0 K K' hk h
  have hF : Fr [32] [70, 71, 72] [] S0 S0 := Fr_rf
  unfold wp_toFinish at h ⊢
  refine ⟨h.1, ?_⟩
  replace h := h.2
  intro S1 e
  replace h := h S1 e
  replace hF := Fr_f hF e (by decide)
  refine ⟨h.1, ?_⟩
  replace h := h.2
  intro S2 e
  replace h := h S2 e
  replace hF := Fr_f hF e (by decide)
  refine ⟨h.1, ?_⟩
  replace h := h.2
  intro S3 e
  replace h := h S3 e
  replace hF := Fr_f hF e (by decide)
  refine ⟨h.1, ?_⟩
  replace h := h.2
  intro z4 e
  replace h := h z4 e
  refine ⟨h.1, ?_⟩
  replace h := h.2
  intro z5 e
  replace h := h z5 e
  intro S6 e
  replace h := h S6 e
  replace hF := Fr_z hF e (by decide)
  exact hk _ hF h
theorem fm_raiseCancel_64 {K K' : mS → Prop} {k0 k0' : mS → Prop} {S0 : mS} (hk : ∀ S1, Fr [23, 28, 30, 32] [54, 55, 56, 61, 62, 63, 67, 68, 70, 71, 72, 73, 76, 77, 83, 84, 87] [] S0 S1 → K S1 → K' S1) (hk0 : ∀ u : mS, Fr [23, 28, 30, 32] [54, 55, 56, 61, 62, 63, 67, 68, 70, 71, 72, 73, 76, 77, 83, 84, 87] [] S0 u → k0 u → k0' u) {S : mS} (hF : Fr [23, 28, 30, 32] [54, 55, 56, 61, 62, 63, 67, 68, 70, 71, 72, 73, 76, 77, 83, 84, 87] [] S0 S) (h : wp_raiseCancel_64 K k0 S) : wp_raiseCancel_64 K' k0' S := by
  unfold wp_raiseCancel_64 at h ⊢
  refine ⟨h.1, ?_⟩
  replace h := h.2
  intro z14 e
  replace h := h z14 e
  intro z15 e
  replace h := h z15 e
  refine ⟨h.1, ?_⟩
  replace h := h.2
  intro S16 e
  replace h := h S16 e
  replace hF := Fr_f hF e (by decide)
  exact hk0 _ hF h
theorem fm_raiseCancel_0 {K K' : mS → Prop} {k0 k0' : mS → Prop} {S0 : mS} (hk : ∀ S1, Fr [23, 28, 30, 32] [54, 55, 56, 61, 62, 63, 67, 68, 70, 71, 72, 73, 76, 77, 83, 84, 87] [] S0 S1 → K S1 → K' S1) (hk0 : ∀ u : mS, Fr [23, 28, 30, 32] [54, 55, 56, 61, 62, 63, 67, 68, 70, 71, 72, 73, 76, 77, 83, 84, 87] [] S0 u → k0 u → k0' u) {S : mS} (hF : Fr [23, 28, 30, 32] [54, 55, 56, 61, 62, 63, 67, 68, 70, 71, 72, 73, 76, 77, 83, 84, 87] [] S0 S) (h : wp_raiseCancel_0 K k0 S) : wp_raiseCancel_0 K' k0' S := by
  unfold wp_raiseCancel_0 at h ⊢
  refine ⟨h.1, ?_⟩
  replace h := h.2
  intro z1 e
  replace h := h z1 e
  refine ⟨fun c => ?_, fun c => ?_⟩
  · replace h := h.1 c
    refine fq_ends _ _ _ _ _ _ (fun S3 hG h => ?_) h
    replace hF := Fr_t hF hG (by decide) (by decide) (by decide)
    exact hk _ hF h
  · replace h := h.2 c
    intro z4 e
    replace h := h z4 e
    refine ⟨h.1, ?_⟩
    replace h := h.2
    intro z5 e
    replace h := h z5 e
    intro z6 e
    replace h := h z6 e
    intro z7 e
    replace h := h z7 e
    refine ⟨h.1, ?_⟩
    replace h := h.2
    intro z8 e
    replace h := h z8 e
    refine ⟨fun c => ?_, fun c => ?_⟩
    · replace h := h.1 c
      exact fm_raiseCancel_64 hk hk0 hF h
    · replace h := h.2 c
      refine ⟨h.1, ?_⟩
      replace h := h.2
      intro z10 e
      replace h := h z10 e
      refine ⟨h.1, ?_⟩
      replace h := h.2
      intro z11 e
      replace h := h z11 e
      refine ⟨fun c => ?_, fun c => ?_⟩
      · replace h := h.1 c
        exact fm_raiseCancel_64 hk hk0 hF h
      · replace h := h.2 c
        refine fm_toFinish _ _ _ _ _ _ (fun S13 hG h => ?_) h
        replace hF := Fr_t hF hG (by decide) (by decide) (by decide)
        exact hk _ hF h
theorem fml_raiseCancel_0 {K K' : mS → Prop} {S0 : mS} (hk : ∀ S1, Fr [23, 28, 30, 32] [54, 55, 56, 61, 62, 63, 67, 68, 70, 71, 72, 73, 76, 77, 83, 84, 87] [] S0 S1 → K S1 → K' S1) : ∀ (n : Nat) (u : mS), Fr [23, 28, 30, 32] [54, 55, 56, 61, 62, 63, 67, 68, 70, 71, 72, 73, 76, 77, 83, 84, 87] [] S0 u → it (ls_raiseCancel_0 K) n u → it (ls_raiseCancel_0 K') n u := by
  intro n
  induction n with
  | zero => exact fun _ _ h => h
  | succ n ih => exact fun u hF h => fm_raiseCancel_0 hk ih hF h
theorem fm_raiseCancel : FmV [23, 28, 30, 32] [54, 55, 56, 61, 62, 63, 67, 68, 70, 71, 72, 73, 76, 77, 83, 84, 87] [] (wp_raiseCancel) := by
  intro S0 K K' hk h
  have hF : Fr [23, 28, 30, 32] [54, 55, 56, 61, 62, 63, 67, 68, 70, 71, 72, 73, 76, 77, 83, 84, 87] [] S0 S0 := Fr_rf
  unfold wp_raiseCancel at h ⊢
  obtain ⟨n9, h⟩ := h
  exact ⟨n9, fml_raiseCancel_0 hk n9 _ hF h⟩
theorem fm_raise_160 {K K' : mS → Prop} {k0 k0' : Int32 × mS → Prop} {S0 : mS} (hk : ∀ S1, Fr [23, 28, 30, 32] [54, 55, 56, 58, 61, 62, 63, 67, 68, 70, 71, 72, 73, 76, 77, 83, 84, 87] [] S0 S1 → K S1 → K' S1) (hk0 : ∀ u : Int32 × mS, Fr [23, 28, 30, 32] [54, 55, 56, 58, 61, 62, 63, 67, 68, 70, 71, 72, 73, 76, 77, 83, 84, 87] [] S0 u.2 → k0 u → k0' u) {x1 : Int32} {S : mS} (hF : Fr [23, 28, 30, 32] [54, 55, 56, 58, 61, 62, 63, 67, 68, 70, 71, 72, 73, 76, 77, 83, 84, 87] [] S0 S) (h : wp_raise_160 K k0 x1 S) : wp_raise_160 K' k0' x1 S := by
  unfold wp_raise_160 at h ⊢
  exact hk0 _ hF h
theorem fm_raise_122 {K K' : mS → Prop} {k0 k0' : Int32 × mS → Prop} {S0 : mS} (hk : ∀ S1, Fr [23, 28, 30, 32] [54, 55, 56, 58, 61, 62, 63, 67, 68, 70, 71, 72, 73, 76, 77, 83, 84, 87] [] S0 S1 → K S1 → K' S1) (hk0 : ∀ u : Int32 × mS, Fr [23, 28, 30, 32] [54, 55, 56, 58, 61, 62, 63, 67, 68, 70, 71, 72, 73, 76, 77, 83, 84, 87] [] S0 u.2 → k0 u → k0' u) {x1 : Int32} {x2 : Int32} {S : mS} (hF : Fr [23, 28, 30, 32] [54, 55, 56, 58, 61, 62, 63, 67, 68, 70, 71, 72, 73, 76, 77, 83, 84, 87] [] S0 S) (h : wp_raise_122 K k0 x1 x2 S) : wp_raise_122 K' k0' x1 x2 S := by
  unfold wp_raise_122 at h ⊢
  refine ⟨h.1, ?_⟩
  replace h := h.2
  intro z25 e
  replace h := h z25 e
  intro z26 e
  replace h := h z26 e
  refine ⟨h.1, ?_⟩
  replace h := h.2
  intro S27 e
  replace h := h S27 e
  replace hF := Fr_f hF e (by decide)
  refine ⟨h.1, ?_⟩
  replace h := h.2
  intro z28 e
  replace h := h z28 e
  refine ⟨fun c => ?_, fun c => ?_⟩
  · replace h := h.1 c
    exact fm_raise_160 hk hk0 hF h
  · replace h := h.2 c
    refine ⟨h.1, ?_⟩
    replace h := h.2
    intro z30 e
    replace h := h z30 e
    refine ⟨fun c => ?_, fun c => ?_⟩
    · replace h := h.1 c
      exact fm_raise_160 hk hk0 hF h
    · replace h := h.2 c
      refine fm_raiseCancel _ _ _ (fun S32 hG h => ?_) h
      replace hF := Fr_t hF hG (by decide) (by decide) (by decide)
      exact hk _ hF h
theorem fm_raise_95 {K K' : mS → Prop} {k0 k0' : Int32 × mS → Prop} {S0 : mS} (hk : ∀ S1, Fr [23, 28, 30, 32] [54, 55, 56, 58, 61, 62, 63, 67, 68, 70, 71, 72, 73, 76, 77, 83, 84, 87] [] S0 S1 → K S1 → K' S1) (hk0 : ∀ u : Int32 × mS, Fr [23, 28, 30, 32] [54, 55, 56, 58, 61, 62, 63, 67, 68, 70, 71, 72, 73, 76, 77, 83, 84, 87] [] S0 u.2 → k0 u → k0' u) {x1 : Int32} {x2 : Int32} {x3 : Int32} {S : mS} (hF : Fr [23, 28, 30, 32] [54, 55, 56, 58, 61, 62, 63, 67, 68, 70, 71, 72, 73, 76, 77, 83, 84, 87] [] S0 S) (h : wp_raise_95 K k0 x1 x2 x3 S) : wp_raise_95 K' k0' x1 x2 x3 S := by
  unfold wp_raise_95 at h ⊢
  refine ⟨h.1, ?_⟩
  replace h := h.2
  intro z20 e
  replace h := h z20 e
  refine ⟨fun c => ?_, fun c => ?_⟩
  · replace h := h.1 c
    exact fm_raise_122 hk hk0 hF h
  · replace h := h.2 c
    refine ⟨h.1, ?_⟩
    replace h := h.2
    intro z22 e
    replace h := h z22 e
    refine ⟨fun c => ?_, fun c => ?_⟩
    · replace h := h.1 c
      exact fm_raise_122 hk hk0 hF h
    · replace h := h.2 c
      refine fm_toFinish _ _ _ _ _ _ (fun S24 hG h => ?_) h
      replace hF := Fr_t hF hG (by decide) (by decide) (by decide)
      exact hk _ hF h
theorem fm_raise_0 {K K' : mS → Prop} {k0 k0' : Int32 × mS → Prop} {S0 : mS} (hk : ∀ S1, Fr [23, 28, 30, 32] [54, 55, 56, 58, 61, 62, 63, 67, 68, 70, 71, 72, 73, 76, 77, 83, 84, 87] [] S0 S1 → K S1 → K' S1) (hk0 : ∀ u : Int32 × mS, Fr [23, 28, 30, 32] [54, 55, 56, 58, 61, 62, 63, 67, 68, 70, 71, 72, 73, 76, 77, 83, 84, 87] [] S0 u.2 → k0 u → k0' u) {x1 : Int32} {S : mS} (hF : Fr [23, 28, 30, 32] [54, 55, 56, 58, 61, 62, 63, 67, 68, 70, 71, 72, 73, 76, 77, 83, 84, 87] [] S0 S) (h : wp_raise_0 K k0 x1 S) : wp_raise_0 K' k0' x1 S := by
  unfold wp_raise_0 at h ⊢
  refine ⟨h.1, ?_⟩
  replace h := h.2
  intro z1 e
  replace h := h z1 e
  refine ⟨fun c => ?_, fun c => ?_⟩
  · replace h := h.1 c
    refine fq_ends _ _ _ _ _ _ (fun S3 hG h => ?_) h
    replace hF := Fr_t hF hG (by decide) (by decide) (by decide)
    exact hk _ hF h
  · replace h := h.2 c
    intro z4 e
    replace h := h z4 e
    refine ⟨h.1, ?_⟩
    replace h := h.2
    intro z5 e
    replace h := h z5 e
    intro z6 e
    replace h := h z6 e
    intro z7 e
    replace h := h z7 e
    refine ⟨h.1, ?_⟩
    replace h := h.2
    intro z8 e
    replace h := h z8 e
    refine ⟨h.1, ?_⟩
    replace h := h.2
    intro z9 e
    replace h := h z9 e
    refine ⟨fun c => ?_, fun c => ?_⟩
    · replace h := h.1 c
      exact fm_raise_95 hk hk0 hF h
    · replace h := h.2 c
      refine ⟨h.1, ?_⟩
      replace h := h.2
      intro z11 e
      replace h := h z11 e
      refine ⟨fun c => ?_, fun c => ?_⟩
      · replace h := h.1 c
        exact fm_raise_95 hk hk0 hF h
      · replace h := h.2 c
        refine ⟨h.1, ?_⟩
        replace h := h.2
        intro S13 e
        replace h := h S13 e
        replace hF := Fr_f hF e (by decide)
        intro z14 e
        replace h := h z14 e
        refine ⟨h.1, ?_⟩
        replace h := h.2
        intro z15 e
        replace h := h z15 e
        intro z16 e
        replace h := h z16 e
        refine ⟨h.1, ?_⟩
        replace h := h.2
        intro S17 e
        replace h := h S17 e
        replace hF := Fr_f hF e (by decide)
        refine ⟨h.1, ?_⟩
        replace h := h.2
        intro z18 e
        replace h := h z18 e
        intro S19 e
        replace h := h S19 e
        replace hF := Fr_z hF e (by decide)
        exact hk _ hF h
theorem fml_raise_0 {K K' : mS → Prop} {S0 : mS} (hk : ∀ S1, Fr [23, 28, 30, 32] [54, 55, 56, 58, 61, 62, 63, 67, 68, 70, 71, 72, 73, 76, 77, 83, 84, 87] [] S0 S1 → K S1 → K' S1) : ∀ (n : Nat) (u : Int32 × mS), Fr [23, 28, 30, 32] [54, 55, 56, 58, 61, 62, 63, 67, 68, 70, 71, 72, 73, 76, 77, 83, 84, 87] [] S0 u.2 → it (ls_raise_0 K) n u → it (ls_raise_0 K') n u := by
  intro n
  induction n with
  | zero => exact fun _ _ h => h
  | succ n ih => exact fun u hF h => fm_raise_0 hk ih hF h
theorem fm_raise (a0 : Int32) : FmV [23, 28, 30, 32] [54, 55, 56, 58, 61, 62, 63, 67, 68, 70, 71, 72, 73, 76, 77, 83, 84, 87] [] (wp_raise a0) := by
  intro S0 K K' hk h
  have hF : Fr [23, 28, 30, 32] [54, 55, 56, 58, 61, 62, 63, 67, 68, 70, 71, 72, 73, 76, 77, 83, 84, 87] [] S0 S0 := Fr_rf
  unfold wp_raise at h ⊢
  obtain ⟨n9, h⟩ := h
  exact ⟨n9, fml_raise_0 hk n9 _ hF h⟩
theorem fm_stops_99 {K K' : mS → Prop} {S0 : mS} (hk : ∀ S1, Fr [23, 34] [54, 57, 62, 63, 65, 66, 73] [] S0 S1 → K S1 → K' S1) {S : mS} (hF : Fr [23, 34] [54, 57, 62, 63, 65, 66, 73] [] S0 S) (h : wp_stops_99 K S) : wp_stops_99 K' S := by
  unfold wp_stops_99 at h ⊢
  refine ⟨h.1, ?_⟩
  replace h := h.2
  intro z14 e
  replace h := h z14 e
  refine ⟨fun c => ?_, fun c => ?_⟩
  · replace h := h.1 c
    refine ⟨h.1, ?_⟩
    replace h := h.2
    intro z16 e
    replace h := h z16 e
    refine ⟨fun c => ?_, fun c => ?_⟩
    · replace h := h.1 c
      refine fm_toRow _ _ _ _ (fun S18 hG h => ?_) h
      replace hF := Fr_t hF hG (by decide) (by decide) (by decide)
      exact hk _ hF h
    · replace h := h.2 c
      refine ⟨h.1, ?_⟩
      replace h := h.2
      intro S19 e
      replace h := h S19 e
      replace hF := Fr_f hF e (by decide)
      exact hk _ hF h
  · replace h := h.2 c
    refine ⟨h.1, ?_⟩
    replace h := h.2
    intro S20 e
    replace h := h S20 e
    replace hF := Fr_f hF e (by decide)
    exact hk _ hF h
theorem fm_stops (a0 : Int32) : FmV [23, 34] [54, 57, 62, 63, 65, 66, 73] [] (wp_stops a0) := by
  intro S0 K K' hk h
  have hF : Fr [23, 34] [54, 57, 62, 63, 65, 66, 73] [] S0 S0 := Fr_rf
  unfold wp_stops at h ⊢
  intro S1 e
  replace h := h S1 e
  replace hF := Fr_z hF e (by decide)
  refine ⟨h.1, ?_⟩
  replace h := h.2
  intro S2 e
  replace h := h S2 e
  replace hF := Fr_f hF e (by decide)
  refine ⟨h.1, ?_⟩
  replace h := h.2
  intro S3 e
  replace h := h S3 e
  replace hF := Fr_f hF e (by decide)
  refine ⟨h.1, ?_⟩
  replace h := h.2
  intro S4 e
  replace h := h S4 e
  replace hF := Fr_f hF e (by decide)
  refine ⟨fun c => ?_, fun c => ?_⟩
  · replace h := h.1 c
    exact fm_stops_99 hk hF h
  · replace h := h.2 c
    refine ⟨h.1, ?_⟩
    replace h := h.2
    intro z6 e
    replace h := h z6 e
    refine ⟨fun c => ?_, fun c => ?_⟩
    · replace h := h.1 c
      exact fm_stops_99 hk hF h
    · replace h := h.2 c
      refine ⟨h.1, ?_⟩
      replace h := h.2
      intro z8 e
      replace h := h z8 e
      refine ⟨fun c => ?_, fun c => ?_⟩
      · replace h := h.1 c
        exact fm_stops_99 hk hF h
      · replace h := h.2 c
        refine ⟨h.1, ?_⟩
        replace h := h.2
        intro z10 e
        replace h := h z10 e
        refine ⟨h.1, ?_⟩
        replace h := h.2
        intro S11 e
        replace h := h S11 e
        replace hF := Fr_f hF e (by decide)
        refine ⟨h.1, ?_⟩
        replace h := h.2
        intro z12 e
        replace h := h z12 e
        refine ⟨h.1, ?_⟩
        replace h := h.2
        intro S13 e
        replace h := h S13 e
        replace hF := Fr_f hF e (by decide)
        exact fm_stops_99 hk hF h
theorem fm_failure (a0 : Int32) : FmV [23, 28, 30, 32, 34] [54, 55, 56, 57, 58, 61, 62, 63, 65, 66, 67, 68, 70, 71, 72, 73, 76, 77, 83, 84, 87] [] (wp_failure a0) := by
  intro S0 K K' hk h
  have hF : Fr [23, 28, 30, 32, 34] [54, 55, 56, 57, 58, 61, 62, 63, 65, 66, 67, 68, 70, 71, 72, 73, 76, 77, 83, 84, 87] [] S0 S0 := Fr_rf
  unfold wp_failure at h ⊢
  refine ⟨fun c => ?_, fun c => ?_⟩
  · replace h := h.1 c
    refine fq_letGo _ _ _ _ _ (fun S2 hG h => ?_) h
    replace hF := Fr_t hF hG (by decide) (by decide) (by decide)
    refine ⟨h.1, ?_⟩
    replace h := h.2
    intro S3 e
    replace h := h S3 e
    replace hF := Fr_f hF e (by decide)
    refine ⟨h.1, ?_⟩
    replace h := h.2
    intro S4 e
    replace h := h S4 e
    replace hF := Fr_f hF e (by decide)
    intro S5 e
    replace h := h S5 e
    replace hF := Fr_z hF e (by decide)
    refine fm_stops _ _ _ _ (fun S6 hG h => ?_) h
    replace hF := Fr_t hF hG (by decide) (by decide) (by decide)
    exact hk _ hF h
  · replace h := h.2 c
    refine fm_raise _ _ _ _ (fun S7 hG h => ?_) h
    replace hF := Fr_t hF hG (by decide) (by decide) (by decide)
    exact hk _ hF h
theorem fm_newNode_96 {K K' : mS → Int32 → Prop} {S0 : mS} (hk : ∀ S1 r1, Fr [29, 30] [80, 81, 82, 83, 84, 85, 87] [] S0 S1 → K S1 r1 → K' S1 r1) {x4 : Int32} {S : mS} (hF : Fr [29, 30] [80, 81, 82, 83, 84, 85, 87] [] S0 S) (h : wp_newNode_96 K x4 S) : wp_newNode_96 K' x4 S := by
  unfold wp_newNode_96 at h ⊢
  refine ⟨h.1, ?_⟩
  replace h := h.2
  intro S14 e
  replace h := h S14 e
  replace hF := Fr_f hF e (by decide)
  intro z15 e
  replace h := h z15 e
  intro S16 e
  replace h := h S16 e
  replace hF := Fr_z hF e (by decide)
  exact hk _ _ hF h
theorem fm_newNode_54 {K K' : mS → Int32 → Prop} {S0 : mS} (hk : ∀ S1 r1, Fr [29, 30] [80, 81, 82, 83, 84, 85, 87] [] S0 S1 → K S1 r1 → K' S1 r1) {x1 : Int32} {x2 : Int32} {x3 : Int32} {x4 : Int32} {y1 : Int32} {y2 : Int32} {S : mS} (hF : Fr [29, 30] [80, 81, 82, 83, 84, 85, 87] [] S0 S) (h : wp_newNode_54 K x1 x2 x3 x4 y1 y2 S) : wp_newNode_54 K' x1 x2 x3 x4 y1 y2 S := by
  unfold wp_newNode_54 at h ⊢
  refine ⟨h.1, ?_⟩
  replace h := h.2
  intro S7 e
  replace h := h S7 e
  replace hF := Fr_f hF e (by decide)
  refine ⟨h.1, ?_⟩
  replace h := h.2
  intro S8 e
  replace h := h S8 e
  replace hF := Fr_f hF e (by decide)
  refine ⟨h.1, ?_⟩
  replace h := h.2
  intro S9 e
  replace h := h S9 e
  replace hF := Fr_f hF e (by decide)
  refine ⟨h.1, ?_⟩
  replace h := h.2
  intro S10 e
  replace h := h S10 e
  replace hF := Fr_f hF e (by decide)
  refine ⟨fun c => ?_, fun c => ?_⟩
  · replace h := h.1 c
    exact hk _ _ hF h
  · replace h := h.2 c
    refine ⟨fun c => ?_, fun c => ?_⟩
    · replace h := h.1 c
      exact fm_newNode_96 hk hF h
    · replace h := h.2 c
      refine ⟨fun c => ?_, fun c => ?_⟩
      · replace h := h.1 c
        exact hk _ _ hF h
      · replace h := h.2 c
        exact fm_newNode_96 hk hF h
theorem fm_newNode (a0 : Int32) (a1 : Int32) (a2 : Int32) : FmI [29, 30] [80, 81, 82, 83, 84, 85, 87] [] (wp_newNode a0 a1 a2) := by
  intro S0 K K' hk h
  have hF : Fr [29, 30] [80, 81, 82, 83, 84, 85, 87] [] S0 S0 := Fr_rf
  unfold wp_newNode at h ⊢
  intro z1 e
  replace h := h z1 e
  intro S2 e
  replace h := h S2 e
  replace hF := Fr_z hF e (by decide)
  refine ⟨h.1, ?_⟩
  replace h := h.2
  intro S3 e
  replace h := h S3 e
  replace hF := Fr_f hF e (by decide)
  refine ⟨h.1, ?_⟩
  replace h := h.2
  intro S4 e
  replace h := h S4 e
  replace hF := Fr_f hF e (by decide)
  refine ⟨fun c => ?_, fun c => ?_⟩
  · replace h := h.1 c
    intro z6 e
    replace h := h z6 e
    exact fm_newNode_54 hk hF h
  · replace h := h.2 c
    exact fm_newNode_54 hk hF h
theorem fm_childNode_54 {K K' : mS → Prop} {k54 k54' : Int32 × Int32 × Int32 × mS → Prop} {S0 : mS} (hk : ∀ S1, Fr [22, 23, 28, 29, 30, 31, 32, 34] [51, 52, 53, 54, 55, 56, 57, 58, 59, 60, 61, 62, 63, 65, 66, 67, 68, 70, 71, 72, 73, 76, 77, 80, 81, 82, 83, 84, 85, 87] [] S0 S1 → K S1 → K' S1) (hk54 : ∀ u : Int32 × Int32 × Int32 × mS, Fr [22, 23, 28, 29, 30, 31, 32, 34] [51, 52, 53, 54, 55, 56, 57, 58, 59, 60, 61, 62, 63, 65, 66, 67, 68, 70, 71, 72, 73, 76, 77, 80, 81, 82, 83, 84, 85, 87] [] S0 u.2.2.2 → k54 u → k54' u) {x2 : Int32} {x4 : Int32} {x5 : Int32} {S : mS} (hF : Fr [22, 23, 28, 29, 30, 31, 32, 34] [51, 52, 53, 54, 55, 56, 57, 58, 59, 60, 61, 62, 63, 65, 66, 67, 68, 70, 71, 72, 73, 76, 77, 80, 81, 82, 83, 84, 85, 87] [] S0 S) (h : wp_childNode_54 K k54 x2 x4 x5 S) : wp_childNode_54 K' k54' x2 x4 x5 S := by
  unfold wp_childNode_54 at h ⊢
  refine ⟨fun c => ?_, fun c => ?_⟩
  · replace h := h.1 c
    refine ⟨h.1, ?_⟩
    replace h := h.2
    intro z8 e
    replace h := h z8 e
    intro z9 e
    replace h := h z9 e
    refine ⟨h.1, ?_⟩
    replace h := h.2
    intro S10 e
    replace h := h S10 e
    replace hF := Fr_f hF e (by decide)
    exact hk _ hF h
  · replace h := h.2 c
    intro z11 e
    replace h := h z11 e
    intro z12 e
    replace h := h z12 e
    intro z13 e
    replace h := h z13 e
    refine ⟨h.1, ?_⟩
    replace h := h.2
    intro z14 e
    replace h := h z14 e
    refine ⟨h.1, ?_⟩
    replace h := h.2
    intro S15 e
    replace h := h S15 e
    replace hF := Fr_f hF e (by decide)
    intro z16 e
    replace h := h z16 e
    exact hk54 _ hF h
theorem fml_childNode_54 {K K' : mS → Prop} {S0 : mS} (hk : ∀ S1, Fr [22, 23, 28, 29, 30, 31, 32, 34] [51, 52, 53, 54, 55, 56, 57, 58, 59, 60, 61, 62, 63, 65, 66, 67, 68, 70, 71, 72, 73, 76, 77, 80, 81, 82, 83, 84, 85, 87] [] S0 S1 → K S1 → K' S1) : ∀ (n : Nat) (u : Int32 × Int32 × Int32 × mS), Fr [22, 23, 28, 29, 30, 31, 32, 34] [51, 52, 53, 54, 55, 56, 57, 58, 59, 60, 61, 62, 63, 65, 66, 67, 68, 70, 71, 72, 73, 76, 77, 80, 81, 82, 83, 84, 85, 87] [] S0 u.2.2.2 → it (ls_childNode_54 K) n u → it (ls_childNode_54 K') n u := by
  intro n
  induction n with
  | zero => exact fun _ _ h => h
  | succ n ih => exact fun u hF h => fm_childNode_54 hk ih hF h
theorem fm_childNode (a0 : Int32) (a1 : Int32) : FmV [22, 23, 28, 29, 30, 31, 32, 34] [51, 52, 53, 54, 55, 56, 57, 58, 59, 60, 61, 62, 63, 65, 66, 67, 68, 70, 71, 72, 73, 76, 77, 80, 81, 82, 83, 84, 85, 87] [] (wp_childNode a0 a1) := by
  intro S0 K K' hk h
  have hF : Fr [22, 23, 28, 29, 30, 31, 32, 34] [51, 52, 53, 54, 55, 56, 57, 58, 59, 60, 61, 62, 63, 65, 66, 67, 68, 70, 71, 72, 73, 76, 77, 80, 81, 82, 83, 84, 85, 87] [] S0 S0 := Fr_rf
  unfold wp_childNode at h ⊢
  intro z1 e
  replace h := h z1 e
  intro S2 e
  replace h := h S2 e
  replace hF := Fr_z hF e (by decide)
  refine ⟨fun c => ?_, fun c => ?_⟩
  · replace h := h.1 c
    refine fm_newNode _ _ _ _ _ _ (fun S4 r4 hG h => ?_) h
    replace hF := Fr_t hF hG (by decide) (by decide) (by decide)
    refine fm_newTask _ _ _ _ _ _ (fun S5 r5 hG h => ?_) h
    replace hF := Fr_t hF hG (by decide) (by decide) (by decide)
    obtain ⟨n9, h⟩ := h
    exact ⟨n9, fml_childNode_54 hk n9 _ hF h⟩
  · replace h := h.2 c
    refine fm_failure _ _ _ _ (fun S6 hG h => ?_) h
    replace hF := Fr_t hF hG (by decide) (by decide) (by decide)
    exact hk _ hF h
