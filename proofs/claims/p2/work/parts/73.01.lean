
theorem fm_child_77 {K K' : mS → Prop} {S0 : mS} (hk : ∀ S1, Fr [3, 4, 7, 8, 11, 18, 19] [8, 12, 13, 14, 15, 16, 17, 18, 19, 20, 21, 46, 47, 48] [9] S0 S1 → K S1 → K' S1) {x1 : Int32} {x2 : Int32} {S : mS} (hF : Fr [3, 4, 7, 8, 11, 18, 19] [8, 12, 13, 14, 15, 16, 17, 18, 19, 20, 21, 46, 47, 48] [9] S0 S) (h : wp_child_77 K x1 x2 S) : wp_child_77 K' x1 x2 S := by
  unfold wp_child_77 at h ⊢
  refine fm_takeSign _ _ _ _ (fun S15 hG h => ?_) h
  replace hF := Fr_t hF hG (by decide) (by decide) (by decide)
  refine fm_emit _ _ _ _ _ _ (fun S16 r16 hG h => ?_) h
  replace hF := Fr_t hF hG (by decide) (by decide) (by decide)
  refine ⟨fun c => ?_, fun c => ?_⟩
  · replace h := h.1 c
    exact hk _ hF h
  · replace h := h.2 c
    refine ⟨h.1, ?_⟩
    replace h := h.2
    intro S18 e
    replace h := h S18 e
    replace hF := Fr_f hF e (by decide)
    refine ⟨h.1, ?_⟩
    replace h := h.2
    intro S19 e
    replace h := h S19 e
    replace hF := Fr_f hF e (by decide)
    refine ⟨h.1, ?_⟩
    replace h := h.2
    intro S20 e
    replace h := h S20 e
    replace hF := Fr_f hF e (by decide)
    intro z21 e
    replace h := h z21 e
    intro S22 e
    replace h := h S22 e
    replace hF := Fr_z hF e (by decide)
    exact hk _ hF h
theorem fm_child_58 {K K' : mS → Prop} {k58 k58' : Int32 × Int32 × mS → Prop} {S0 : mS} (hk : ∀ S1, Fr [3, 4, 7, 8, 11, 18, 19] [8, 12, 13, 14, 15, 16, 17, 18, 19, 20, 21, 46, 47, 48] [9] S0 S1 → K S1 → K' S1) (hk58 : ∀ u : Int32 × Int32 × mS, Fr [3, 4, 7, 8, 11, 18, 19] [8, 12, 13, 14, 15, 16, 17, 18, 19, 20, 21, 46, 47, 48] [9] S0 u.2.2 → k58 u → k58' u) {x1 : Int32} {x2 : Int32} {S : mS} (hF : Fr [3, 4, 7, 8, 11, 18, 19] [8, 12, 13, 14, 15, 16, 17, 18, 19, 20, 21, 46, 47, 48] [9] S0 S) (h : wp_child_58 K k58 x1 x2 S) : wp_child_58 K' k58' x1 x2 S := by
  unfold wp_child_58 at h ⊢
  refine fm_hasSign _ _ _ _ (fun S11 r11 hG h => ?_) h
  replace hF := Fr_t hF hG (by decide) (by decide) (by decide)
  refine ⟨fun c => ?_, fun c => ?_⟩
  · replace h := h.1 c
    exact fm_child_77 hk hF h
  · replace h := h.2 c
    refine fq_expression _ _ _ (fun S13 hG h => ?_) h
    replace hF := Fr_t hF hG (by decide) (by decide) (by decide)
    intro z14 e
    replace h := h z14 e
    exact hk58 _ hF h
theorem fml_child_58 {K K' : mS → Prop} {S0 : mS} (hk : ∀ S1, Fr [3, 4, 7, 8, 11, 18, 19] [8, 12, 13, 14, 15, 16, 17, 18, 19, 20, 21, 46, 47, 48] [9] S0 S1 → K S1 → K' S1) : ∀ (n : Nat) (u : Int32 × Int32 × mS), Fr [3, 4, 7, 8, 11, 18, 19] [8, 12, 13, 14, 15, 16, 17, 18, 19, 20, 21, 46, 47, 48] [9] S0 u.2.2 → it (ls_child_58 K) n u → it (ls_child_58 K') n u := by
  intro n
  induction n with
  | zero => exact fun _ _ h => h
  | succ n ih => exact fun u hF h => fm_child_58 hk ih hF h
theorem fm_child_19 {K K' : mS → Prop} {S0 : mS} (hk : ∀ S1, Fr [3, 4, 7, 8, 11, 18, 19] [8, 12, 13, 14, 15, 16, 17, 18, 19, 20, 21, 46, 47, 48] [9] S0 S1 → K S1 → K' S1) {S : mS} (hF : Fr [3, 4, 7, 8, 11, 18, 19] [8, 12, 13, 14, 15, 16, 17, 18, 19, 20, 21, 46, 47, 48] [9] S0 S) (h : wp_child_19 K S) : wp_child_19 K' S := by
  unfold wp_child_19 at h ⊢
  intro z5 e
  replace h := h z5 e
  intro S6 e
  replace h := h S6 e
  replace hF := Fr_z hF e (by decide)
  refine fm_takeSign _ _ _ _ (fun S7 hG h => ?_) h
  replace hF := Fr_t hF hG (by decide) (by decide) (by decide)
  refine fm_isSign _ _ _ _ (fun S8 r8 hG h => ?_) h
  replace hF := Fr_t hF hG (by decide) (by decide) (by decide)
  refine ⟨fun c => ?_, fun c => ?_⟩
  · replace h := h.1 c
    exact fm_child_77 hk hF h
  · replace h := h.2 c
    refine fq_expression _ _ _ (fun S10 hG h => ?_) h
    replace hF := Fr_t hF hG (by decide) (by decide) (by decide)
    obtain ⟨n9, h⟩ := h
    exact ⟨n9, fml_child_58 hk n9 _ hF h⟩
theorem fm_child : FmV [3, 4, 7, 8, 11, 18, 19] [8, 12, 13, 14, 15, 16, 17, 18, 19, 20, 21, 46, 47, 48] [9] (wp_child) := by
  intro S0 K K' hk h
  have hF : Fr [3, 4, 7, 8, 11, 18, 19] [8, 12, 13, 14, 15, 16, 17, 18, 19, 20, 21, 46, 47, 48] [9] S0 S0 := Fr_rf
  unfold wp_child at h ⊢
  refine ⟨fun c => ?_, fun c => ?_⟩
  · replace h := h.1 c
    exact fm_child_19 hk hF h
  · replace h := h.2 c
    refine fm_isName _ _ _ (fun S2 r2 hG h => ?_) h
    replace hF := Fr_t hF hG (by decide) (by decide) (by decide)
    refine ⟨fun c => ?_, fun c => ?_⟩
    · replace h := h.1 c
      exact fm_child_19 hk hF h
    · replace h := h.2 c
      refine fm_wrong _ _ _ _ (fun S4 hG h => ?_) h
      replace hF := Fr_t hF hG (by decide) (by decide) (by decide)
      exact fm_child_19 hk hF h
theorem fm_isWait : FmI [] [] [] (wp_isWait) := by
  intro S0 K K' hk h
  have hF : Fr [] [] [] S0 S0 := Fr_rf
  unfold wp_isWait at h ⊢
  refine fm_isWord _ _ _ _ (fun S1 r1 hG h => ?_) h
  replace hF := Fr_t hF hG (by decide) (by decide) (by decide)
  refine ⟨fun c => ?_, fun c => ?_⟩
  · replace h := h.1 c
    exact hk _ _ hF h
  · replace h := h.2 c
    refine fm_isWord _ _ _ _ (fun S3 r3 hG h => ?_) h
    replace hF := Fr_t hF hG (by decide) (by decide) (by decide)
    refine ⟨fun c => ?_, fun c => ?_⟩
    · replace h := h.1 c
      exact hk _ _ hF h
    · replace h := h.2 c
      refine fm_isWord _ _ _ _ (fun S5 r5 hG h => ?_) h
      replace hF := Fr_t hF hG (by decide) (by decide) (by decide)
      refine ⟨fun c => ?_, fun c => ?_⟩
      · replace h := h.1 c
        exact hk _ _ hF h
      · replace h := h.2 c
        refine fm_isWord _ _ _ _ (fun S7 r7 hG h => ?_) h
        replace hF := Fr_t hF hG (by decide) (by decide) (by decide)
        refine ⟨fun c => ?_, fun c => ?_⟩
        · replace h := h.1 c
          exact hk _ _ hF h
        · replace h := h.2 c
          refine fm_isWord _ _ _ _ (fun S9 r9 hG h => ?_) h
          replace hF := Fr_t hF hG (by decide) (by decide) (by decide)
          refine ⟨fun c => ?_, fun c => ?_⟩
          · replace h := h.1 c
            exact hk _ _ hF h
          · replace h := h.2 c
            refine fm_isWord _ _ _ _ (fun S11 r11 hG h => ?_) h
            replace hF := Fr_t hF hG (by decide) (by decide) (by decide)
            refine ⟨fun c => ?_, fun c => ?_⟩
            · replace h := h.1 c
              exact hk _ _ hF h
            · replace h := h.2 c
              refine fm_isWord _ _ _ _ (fun S13 r13 hG h => ?_) h
              replace hF := Fr_t hF hG (by decide) (by decide) (by decide)
              refine ⟨fun c => ?_, fun c => ?_⟩
              · replace h := h.1 c
                exact hk _ _ hF h
              · replace h := h.2 c
                exact hk _ _ hF h
theorem fm_takeNumber_70 {K K' : mS → Int32 → Prop} {S0 : mS} (hk : ∀ S1 r1, Fr [3, 4] [] [] S0 S1 → K S1 r1 → K' S1 r1) {S : mS} (hF : Fr [3, 4] [] [] S0 S) (h : wp_takeNumber_70 K S) : wp_takeNumber_70 K' S := by
  unfold wp_takeNumber_70 at h ⊢
  intro z5 e
  replace h := h z5 e
  intro S6 e
  replace h := h S6 e
  replace hF := Fr_z hF e (by decide)
  refine ⟨fun c => ?_, fun c => ?_⟩
  · replace h := h.1 c
    intro z8 e
    replace h := h z8 e
    refine ⟨h.1, ?_⟩
    replace h := h.2
    intro z9 e
    replace h := h z9 e
    intro z10 e
    replace h := h z10 e
    exact hk _ _ hF h
  · replace h := h.2 c
    exact hk _ _ hF h
theorem fm_takeNumber_65 {K K' : mS → Int32 → Prop} {S0 : mS} (hk : ∀ S1 r1, Fr [3, 4] [] [] S0 S1 → K S1 r1 → K' S1 r1) {S : mS} (hF : Fr [3, 4] [] [] S0 S) (h : wp_takeNumber_65 K S) : wp_takeNumber_65 K' S := by
  unfold wp_takeNumber_65 at h ⊢
  refine fm_wrong _ _ _ _ (fun S20 hG h => ?_) h
  replace hF := Fr_t hF hG (by decide) (by decide) (by decide)
  exact fm_takeNumber_70 hk hF h
theorem fm_takeNumber_28 {K K' : mS → Int32 → Prop} {S0 : mS} (hk : ∀ S1 r1, Fr [3, 4] [] [] S0 S1 → K S1 r1 → K' S1 r1) {x1 : Int32} {x2 : Int32} {S : mS} (hF : Fr [3, 4] [] [] S0 S) (h : wp_takeNumber_28 K x1 x2 S) : wp_takeNumber_28 K' x1 x2 S := by
  unfold wp_takeNumber_28 at h ⊢
  refine ⟨fun c => ?_, fun c => ?_⟩
  · replace h := h.1 c
    exact fm_takeNumber_70 hk hF h
  · replace h := h.2 c
    refine ⟨h.1, ?_⟩
    replace h := h.2
    intro z12 e
    replace h := h z12 e
    intro z13 e
    replace h := h z13 e
    intro z14 e
    replace h := h z14 e
    refine ⟨fun c => ?_, fun c => ?_⟩
    · replace h := h.1 c
      exact fm_takeNumber_65 hk hF h
    · replace h := h.2 c
      refine ⟨h.1, ?_⟩
      replace h := h.2
      intro z16 e
      replace h := h z16 e
      intro z17 e
      replace h := h z17 e
      intro z18 e
      replace h := h z18 e
      refine ⟨fun c => ?_, fun c => ?_⟩
      · replace h := h.1 c
        exact fm_takeNumber_70 hk hF h
      · replace h := h.2 c
        exact fm_takeNumber_65 hk hF h
theorem fm_takeNumber (a0 : Int32) (a1 : Int32) : FmI [3, 4] [] [] (wp_takeNumber a0 a1) := by
  intro S0 K K' hk h
  have hF : Fr [3, 4] [] [] S0 S0 := Fr_rf
  unfold wp_takeNumber at h ⊢
  refine ⟨fun c => ?_, fun c => ?_⟩
  · replace h := h.1 c
    exact fm_takeNumber_28 hk hF h
  · replace h := h.2 c
    refine ⟨h.1, ?_⟩
    replace h := h.2
    intro z2 e
    replace h := h z2 e
    refine ⟨fun c => ?_, fun c => ?_⟩
    · replace h := h.1 c
      exact fm_takeNumber_28 hk hF h
    · replace h := h.2 c
      refine fm_wrong _ _ _ _ (fun S4 hG h => ?_) h
      replace hF := Fr_t hF hG (by decide) (by decide) (by decide)
      exact fm_takeNumber_70 hk hF h
theorem fm_takeWord (a0 : Int32) : FmV [3, 4] [] [] (wp_takeWord a0) := by
  intro S0 K K' hk h
  have hF : Fr [3, 4] [] [] S0 S0 := Fr_rf
  unfold wp_takeWord at h ⊢
  refine fm_hasWord _ _ _ _ (fun S1 r1 hG h => ?_) h
  replace hF := Fr_t hF hG (by decide) (by decide) (by decide)
  refine ⟨fun c => ?_, fun c => ?_⟩
  · replace h := h.1 c
    exact hk _ hF h
  · replace h := h.2 c
    refine fm_wrong _ _ _ _ (fun S3 hG h => ?_) h
    replace hF := Fr_t hF hG (by decide) (by decide) (by decide)
    exact hk _ hF h
theorem fm_waitTree_256 {r_waitTree : mS → (mS → Prop) → Prop} (hr_waitTree : FmV [3, 4, 7, 8, 11, 18, 19] [8, 12, 13, 14, 15, 16, 17, 18, 19, 20, 21, 46, 47, 48] [9] (r_waitTree)) {K K' : mS → Prop} {S0 : mS} (hk : ∀ S1, Fr [3, 4, 7, 8, 11, 18, 19] [8, 12, 13, 14, 15, 16, 17, 18, 19, 20, 21, 46, 47, 48] [9] S0 S1 → K S1 → K' S1) {S : mS} (hF : Fr [3, 4, 7, 8, 11, 18, 19] [8, 12, 13, 14, 15, 16, 17, 18, 19, 20, 21, 46, 47, 48] [9] S0 S) (h : wp_waitTree_256 r_waitTree K S) : wp_waitTree_256 r_waitTree K' S := by
  unfold wp_waitTree_256 at h ⊢
  intro z28 e
  replace h := h z28 e
  intro S29 e
  replace h := h S29 e
  replace hF := Fr_z hF e (by decide)
  exact hk _ hF h
theorem fm_waitTree_251 {r_waitTree : mS → (mS → Prop) → Prop} (hr_waitTree : FmV [3, 4, 7, 8, 11, 18, 19] [8, 12, 13, 14, 15, 16, 17, 18, 19, 20, 21, 46, 47, 48] [9] (r_waitTree)) {K K' : mS → Prop} {S0 : mS} (hk : ∀ S1, Fr [3, 4, 7, 8, 11, 18, 19] [8, 12, 13, 14, 15, 16, 17, 18, 19, 20, 21, 46, 47, 48] [9] S0 S1 → K S1 → K' S1) {y1 : Int32} {y2 : Int32} {S : mS} (hF : Fr [3, 4, 7, 8, 11, 18, 19] [8, 12, 13, 14, 15, 16, 17, 18, 19, 20, 21, 46, 47, 48] [9] S0 S) (h : wp_waitTree_251 r_waitTree K y1 y2 S) : wp_waitTree_251 r_waitTree K' y1 y2 S := by
  unfold wp_waitTree_251 at h ⊢
  refine fm_emit _ _ _ _ _ _ (fun S44 r44 hG h => ?_) h
  replace hF := Fr_t hF hG (by decide) (by decide) (by decide)
  exact fm_waitTree_256 hr_waitTree hk hF h
theorem fm_waitTree_223 {r_waitTree : mS → (mS → Prop) → Prop} (hr_waitTree : FmV [3, 4, 7, 8, 11, 18, 19] [8, 12, 13, 14, 15, 16, 17, 18, 19, 20, 21, 46, 47, 48] [9] (r_waitTree)) {K K' : mS → Prop} {k197 k197' : Int32 × Int32 × mS → Prop} {S0 : mS} (hk : ∀ S1, Fr [3, 4, 7, 8, 11, 18, 19] [8, 12, 13, 14, 15, 16, 17, 18, 19, 20, 21, 46, 47, 48] [9] S0 S1 → K S1 → K' S1) (hk197 : ∀ u : Int32 × Int32 × mS, Fr [3, 4, 7, 8, 11, 18, 19] [8, 12, 13, 14, 15, 16, 17, 18, 19, 20, 21, 46, 47, 48] [9] S0 u.2.2 → k197 u → k197' u) {x2 : Int32} {x3 : Int32} {S : mS} (hF : Fr [3, 4, 7, 8, 11, 18, 19] [8, 12, 13, 14, 15, 16, 17, 18, 19, 20, 21, 46, 47, 48] [9] S0 S) (h : wp_waitTree_223 r_waitTree K k197 x2 x3 S) : wp_waitTree_223 r_waitTree K' k197' x2 x3 S := by
  unfold wp_waitTree_223 at h ⊢
  refine hr_waitTree _ _ _ (fun S42 hG h => ?_) h
  replace hF := Fr_t hF hG (by decide) (by decide) (by decide)
  intro z43 e
  replace h := h z43 e
  exact hk197 _ hF h
theorem fm_waitTree_197 {r_waitTree : mS → (mS → Prop) → Prop} (hr_waitTree : FmV [3, 4, 7, 8, 11, 18, 19] [8, 12, 13, 14, 15, 16, 17, 18, 19, 20, 21, 46, 47, 48] [9] (r_waitTree)) {K K' : mS → Prop} {k197 k197' : Int32 × Int32 × mS → Prop} {S0 : mS} (hk : ∀ S1, Fr [3, 4, 7, 8, 11, 18, 19] [8, 12, 13, 14, 15, 16, 17, 18, 19, 20, 21, 46, 47, 48] [9] S0 S1 → K S1 → K' S1) (hk197 : ∀ u : Int32 × Int32 × mS, Fr [3, 4, 7, 8, 11, 18, 19] [8, 12, 13, 14, 15, 16, 17, 18, 19, 20, 21, 46, 47, 48] [9] S0 u.2.2 → k197 u → k197' u) {x2 : Int32} {x3 : Int32} {S : mS} (hF : Fr [3, 4, 7, 8, 11, 18, 19] [8, 12, 13, 14, 15, 16, 17, 18, 19, 20, 21, 46, 47, 48] [9] S0 S) (h : wp_waitTree_197 r_waitTree K k197 x2 x3 S) : wp_waitTree_197 r_waitTree K' k197' x2 x3 S := by
  unfold wp_waitTree_197 at h ⊢
  refine fm_hasSign _ _ _ _ (fun S34 r34 hG h => ?_) h
  replace hF := Fr_t hF hG (by decide) (by decide) (by decide)
  refine ⟨fun c => ?_, fun c => ?_⟩
  · replace h := h.1 c
    refine fm_takeSign _ _ _ _ (fun S36 hG h => ?_) h
    replace hF := Fr_t hF hG (by decide) (by decide) (by decide)
    refine ⟨fun c => ?_, fun c => ?_⟩
    · replace h := h.1 c
      exact fm_waitTree_251 hr_waitTree hk hF h
    · replace h := h.2 c
      exact fm_waitTree_251 hr_waitTree hk hF h
  · replace h := h.2 c
    refine ⟨fun c => ?_, fun c => ?_⟩
    · replace h := h.1 c
      exact fm_waitTree_223 hr_waitTree hk hk197 hF h
    · replace h := h.2 c
      refine fm_isWait _ _ _ (fun S39 r39 hG h => ?_) h
      replace hF := Fr_t hF hG (by decide) (by decide) (by decide)
      refine ⟨fun c => ?_, fun c => ?_⟩
      · replace h := h.1 c
        exact fm_waitTree_223 hr_waitTree hk hk197 hF h
      · replace h := h.2 c
        refine fm_wrong _ _ _ _ (fun S41 hG h => ?_) h
        replace hF := Fr_t hF hG (by decide) (by decide) (by decide)
        exact fm_waitTree_223 hr_waitTree hk hk197 hF h
theorem fml_waitTree_197 {r_waitTree : mS → (mS → Prop) → Prop} (hr_waitTree : FmV [3, 4, 7, 8, 11, 18, 19] [8, 12, 13, 14, 15, 16, 17, 18, 19, 20, 21, 46, 47, 48] [9] (r_waitTree)) {K K' : mS → Prop} {S0 : mS} (hk : ∀ S1, Fr [3, 4, 7, 8, 11, 18, 19] [8, 12, 13, 14, 15, 16, 17, 18, 19, 20, 21, 46, 47, 48] [9] S0 S1 → K S1 → K' S1) : ∀ (n : Nat) (u : Int32 × Int32 × mS), Fr [3, 4, 7, 8, 11, 18, 19] [8, 12, 13, 14, 15, 16, 17, 18, 19, 20, 21, 46, 47, 48] [9] S0 u.2.2 → it (ls_waitTree_197 r_waitTree K) n u → it (ls_waitTree_197 r_waitTree K') n u := by
  intro n
  induction n with
  | zero => exact fun _ _ h => h
  | succ n ih => exact fun u hF h => fm_waitTree_197 hr_waitTree hk ih hF h
theorem fm_waitTree_180 {r_waitTree : mS → (mS → Prop) → Prop} (hr_waitTree : FmV [3, 4, 7, 8, 11, 18, 19] [8, 12, 13, 14, 15, 16, 17, 18, 19, 20, 21, 46, 47, 48] [9] (r_waitTree)) {K K' : mS → Prop} {S0 : mS} (hk : ∀ S1, Fr [3, 4, 7, 8, 11, 18, 19] [8, 12, 13, 14, 15, 16, 17, 18, 19, 20, 21, 46, 47, 48] [9] S0 S1 → K S1 → K' S1) {x2 : Int32} {y1 : Int32} {y2 : Int32} {S : mS} (hF : Fr [3, 4, 7, 8, 11, 18, 19] [8, 12, 13, 14, 15, 16, 17, 18, 19, 20, 21, 46, 47, 48] [9] S0 S) (h : wp_waitTree_180 r_waitTree K x2 y1 y2 S) : wp_waitTree_180 r_waitTree K' x2 y1 y2 S := by
  unfold wp_waitTree_180 at h ⊢
  refine fm_emit _ _ _ _ _ _ (fun S31 r31 hG h => ?_) h
  replace hF := Fr_t hF hG (by decide) (by decide) (by decide)
  refine fm_takeSign _ _ _ _ (fun S32 hG h => ?_) h
  replace hF := Fr_t hF hG (by decide) (by decide) (by decide)
  refine hr_waitTree _ _ _ (fun S33 hG h => ?_) h
  replace hF := Fr_t hF hG (by decide) (by decide) (by decide)
  obtain ⟨n9, h⟩ := h
  exact ⟨n9, fml_waitTree_197 hr_waitTree hk n9 _ hF h⟩
theorem fm_waitTree_168 {r_waitTree : mS → (mS → Prop) → Prop} (hr_waitTree : FmV [3, 4, 7, 8, 11, 18, 19] [8, 12, 13, 14, 15, 16, 17, 18, 19, 20, 21, 46, 47, 48] [9] (r_waitTree)) {K K' : mS → Prop} {S0 : mS} (hk : ∀ S1, Fr [3, 4, 7, 8, 11, 18, 19] [8, 12, 13, 14, 15, 16, 17, 18, 19, 20, 21, 46, 47, 48] [9] S0 S1 → K S1 → K' S1) {x2 : Int32} {S : mS} (hF : Fr [3, 4, 7, 8, 11, 18, 19] [8, 12, 13, 14, 15, 16, 17, 18, 19, 20, 21, 46, 47, 48] [9] S0 S) (h : wp_waitTree_168 r_waitTree K x2 S) : wp_waitTree_168 r_waitTree K' x2 S := by
  unfold wp_waitTree_168 at h ⊢
  refine ⟨fun c => ?_, fun c => ?_⟩
  · replace h := h.1 c
    exact fm_waitTree_180 hr_waitTree hk hF h
  · replace h := h.2 c
    exact fm_waitTree_180 hr_waitTree hk hF h
theorem fm_waitTree {r_waitTree : mS → (mS → Prop) → Prop} (hr_waitTree : FmV [3, 4, 7, 8, 11, 18, 19] [8, 12, 13, 14, 15, 16, 17, 18, 19, 20, 21, 46, 47, 48] [9] (r_waitTree)) : FmV [3, 4, 7, 8, 11, 18, 19] [8, 12, 13, 14, 15, 16, 17, 18, 19, 20, 21, 46, 47, 48] [9] (wp_waitTree r_waitTree) := by
  intro S0 K K' hk h
  have hF : Fr [3, 4, 7, 8, 11, 18, 19] [8, 12, 13, 14, 15, 16, 17, 18, 19, 20, 21, 46, 47, 48] [9] S0 S0 := Fr_rf
  unfold wp_waitTree at h ⊢
  refine fm_isWait _ _ _ (fun S1 r1 hG h => ?_) h
  replace hF := Fr_t hF hG (by decide) (by decide) (by decide)
  refine fm_within _ _ _ _ (fun S2 hG h => ?_) h
  replace hF := Fr_t hF hG (by decide) (by decide) (by decide)
  refine ⟨fun c => ?_, fun c => ?_⟩
  · replace h := h.1 c
    refine fm_emit _ _ _ _ _ _ (fun S4 r4 hG h => ?_) h
    replace hF := Fr_t hF hG (by decide) (by decide) (by decide)
    refine fm_hasWord _ _ _ _ (fun S5 r5 hG h => ?_) h
    replace hF := Fr_t hF hG (by decide) (by decide) (by decide)
    refine ⟨fun c => ?_, fun c => ?_⟩
    · replace h := h.1 c
      refine fm_hasWord _ _ _ _ (fun S7 r7 hG h => ?_) h
      replace hF := Fr_t hF hG (by decide) (by decide) (by decide)
      refine ⟨fun c => ?_, fun c => ?_⟩
      · replace h := h.1 c
        refine fm_hasWord _ _ _ _ (fun S9 r9 hG h => ?_) h
        replace hF := Fr_t hF hG (by decide) (by decide) (by decide)
        refine ⟨fun c => ?_, fun c => ?_⟩
        · replace h := h.1 c
          refine fm_hasWord _ _ _ _ (fun S11 r11 hG h => ?_) h
          replace hF := Fr_t hF hG (by decide) (by decide) (by decide)
          refine ⟨fun c => ?_, fun c => ?_⟩
          · replace h := h.1 c
            refine fm_hasWord _ _ _ _ (fun S13 r13 hG h => ?_) h
            replace hF := Fr_t hF hG (by decide) (by decide) (by decide)
            refine ⟨fun c => ?_, fun c => ?_⟩
            · replace h := h.1 c
              refine fm_hasWord _ _ _ _ (fun S15 r15 hG h => ?_) h
              replace hF := Fr_t hF hG (by decide) (by decide) (by decide)
              refine ⟨fun c => ?_, fun c => ?_⟩
              · replace h := h.1 c
                exact fm_waitTree_168 hr_waitTree hk hF h
              · replace h := h.2 c
                refine fm_takeWord _ _ _ _ (fun S17 hG h => ?_) h
                replace hF := Fr_t hF hG (by decide) (by decide) (by decide)
                exact fm_waitTree_168 hr_waitTree hk hF h
            · replace h := h.2 c
              refine fq_expression _ _ _ (fun S18 hG h => ?_) h
              replace hF := Fr_t hF hG (by decide) (by decide) (by decide)
              refine fm_emit _ _ _ _ _ _ (fun S19 r19 hG h => ?_) h
              replace hF := Fr_t hF hG (by decide) (by decide) (by decide)
              refine hr_waitTree _ _ _ (fun S20 hG h => ?_) h
              replace hF := Fr_t hF hG (by decide) (by decide) (by decide)
              refine fm_emit _ _ _ _ _ _ (fun S21 r21 hG h => ?_) h
              replace hF := Fr_t hF hG (by decide) (by decide) (by decide)
              exact fm_waitTree_256 hr_waitTree hk hF h
          · replace h := h.2 c
            refine fm_child _ _ _ (fun S22 hG h => ?_) h
            replace hF := Fr_t hF hG (by decide) (by decide) (by decide)
            exact fm_waitTree_256 hr_waitTree hk hF h
        · replace h := h.2 c
          refine fm_emit _ _ _ _ _ _ (fun S23 r23 hG h => ?_) h
          replace hF := Fr_t hF hG (by decide) (by decide) (by decide)
          exact fm_waitTree_256 hr_waitTree hk hF h
      · replace h := h.2 c
        refine fq_expression _ _ _ (fun S24 hG h => ?_) h
        replace hF := Fr_t hF hG (by decide) (by decide) (by decide)
        refine fm_emit _ _ _ _ _ _ (fun S25 r25 hG h => ?_) h
        replace hF := Fr_t hF hG (by decide) (by decide) (by decide)
        exact fm_waitTree_256 hr_waitTree hk hF h
    · replace h := h.2 c
      refine fm_takeNumber _ _ _ _ _ (fun S26 r26 hG h => ?_) h
      replace hF := Fr_t hF hG (by decide) (by decide) (by decide)
      refine fm_emit _ _ _ _ _ _ (fun S27 r27 hG h => ?_) h
      replace hF := Fr_t hF hG (by decide) (by decide) (by decide)
      exact fm_waitTree_256 hr_waitTree hk hF h
  · replace h := h.2 c
    exact hk _ hF h
theorem fr_waitTree : ∀ n : Nat, (FmV [3, 4, 7, 8, 11, 18, 19] [8, 12, 13, 14, 15, 16, 17, 18, 19, 20, 21, 46, 47, 48] [9] ((wr_waitTree n))) := by
  intro n
  induction n with
  | zero => exact fun _ _ _ _ h => h
  | succ n ih => exact fm_waitTree ih
theorem fq_waitTree : FmV [3, 4, 7, 8, 11, 18, 19] [8, 12, 13, 14, 15, 16, 17, 18, 19, 20, 21, 46, 47, 48] [9] (wq_waitTree) := (fr_waitTree 12)
theorem fm_wait_124 {K K' : mS → Prop} {S0 : mS} (hk : ∀ S1, Fr [3, 4, 7, 8, 11, 18, 19] [8, 10, 12, 13, 14, 15, 16, 17, 18, 19, 20, 21, 24, 46, 47, 48] [9] S0 S1 → K S1 → K' S1) {x1 : Int32} {S : mS} (hF : Fr [3, 4, 7, 8, 11, 18, 19] [8, 10, 12, 13, 14, 15, 16, 17, 18, 19, 20, 21, 24, 46, 47, 48] [9] S0 S) (h : wp_wait_124 K x1 S) : wp_wait_124 K' x1 S := by
  unfold wp_wait_124 at h ⊢
  refine ⟨fun c => ?_, fun c => ?_⟩
  · replace h := h.1 c
    exact hk _ hF h
  · replace h := h.2 c
    refine fm_then _ _ _ _ _ (fun S21 r21 hG h => ?_) h
    replace hF := Fr_t hF hG (by decide) (by decide) (by decide)
    exact hk _ hF h
theorem fm_wait_19 {K K' : mS → Prop} {S0 : mS} (hk : ∀ S1, Fr [3, 4, 7, 8, 11, 18, 19] [8, 10, 12, 13, 14, 15, 16, 17, 18, 19, 20, 21, 24, 46, 47, 48] [9] S0 S1 → K S1 → K' S1) {x1 : Int32} {S : mS} (hF : Fr [3, 4, 7, 8, 11, 18, 19] [8, 10, 12, 13, 14, 15, 16, 17, 18, 19, 20, 21, 24, 46, 47, 48] [9] S0 S) (h : wp_wait_19 K x1 S) : wp_wait_19 K' x1 S := by
  unfold wp_wait_19 at h ⊢
  intro z4 e
  replace h := h z4 e
  intro S5 e
  replace h := h S5 e
  replace hF := Fr_z hF e (by decide)
  refine ⟨h.1, ?_⟩
  replace h := h.2
  intro z6 e
  replace h := h z6 e
  refine ⟨h.1, ?_⟩
  replace h := h.2
  intro z7 e
  replace h := h z7 e
  intro z8 e
  replace h := h z8 e
  refine ⟨h.1, ?_⟩
  replace h := h.2
  intro S9 e
  replace h := h S9 e
  replace hF := Fr_f hF e (by decide)
  refine fm_emit _ _ _ _ _ _ (fun S10 r10 hG h => ?_) h
  replace hF := Fr_t hF hG (by decide) (by decide) (by decide)
  refine fq_waitTree _ _ _ (fun S11 hG h => ?_) h
  replace hF := Fr_t hF hG (by decide) (by decide) (by decide)
  refine fm_emit _ _ _ _ _ _ (fun S12 r12 hG h => ?_) h
  replace hF := Fr_t hF hG (by decide) (by decide) (by decide)
  refine ⟨h.1, ?_⟩
  replace h := h.2
  intro S13 e
  replace h := h S13 e
  replace hF := Fr_f hF e (by decide)
  refine ⟨h.1, ?_⟩
  replace h := h.2
  intro S14 e
  replace h := h S14 e
  replace hF := Fr_f hF e (by decide)
  refine fm_then _ _ _ _ _ (fun S15 r15 hG h => ?_) h
  replace hF := Fr_t hF hG (by decide) (by decide) (by decide)
  refine ⟨fun c => ?_, fun c => ?_⟩
  · replace h := h.1 c
    exact fm_wait_124 hk hF h
  · replace h := h.2 c
    intro z17 e
    replace h := h z17 e
    intro z18 e
    replace h := h z18 e
    refine ⟨h.1, ?_⟩
    replace h := h.2
    intro S19 e
    replace h := h S19 e
    replace hF := Fr_f hF e (by decide)
    exact fm_wait_124 hk hF h
theorem fm_wait (a0 : Int32) : FmV [3, 4, 7, 8, 11, 18, 19] [8, 10, 12, 13, 14, 15, 16, 17, 18, 19, 20, 21, 24, 46, 47, 48] [9] (wp_wait a0) := by
  intro S0 K K' hk h
  have hF : Fr [3, 4, 7, 8, 11, 18, 19] [8, 10, 12, 13, 14, 15, 16, 17, 18, 19, 20, 21, 24, 46, 47, 48] [9] S0 S0 := Fr_rf
  unfold wp_wait at h ⊢
  refine ⟨h.1, ?_⟩
  replace h := h.2
  intro z1 e
  replace h := h z1 e
  refine ⟨fun c => ?_, fun c => ?_⟩
  · replace h := h.1 c
    exact fm_wait_19 hk hF h
  · replace h := h.2 c
    refine fm_wrong _ _ _ _ (fun S3 hG h => ?_) h
    replace hF := Fr_t hF hG (by decide) (by decide) (by decide)
    exact fm_wait_19 hk hF h
theorem fm_sets : FmV [3, 4, 7, 8, 11, 18, 19] [8, 10, 12, 13, 14, 15, 16, 17, 18, 19, 20, 21, 24, 46, 47, 48] [9] (wp_sets) := by
  intro S0 K K' hk h
  have hF : Fr [3, 4, 7, 8, 11, 18, 19] [8, 10, 12, 13, 14, 15, 16, 17, 18, 19, 20, 21, 24, 46, 47, 48] [9] S0 S0 := Fr_rf
  unfold wp_sets at h ⊢
  refine fm_isName _ _ _ (fun S1 r1 hG h => ?_) h
  replace hF := Fr_t hF hG (by decide) (by decide) (by decide)
  refine ⟨fun c => ?_, fun c => ?_⟩
  · replace h := h.1 c
    refine fm_takeCell _ _ _ (fun S3 r3 hG h => ?_) h
    replace hF := Fr_t hF hG (by decide) (by decide) (by decide)
    refine fm_takeSign _ _ _ _ (fun S4 hG h => ?_) h
    replace hF := Fr_t hF hG (by decide) (by decide) (by decide)
    refine fm_isWord _ _ _ _ (fun S5 r5 hG h => ?_) h
    replace hF := Fr_t hF hG (by decide) (by decide) (by decide)
    refine ⟨fun c => ?_, fun c => ?_⟩
    · replace h := h.1 c
      refine fq_expression _ _ _ (fun S7 hG h => ?_) h
      replace hF := Fr_t hF hG (by decide) (by decide) (by decide)
      refine fm_emit _ _ _ _ _ _ (fun S8 r8 hG h => ?_) h
      replace hF := Fr_t hF hG (by decide) (by decide) (by decide)
      refine fm_then _ _ _ _ _ (fun S9 r9 hG h => ?_) h
      replace hF := Fr_t hF hG (by decide) (by decide) (by decide)
      exact hk _ hF h
    · replace h := h.2 c
      refine fm_wait _ _ _ _ (fun S10 hG h => ?_) h
      replace hF := Fr_t hF hG (by decide) (by decide) (by decide)
      exact hk _ hF h
  · replace h := h.2 c
    refine fm_wrong _ _ _ _ (fun S11 hG h => ?_) h
    replace hF := Fr_t hF hG (by decide) (by decide) (by decide)
    exact hk _ hF h
theorem fm_plain_115 {K K' : mS → Prop} {S0 : mS} (hk : ∀ S1, Fr [3, 4, 7, 8, 11, 18, 19] [8, 10, 12, 13, 14, 15, 16, 17, 18, 19, 20, 21, 24, 37, 38, 39, 46, 47, 48] [9] S0 S1 → K S1 → K' S1) {S : mS} (hF : Fr [3, 4, 7, 8, 11, 18, 19] [8, 10, 12, 13, 14, 15, 16, 17, 18, 19, 20, 21, 24, 37, 38, 39, 46, 47, 48] [9] S0 S) (h : wp_plain_115 K S) : wp_plain_115 K' S := by
  unfold wp_plain_115 at h ⊢
  intro z23 e
  replace h := h z23 e
  intro S24 e
  replace h := h S24 e
  replace hF := Fr_z hF e (by decide)
  refine fq_expression _ _ _ (fun S25 hG h => ?_) h
  replace hF := Fr_t hF hG (by decide) (by decide) (by decide)
  refine fm_emit _ _ _ _ _ _ (fun S26 r26 hG h => ?_) h
  replace hF := Fr_t hF hG (by decide) (by decide) (by decide)
  refine fm_then _ _ _ _ _ (fun S27 r27 hG h => ?_) h
  replace hF := Fr_t hF hG (by decide) (by decide) (by decide)
  refine fm_marks_r _ _ _ _ (fun S28 hG h => ?_) h
  replace hF := Fr_t hF hG (by decide) (by decide) (by decide)
  intro S29 e
  replace h := h S29 e
  replace hF := Fr_z hF e (by decide)
  exact hk _ hF h
theorem fm_plain_81 {K K' : mS → Prop} {S0 : mS} (hk : ∀ S1, Fr [3, 4, 7, 8, 11, 18, 19] [8, 10, 12, 13, 14, 15, 16, 17, 18, 19, 20, 21, 24, 37, 38, 39, 46, 47, 48] [9] S0 S1 → K S1 → K' S1) {S : mS} (hF : Fr [3, 4, 7, 8, 11, 18, 19] [8, 10, 12, 13, 14, 15, 16, 17, 18, 19, 20, 21, 24, 37, 38, 39, 46, 47, 48] [9] S0 S) (h : wp_plain_81 K S) : wp_plain_81 K' S := by
  unfold wp_plain_81 at h ⊢
  refine fm_isWord _ _ _ _ (fun S30 r30 hG h => ?_) h
  replace hF := Fr_t hF hG (by decide) (by decide) (by decide)
  refine fm_leaves _ _ _ _ (fun S31 hG h => ?_) h
  replace hF := Fr_t hF hG (by decide) (by decide) (by decide)
  exact hk _ hF h
theorem fm_plain : FmV [3, 4, 7, 8, 11, 18, 19] [8, 10, 12, 13, 14, 15, 16, 17, 18, 19, 20, 21, 24, 37, 38, 39, 46, 47, 48] [9] (wp_plain) := by
  intro S0 K K' hk h
  have hF : Fr [3, 4, 7, 8, 11, 18, 19] [8, 10, 12, 13, 14, 15, 16, 17, 18, 19, 20, 21, 24, 37, 38, 39, 46, 47, 48] [9] S0 S0 := Fr_rf
  unfold wp_plain at h ⊢
  refine fm_hasWord _ _ _ _ (fun S1 r1 hG h => ?_) h
  replace hF := Fr_t hF hG (by decide) (by decide) (by decide)
  refine ⟨fun c => ?_, fun c => ?_⟩
  · replace h := h.1 c
    refine fm_hasWord _ _ _ _ (fun S3 r3 hG h => ?_) h
    replace hF := Fr_t hF hG (by decide) (by decide) (by decide)
    refine ⟨fun c => ?_, fun c => ?_⟩
    · replace h := h.1 c
      refine fm_isWord _ _ _ _ (fun S5 r5 hG h => ?_) h
      replace hF := Fr_t hF hG (by decide) (by decide) (by decide)
      refine ⟨fun c => ?_, fun c => ?_⟩
      · replace h := h.1 c
        exact fm_plain_81 hk hF h
      · replace h := h.2 c
        refine fm_isWord _ _ _ _ (fun S7 r7 hG h => ?_) h
        replace hF := Fr_t hF hG (by decide) (by decide) (by decide)
        refine ⟨fun c => ?_, fun c => ?_⟩
        · replace h := h.1 c
          refine fm_isWord _ _ _ _ (fun S9 r9 hG h => ?_) h
          replace hF := Fr_t hF hG (by decide) (by decide) (by decide)
          refine ⟨fun c => ?_, fun c => ?_⟩
          · replace h := h.1 c
            refine fm_isWord _ _ _ _ (fun S11 r11 hG h => ?_) h
            replace hF := Fr_t hF hG (by decide) (by decide) (by decide)
            refine ⟨fun c => ?_, fun c => ?_⟩
            · replace h := h.1 c
              refine fm_sets _ _ _ (fun S13 hG h => ?_) h
              replace hF := Fr_t hF hG (by decide) (by decide) (by decide)
              exact hk _ hF h
            · replace h := h.2 c
              refine fm_wait _ _ _ _ (fun S14 hG h => ?_) h
              replace hF := Fr_t hF hG (by decide) (by decide) (by decide)
              exact hk _ hF h
          · replace h := h.2 c
            refine ⟨fun c => ?_, fun c => ?_⟩
            · replace h := h.1 c
              exact fm_plain_115 hk hF h
            · replace h := h.2 c
              refine fm_wrong _ _ _ _ (fun S16 hG h => ?_) h
              replace hF := Fr_t hF hG (by decide) (by decide) (by decide)
              exact fm_plain_115 hk hF h
        · replace h := h.2 c
          exact fm_plain_81 hk hF h
    · replace h := h.2 c
      refine fm_takeNumber _ _ _ _ _ (fun S17 r17 hG h => ?_) h
      replace hF := Fr_t hF hG (by decide) (by decide) (by decide)
      refine fm_emit _ _ _ _ _ _ (fun S18 r18 hG h => ?_) h
      replace hF := Fr_t hF hG (by decide) (by decide) (by decide)
      refine fm_then _ _ _ _ _ (fun S19 r19 hG h => ?_) h
      replace hF := Fr_t hF hG (by decide) (by decide) (by decide)
      intro S20 e
      replace h := h S20 e
      replace hF := Fr_z hF e (by decide)
      exact hk _ hF h
  · replace h := h.2 c
    refine fq_expression _ _ _ (fun S21 hG h => ?_) h
    replace hF := Fr_t hF hG (by decide) (by decide) (by decide)
    refine fm_emit _ _ _ _ _ _ (fun S22 r22 hG h => ?_) h
    replace hF := Fr_t hF hG (by decide) (by decide) (by decide)
    exact hk _ hF h
theorem fm_inBlock {r_block : mS → (mS → Prop) → Prop} (hr_block : FmV [3, 4, 7, 8, 9, 10, 11, 13, 14, 15, 16, 17, 18, 19, 20] [8, 10, 12, 13, 14, 15, 16, 17, 18, 19, 20, 21, 24, 25, 26, 27, 28, 29, 30, 31, 32, 33, 34, 35, 36, 37, 38, 39, 40, 41, 42, 43, 44, 45, 46, 47, 48] [9] (r_block)) (a0 : Int32) (a1 : Int32) : FmV [3, 4, 7, 8, 9, 10, 11, 13, 14, 15, 16, 17, 18, 19, 20] [8, 10, 12, 13, 14, 15, 16, 17, 18, 19, 20, 21, 24, 25, 26, 27, 28, 29, 30, 31, 32, 33, 34, 35, 36, 37, 38, 39, 40, 41, 42, 43, 44, 45, 46, 47, 48] [9] (wp_inBlock r_block a0 a1) := by
  intro S0 K K' hk h
  have hF : Fr [3, 4, 7, 8, 9, 10, 11, 13, 14, 15, 16, 17, 18, 19, 20] [8, 10, 12, 13, 14, 15, 16, 17, 18, 19, 20, 21, 24, 25, 26, 27, 28, 29, 30, 31, 32, 33, 34, 35, 36, 37, 38, 39, 40, 41, 42, 43, 44, 45, 46, 47, 48] [9] S0 S0 := Fr_rf
  unfold wp_inBlock at h ⊢
  intro S1 e
  replace h := h S1 e
  replace hF := Fr_z hF e (by decide)
  intro S2 e
  replace h := h S2 e
  replace hF := Fr_z hF e (by decide)
  refine hr_block _ _ _ (fun S3 hG h => ?_) h
  replace hF := Fr_t hF hG (by decide) (by decide) (by decide)
  intro S4 e
  replace h := h S4 e
  replace hF := Fr_z hF e (by decide)
  intro S5 e
  replace h := h S5 e
  replace hF := Fr_z hF e (by decide)
  exact hk _ hF h
theorem fm_trial_425 {r_block : mS → (mS → Prop) → Prop} (hr_block : FmV [3, 4, 7, 8, 9, 10, 11, 13, 14, 15, 16, 17, 18, 19, 20] [8, 10, 12, 13, 14, 15, 16, 17, 18, 19, 20, 21, 24, 25, 26, 27, 28, 29, 30, 31, 32, 33, 34, 35, 36, 37, 38, 39, 40, 41, 42, 43, 44, 45, 46, 47, 48] [9] (r_block)) {K K' : mS → Prop} {S0 : mS} (hk : ∀ S1, Fr [3, 4, 7, 8, 9, 10, 11, 13, 14, 15, 16, 17, 18, 19, 20] [8, 10, 12, 13, 14, 15, 16, 17, 18, 19, 20, 21, 24, 25, 26, 27, 28, 29, 30, 31, 32, 33, 34, 35, 36, 37, 38, 39, 40, 41, 42, 43, 44, 45, 46, 47, 48] [9] S0 S1 → K S1 → K' S1) {x1 : Int32} {S : mS} (hF : Fr [3, 4, 7, 8, 9, 10, 11, 13, 14, 15, 16, 17, 18, 19, 20] [8, 10, 12, 13, 14, 15, 16, 17, 18, 19, 20, 21, 24, 25, 26, 27, 28, 29, 30, 31, 32, 33, 34, 35, 36, 37, 38, 39, 40, 41, 42, 43, 44, 45, 46, 47, 48] [9] S0 S) (h : wp_trial_425 r_block K x1 S) : wp_trial_425 r_block K' x1 S := by
  unfold wp_trial_425 at h ⊢
  intro z59 e
  replace h := h z59 e
  intro S60 e
  replace h := h S60 e
  replace hF := Fr_z hF e (by decide)
  refine ⟨h.1, ?_⟩
  replace h := h.2
  intro S61 e
  replace h := h S61 e
  replace hF := Fr_f hF e (by decide)
  refine ⟨h.1, ?_⟩
  replace h := h.2
  intro z62 e
  replace h := h z62 e
  intro S63 e
  replace h := h S63 e
  replace hF := Fr_z hF e (by decide)
  exact hk _ hF h
theorem fm_trial_394 {r_block : mS → (mS → Prop) → Prop} (hr_block : FmV [3, 4, 7, 8, 9, 10, 11, 13, 14, 15, 16, 17, 18, 19, 20] [8, 10, 12, 13, 14, 15, 16, 17, 18, 19, 20, 21, 24, 25, 26, 27, 28, 29, 30, 31, 32, 33, 34, 35, 36, 37, 38, 39, 40, 41, 42, 43, 44, 45, 46, 47, 48] [9] (r_block)) {K K' : mS → Prop} {S0 : mS} (hk : ∀ S1, Fr [3, 4, 7, 8, 9, 10, 11, 13, 14, 15, 16, 17, 18, 19, 20] [8, 10, 12, 13, 14, 15, 16, 17, 18, 19, 20, 21, 24, 25, 26, 27, 28, 29, 30, 31, 32, 33, 34, 35, 36, 37, 38, 39, 40, 41, 42, 43, 44, 45, 46, 47, 48] [9] S0 S1 → K S1 → K' S1) {x1 : Int32} {x3 : Int32} {x4 : Int32} {S : mS} (hF : Fr [3, 4, 7, 8, 9, 10, 11, 13, 14, 15, 16, 17, 18, 19, 20] [8, 10, 12, 13, 14, 15, 16, 17, 18, 19, 20, 21, 24, 25, 26, 27, 28, 29, 30, 31, 32, 33, 34, 35, 36, 37, 38, 39, 40, 41, 42, 43, 44, 45, 46, 47, 48] [9] S0 S) (h : wp_trial_394 r_block K x1 x3 x4 S) : wp_trial_394 r_block K' x1 x3 x4 S := by
  unfold wp_trial_394 at h ⊢
  intro S64 e
  replace h := h S64 e
  replace hF := Fr_z hF e (by decide)
  refine ⟨h.1, ?_⟩
  replace h := h.2
  intro z65 e
  replace h := h z65 e
  refine fm_lead _ _ _ _ (fun S66 hG h => ?_) h
  replace hF := Fr_t hF hG (by decide) (by decide) (by decide)
  intro S67 e
  replace h := h S67 e
  replace hF := Fr_z hF e (by decide)
  refine ⟨h.1, ?_⟩
  replace h := h.2
  intro z68 e
  replace h := h z68 e
  refine fm_lead _ _ _ _ (fun S69 hG h => ?_) h
  replace hF := Fr_t hF hG (by decide) (by decide) (by decide)
  exact fm_trial_425 hr_block hk hF h
theorem fm_trial_230 {r_block : mS → (mS → Prop) → Prop} (hr_block : FmV [3, 4, 7, 8, 9, 10, 11, 13, 14, 15, 16, 17, 18, 19, 20] [8, 10, 12, 13, 14, 15, 16, 17, 18, 19, 20, 21, 24, 25, 26, 27, 28, 29, 30, 31, 32, 33, 34, 35, 36, 37, 38, 39, 40, 41, 42, 43, 44, 45, 46, 47, 48] [9] (r_block)) {K K' : mS → Prop} {S0 : mS} (hk : ∀ S1, Fr [3, 4, 7, 8, 9, 10, 11, 13, 14, 15, 16, 17, 18, 19, 20] [8, 10, 12, 13, 14, 15, 16, 17, 18, 19, 20, 21, 24, 25, 26, 27, 28, 29, 30, 31, 32, 33, 34, 35, 36, 37, 38, 39, 40, 41, 42, 43, 44, 45, 46, 47, 48] [9] S0 S1 → K S1 → K' S1) {x1 : Int32} {x3 : Int32} {x4 : Int32} {S : mS} (hF : Fr [3, 4, 7, 8, 9, 10, 11, 13, 14, 15, 16, 17, 18, 19, 20] [8, 10, 12, 13, 14, 15, 16, 17, 18, 19, 20, 21, 24, 25, 26, 27, 28, 29, 30, 31, 32, 33, 34, 35, 36, 37, 38, 39, 40, 41, 42, 43, 44, 45, 46, 47, 48] [9] S0 S) (h : wp_trial_230 r_block K x1 x3 x4 S) : wp_trial_230 r_block K' x1 x3 x4 S := by
  unfold wp_trial_230 at h ⊢
  refine fm_hasWord _ _ _ _ (fun S33 r33 hG h => ?_) h
  replace hF := Fr_t hF hG (by decide) (by decide) (by decide)
  refine ⟨fun c => ?_, fun c => ?_⟩
  · replace h := h.1 c
    refine ⟨h.1, ?_⟩
    replace h := h.2
    intro z35 e
    replace h := h z35 e
    refine ⟨fun c => ?_, fun c => ?_⟩
    · replace h := h.1 c
      exact fm_trial_394 hr_block hk hF h
    · replace h := h.2 c
      refine fm_wrong _ _ _ _ (fun S37 hG h => ?_) h
      replace hF := Fr_t hF hG (by decide) (by decide) (by decide)
      exact fm_trial_394 hr_block hk hF h
  · replace h := h.2 c
    refine ⟨h.1, ?_⟩
    replace h := h.2
    intro S38 e
    replace h := h S38 e
    replace hF := Fr_f hF e (by decide)
    intro S39 e
    replace h := h S39 e
    replace hF := Fr_z hF e (by decide)
    refine ⟨h.1, ?_⟩
    replace h := h.2
    intro z40 e
    replace h := h z40 e
    refine fm_lead _ _ _ _ (fun S41 hG h => ?_) h
    replace hF := Fr_t hF hG (by decide) (by decide) (by decide)
    intro S42 e
    replace h := h S42 e
    replace hF := Fr_z hF e (by decide)
    refine ⟨h.1, ?_⟩
    replace h := h.2
    intro z43 e
    replace h := h z43 e
    refine fm_lead _ _ _ _ (fun S44 hG h => ?_) h
    replace hF := Fr_t hF hG (by decide) (by decide) (by decide)
    refine ⟨h.1, ?_⟩
    replace h := h.2
    intro z45 e
    replace h := h z45 e
    intro S46 e
    replace h := h S46 e
    replace hF := Fr_z hF e (by decide)
    refine ⟨h.1, ?_⟩
    replace h := h.2
    intro S47 e
    replace h := h S47 e
    replace hF := Fr_f hF e (by decide)
    intro S48 e
    replace h := h S48 e
    replace hF := Fr_z hF e (by decide)
    intro S49 e
    replace h := h S49 e
    replace hF := Fr_z hF e (by decide)
    refine fm_inBlock hr_block _ _ _ _ _ (fun S50 hG h => ?_) h
    replace hF := Fr_t hF hG (by decide) (by decide) (by decide)
    refine ⟨h.1, ?_⟩
    replace h := h.2
    intro S51 e
    replace h := h S51 e
    replace hF := Fr_z hF e (by decide)
    refine ⟨h.1, ?_⟩
    replace h := h.2
    intro S52 e
    replace h := h S52 e
    replace hF := Fr_z hF e (by decide)
    refine fm_emit _ _ _ _ _ _ (fun S53 r53 hG h => ?_) h
    replace hF := Fr_t hF hG (by decide) (by decide) (by decide)
    refine fm_act _ _ _ _ _ (fun S54 r54 hG h => ?_) h
    replace hF := Fr_t hF hG (by decide) (by decide) (by decide)
    refine fm_lead _ _ _ _ (fun S55 hG h => ?_) h
    replace hF := Fr_t hF hG (by decide) (by decide) (by decide)
    intro S56 e
    replace h := h S56 e
    replace hF := Fr_z hF e (by decide)
    refine ⟨h.1, ?_⟩
    replace h := h.2
    intro z57 e
    replace h := h z57 e
    refine fm_lead _ _ _ _ (fun S58 hG h => ?_) h
    replace hF := Fr_t hF hG (by decide) (by decide) (by decide)
    exact fm_trial_425 hr_block hk hF h
theorem fm_trial {r_block : mS → (mS → Prop) → Prop} (hr_block : FmV [3, 4, 7, 8, 9, 10, 11, 13, 14, 15, 16, 17, 18, 19, 20] [8, 10, 12, 13, 14, 15, 16, 17, 18, 19, 20, 21, 24, 25, 26, 27, 28, 29, 30, 31, 32, 33, 34, 35, 36, 37, 38, 39, 40, 41, 42, 43, 44, 45, 46, 47, 48] [9] (r_block)) : FmV [3, 4, 7, 8, 9, 10, 11, 13, 14, 15, 16, 17, 18, 19, 20] [8, 10, 12, 13, 14, 15, 16, 17, 18, 19, 20, 21, 24, 25, 26, 27, 28, 29, 30, 31, 32, 33, 34, 35, 36, 37, 38, 39, 40, 41, 42, 43, 44, 45, 46, 47, 48] [9] (wp_trial r_block) := by
  intro S0 K K' hk h
  have hF : Fr [3, 4, 7, 8, 9, 10, 11, 13, 14, 15, 16, 17, 18, 19, 20] [8, 10, 12, 13, 14, 15, 16, 17, 18, 19, 20, 21, 24, 25, 26, 27, 28, 29, 30, 31, 32, 33, 34, 35, 36, 37, 38, 39, 40, 41, 42, 43, 44, 45, 46, 47, 48] [9] S0 S0 := Fr_rf
  unfold wp_trial at h ⊢
  intro z1 e
  replace h := h z1 e
  intro S2 e
  replace h := h S2 e
  replace hF := Fr_z hF e (by decide)
  refine ⟨h.1, ?_⟩
  replace h := h.2
  intro S3 e
  replace h := h S3 e
  replace hF := Fr_f hF e (by decide)
  refine ⟨h.1, ?_⟩
  replace h := h.2
  intro S4 e
  replace h := h S4 e
  replace hF := Fr_f hF e (by decide)
  refine ⟨h.1, ?_⟩
  replace h := h.2
  intro S5 e
  replace h := h S5 e
  replace hF := Fr_f hF e (by decide)
  refine ⟨h.1, ?_⟩
  replace h := h.2
  intro S6 e
  replace h := h S6 e
  replace hF := Fr_f hF e (by decide)
  refine ⟨h.1, ?_⟩
  replace h := h.2
  intro S7 e
  replace h := h S7 e
  replace hF := Fr_f hF e (by decide)
  refine ⟨h.1, ?_⟩
  replace h := h.2
  intro S8 e
  replace h := h S8 e
  replace hF := Fr_f hF e (by decide)
  refine ⟨h.1, ?_⟩
  replace h := h.2
  intro S9 e
  replace h := h S9 e
  replace hF := Fr_f hF e (by decide)
  refine ⟨h.1, ?_⟩
  replace h := h.2
  intro S10 e
  replace h := h S10 e
  replace hF := Fr_f hF e (by decide)
  refine fm_act _ _ _ _ _ (fun S11 r11 hG h => ?_) h
  replace hF := Fr_t hF hG (by decide) (by decide) (by decide)
  refine ⟨h.1, ?_⟩
  replace h := h.2
  intro S12 e
  replace h := h S12 e
  replace hF := Fr_f hF e (by decide)
  refine fm_act _ _ _ _ _ (fun S13 r13 hG h => ?_) h
  replace hF := Fr_t hF hG (by decide) (by decide) (by decide)
  refine ⟨h.1, ?_⟩
  replace h := h.2
  intro S14 e
  replace h := h S14 e
  replace hF := Fr_f hF e (by decide)
  refine fm_emit _ _ _ _ _ _ (fun S15 r15 hG h => ?_) h
  replace hF := Fr_t hF hG (by decide) (by decide) (by decide)
  intro z16 e
  replace h := h z16 e
  intro S17 e
  replace h := h S17 e
  replace hF := Fr_z hF e (by decide)
  refine fm_inBlock hr_block _ _ _ _ _ (fun S18 hG h => ?_) h
  replace hF := Fr_t hF hG (by decide) (by decide) (by decide)
  refine fm_emit _ _ _ _ _ _ (fun S19 r19 hG h => ?_) h
  replace hF := Fr_t hF hG (by decide) (by decide) (by decide)
  refine fm_hasWord _ _ _ _ (fun S20 r20 hG h => ?_) h
  replace hF := Fr_t hF hG (by decide) (by decide) (by decide)
  refine ⟨fun c => ?_, fun c => ?_⟩
  · replace h := h.1 c
    exact fm_trial_230 hr_block hk hF h
  · replace h := h.2 c
    refine ⟨h.1, ?_⟩
    replace h := h.2
    intro S22 e
    replace h := h S22 e
    replace hF := Fr_f hF e (by decide)
    refine fm_takeCell _ _ _ (fun S23 r23 hG h => ?_) h
    replace hF := Fr_t hF hG (by decide) (by decide) (by decide)
    refine ⟨h.1, ?_⟩
    replace h := h.2
    intro S24 e
    replace h := h S24 e
    replace hF := Fr_f hF e (by decide)
    refine ⟨h.1, ?_⟩
    replace h := h.2
    intro S25 e
    replace h := h S25 e
    replace hF := Fr_f hF e (by decide)
    refine ⟨h.1, ?_⟩
    replace h := h.2
    intro z26 e
    replace h := h z26 e
    refine fm_act _ _ _ _ _ (fun S27 r27 hG h => ?_) h
    replace hF := Fr_t hF hG (by decide) (by decide) (by decide)
    refine ⟨h.1, ?_⟩
    replace h := h.2
    intro S28 e
    replace h := h S28 e
    replace hF := Fr_f hF e (by decide)
    refine ⟨h.1, ?_⟩
    replace h := h.2
    intro z29 e
    replace h := h z29 e
    intro S30 e
    replace h := h S30 e
    replace hF := Fr_z hF e (by decide)
    refine fm_inBlock hr_block _ _ _ _ _ (fun S31 hG h => ?_) h
    replace hF := Fr_t hF hG (by decide) (by decide) (by decide)
    refine fm_emit _ _ _ _ _ _ (fun S32 r32 hG h => ?_) h
    replace hF := Fr_t hF hG (by decide) (by decide) (by decide)
    exact fm_trial_230 hr_block hk hF h
theorem fm_loop_137 {r_block : mS → (mS → Prop) → Prop} (hr_block : FmV [3, 4, 7, 8, 9, 10, 11, 13, 14, 15, 16, 17, 18, 19, 20] [8, 10, 12, 13, 14, 15, 16, 17, 18, 19, 20, 21, 24, 25, 26, 27, 28, 29, 30, 31, 32, 33, 34, 35, 36, 37, 38, 39, 40, 41, 42, 43, 44, 45, 46, 47, 48] [9] (r_block)) {K K' : mS → Prop} {S0 : mS} (hk : ∀ S1, Fr [3, 4, 7, 8, 9, 10, 11, 13, 14, 15, 16, 17, 18, 19, 20] [8, 10, 12, 13, 14, 15, 16, 17, 18, 19, 20, 21, 24, 25, 26, 27, 28, 29, 30, 31, 32, 33, 34, 35, 36, 37, 38, 39, 40, 41, 42, 43, 44, 45, 46, 47, 48] [9] S0 S1 → K S1 → K' S1) {x1 : Int32} {x2 : Int32} {x3 : Int32} {x4 : Int32} {x5 : Int32} {x6 : Int32} {y1 : Int32} {S : mS} (hF : Fr [3, 4, 7, 8, 9, 10, 11, 13, 14, 15, 16, 17, 18, 19, 20] [8, 10, 12, 13, 14, 15, 16, 17, 18, 19, 20, 21, 24, 25, 26, 27, 28, 29, 30, 31, 32, 33, 34, 35, 36, 37, 38, 39, 40, 41, 42, 43, 44, 45, 46, 47, 48] [9] S0 S) (h : wp_loop_137 r_block K x1 x2 x3 x4 x5 x6 y1 S) : wp_loop_137 r_block K' x1 x2 x3 x4 x5 x6 y1 S := by
  unfold wp_loop_137 at h ⊢
  refine ⟨h.1, ?_⟩
  replace h := h.2
  intro S18 e
  replace h := h S18 e
  replace hF := Fr_z hF e (by decide)
  refine hr_block _ _ _ (fun S19 hG h => ?_) h
  replace hF := Fr_t hF hG (by decide) (by decide) (by decide)
  refine ⟨h.1, ?_⟩
  replace h := h.2
  intro z20 e
  replace h := h z20 e
  refine fm_lead _ _ _ _ (fun S21 hG h => ?_) h
  replace hF := Fr_t hF hG (by decide) (by decide) (by decide)
  refine ⟨h.1, ?_⟩
  replace h := h.2
  intro S22 e
  replace h := h S22 e
  replace hF := Fr_z hF e (by decide)
  refine ⟨h.1, ?_⟩
  replace h := h.2
  intro S23 e
  replace h := h S23 e
  replace hF := Fr_z hF e (by decide)
  intro S24 e
  replace h := h S24 e
  replace hF := Fr_z hF e (by decide)
  refine ⟨h.1, ?_⟩
  replace h := h.2
  intro z25 e
  replace h := h z25 e
  refine fm_emit _ _ _ _ _ _ (fun S26 r26 hG h => ?_) h
  replace hF := Fr_t hF hG (by decide) (by decide) (by decide)
  refine ⟨h.1, ?_⟩
  replace h := h.2
  intro S27 e
  replace h := h S27 e
  replace hF := Fr_f hF e (by decide)
  refine ⟨h.1, ?_⟩
  replace h := h.2
  intro S28 e
  replace h := h S28 e
  replace hF := Fr_f hF e (by decide)
  intro S29 e
  replace h := h S29 e
  replace hF := Fr_z hF e (by decide)
  refine ⟨h.1, ?_⟩
  replace h := h.2
  intro z30 e
  replace h := h z30 e
  refine fm_lead _ _ _ _ (fun S31 hG h => ?_) h
  replace hF := Fr_t hF hG (by decide) (by decide) (by decide)
  refine ⟨h.1, ?_⟩
  replace h := h.2
  intro z32 e
  replace h := h z32 e
  intro S33 e
  replace h := h S33 e
  replace hF := Fr_z hF e (by decide)
  exact hk _ hF h
theorem fm_loop_136 {r_block : mS → (mS → Prop) → Prop} (hr_block : FmV [3, 4, 7, 8, 9, 10, 11, 13, 14, 15, 16, 17, 18, 19, 20] [8, 10, 12, 13, 14, 15, 16, 17, 18, 19, 20, 21, 24, 25, 26, 27, 28, 29, 30, 31, 32, 33, 34, 35, 36, 37, 38, 39, 40, 41, 42, 43, 44, 45, 46, 47, 48] [9] (r_block)) {K K' : mS → Prop} {S0 : mS} (hk : ∀ S1, Fr [3, 4, 7, 8, 9, 10, 11, 13, 14, 15, 16, 17, 18, 19, 20] [8, 10, 12, 13, 14, 15, 16, 17, 18, 19, 20, 21, 24, 25, 26, 27, 28, 29, 30, 31, 32, 33, 34, 35, 36, 37, 38, 39, 40, 41, 42, 43, 44, 45, 46, 47, 48] [9] S0 S1 → K S1 → K' S1) {x1 : Int32} {x2 : Int32} {x3 : Int32} {x4 : Int32} {x5 : Int32} {x6 : Int32} {S : mS} (hF : Fr [3, 4, 7, 8, 9, 10, 11, 13, 14, 15, 16, 17, 18, 19, 20] [8, 10, 12, 13, 14, 15, 16, 17, 18, 19, 20, 21, 24, 25, 26, 27, 28, 29, 30, 31, 32, 33, 34, 35, 36, 37, 38, 39, 40, 41, 42, 43, 44, 45, 46, 47, 48] [9] S0 S) (h : wp_loop_136 r_block K x1 x2 x3 x4 x5 x6 S) : wp_loop_136 r_block K' x1 x2 x3 x4 x5 x6 S := by
  unfold wp_loop_136 at h ⊢
  exact fm_loop_137 hr_block hk hF h
theorem fm_loop {r_block : mS → (mS → Prop) → Prop} (hr_block : FmV [3, 4, 7, 8, 9, 10, 11, 13, 14, 15, 16, 17, 18, 19, 20] [8, 10, 12, 13, 14, 15, 16, 17, 18, 19, 20, 21, 24, 25, 26, 27, 28, 29, 30, 31, 32, 33, 34, 35, 36, 37, 38, 39, 40, 41, 42, 43, 44, 45, 46, 47, 48] [9] (r_block)) : FmV [3, 4, 7, 8, 9, 10, 11, 13, 14, 15, 16, 17, 18, 19, 20] [8, 10, 12, 13, 14, 15, 16, 17, 18, 19, 20, 21, 24, 25, 26, 27, 28, 29, 30, 31, 32, 33, 34, 35, 36, 37, 38, 39, 40, 41, 42, 43, 44, 45, 46, 47, 48] [9] (wp_loop r_block) := by
  intro S0 K K' hk h
  have hF : Fr [3, 4, 7, 8, 9, 10, 11, 13, 14, 15, 16, 17, 18, 19, 20] [8, 10, 12, 13, 14, 15, 16, 17, 18, 19, 20, 21, 24, 25, 26, 27, 28, 29, 30, 31, 32, 33, 34, 35, 36, 37, 38, 39, 40, 41, 42, 43, 44, 45, 46, 47, 48] [9] S0 S0 := Fr_rf
  unfold wp_loop at h ⊢
  intro z1 e
  replace h := h z1 e
  intro S2 e
  replace h := h S2 e
  replace hF := Fr_z hF e (by decide)
  refine ⟨h.1, ?_⟩
  replace h := h.2
  intro S3 e
  replace h := h S3 e
  replace hF := Fr_f hF e (by decide)
  refine ⟨h.1, ?_⟩
  replace h := h.2
  intro S4 e
  replace h := h S4 e
  replace hF := Fr_f hF e (by decide)
  refine fm_emit _ _ _ _ _ _ (fun S5 r5 hG h => ?_) h
  replace hF := Fr_t hF hG (by decide) (by decide) (by decide)
  refine ⟨h.1, ?_⟩
  replace h := h.2
  intro S6 e
  replace h := h S6 e
  replace hF := Fr_f hF e (by decide)
  refine fm_then _ _ _ _ _ (fun S7 r7 hG h => ?_) h
  replace hF := Fr_t hF hG (by decide) (by decide) (by decide)
  refine ⟨h.1, ?_⟩
  replace h := h.2
  intro S8 e
  replace h := h S8 e
  replace hF := Fr_f hF e (by decide)
  refine fm_act _ _ _ _ _ (fun S9 r9 hG h => ?_) h
  replace hF := Fr_t hF hG (by decide) (by decide) (by decide)
  refine ⟨h.1, ?_⟩
  replace h := h.2
  intro S10 e
  replace h := h S10 e
  replace hF := Fr_f hF e (by decide)
  refine fq_expression _ _ _ (fun S11 hG h => ?_) h
  replace hF := Fr_t hF hG (by decide) (by decide) (by decide)
  refine fm_emit _ _ _ _ _ _ (fun S12 r12 hG h => ?_) h
  replace hF := Fr_t hF hG (by decide) (by decide) (by decide)
  refine fm_then _ _ _ _ _ (fun S13 r13 hG h => ?_) h
  replace hF := Fr_t hF hG (by decide) (by decide) (by decide)
  intro S14 e
  replace h := h S14 e
  replace hF := Fr_z hF e (by decide)
  intro S15 e
  replace h := h S15 e
  replace hF := Fr_z hF e (by decide)
  refine ⟨fun c => ?_, fun c => ?_⟩
  · replace h := h.1 c
    exact fm_loop_136 hr_block hk hF h
  · replace h := h.2 c
    refine ⟨fun c => ?_, fun c => ?_⟩
    · replace h := h.1 c
      exact fm_loop_136 hr_block hk hF h
    · replace h := h.2 c
      exact fm_loop_137 hr_block hk hF h
theorem fm_choice_66 {r_block : mS → (mS → Prop) → Prop} (hr_block : FmV [3, 4, 7, 8, 9, 10, 11, 13, 14, 15, 16, 17, 18, 19, 20] [8, 10, 12, 13, 14, 15, 16, 17, 18, 19, 20, 21, 24, 25, 26, 27, 28, 29, 30, 31, 32, 33, 34, 35, 36, 37, 38, 39, 40, 41, 42, 43, 44, 45, 46, 47, 48] [9] (r_block)) {K K' : mS → Prop} {S0 : mS} (hk : ∀ S1, Fr [3, 4, 7, 8, 9, 10, 11, 13, 14, 15, 16, 17, 18, 19, 20] [8, 10, 12, 13, 14, 15, 16, 17, 18, 19, 20, 21, 24, 25, 26, 27, 28, 29, 30, 31, 32, 33, 34, 35, 36, 37, 38, 39, 40, 41, 42, 43, 44, 45, 46, 47, 48] [9] S0 S1 → K S1 → K' S1) {x3 : Int32} {x4 : Int32} {S : mS} (hF : Fr [3, 4, 7, 8, 9, 10, 11, 13, 14, 15, 16, 17, 18, 19, 20] [8, 10, 12, 13, 14, 15, 16, 17, 18, 19, 20, 21, 24, 25, 26, 27, 28, 29, 30, 31, 32, 33, 34, 35, 36, 37, 38, 39, 40, 41, 42, 43, 44, 45, 46, 47, 48] [9] S0 S) (h : wp_choice_66 r_block K x3 x4 S) : wp_choice_66 r_block K' x3 x4 S := by
  unfold wp_choice_66 at h ⊢
  refine ⟨h.1, ?_⟩
  replace h := h.2
  intro S11 e
  replace h := h S11 e
  replace hF := Fr_f hF e (by decide)
  refine ⟨fun c => ?_, fun c => ?_⟩
  · replace h := h.1 c
    exact hk _ hF h
  · replace h := h.2 c
    refine fm_join _ _ _ _ (fun S13 hG h => ?_) h
    replace hF := Fr_t hF hG (by decide) (by decide) (by decide)
    exact hk _ hF h
theorem fm_choice {r_block : mS → (mS → Prop) → Prop} (hr_block : FmV [3, 4, 7, 8, 9, 10, 11, 13, 14, 15, 16, 17, 18, 19, 20] [8, 10, 12, 13, 14, 15, 16, 17, 18, 19, 20, 21, 24, 25, 26, 27, 28, 29, 30, 31, 32, 33, 34, 35, 36, 37, 38, 39, 40, 41, 42, 43, 44, 45, 46, 47, 48] [9] (r_block)) : FmV [3, 4, 7, 8, 9, 10, 11, 13, 14, 15, 16, 17, 18, 19, 20] [8, 10, 12, 13, 14, 15, 16, 17, 18, 19, 20, 21, 24, 25, 26, 27, 28, 29, 30, 31, 32, 33, 34, 35, 36, 37, 38, 39, 40, 41, 42, 43, 44, 45, 46, 47, 48] [9] (wp_choice r_block) := by
  intro S0 K K' hk h
  have hF : Fr [3, 4, 7, 8, 9, 10, 11, 13, 14, 15, 16, 17, 18, 19, 20] [8, 10, 12, 13, 14, 15, 16, 17, 18, 19, 20, 21, 24, 25, 26, 27, 28, 29, 30, 31, 32, 33, 34, 35, 36, 37, 38, 39, 40, 41, 42, 43, 44, 45, 46, 47, 48] [9] S0 S0 := Fr_rf
  unfold wp_choice at h ⊢
  refine fq_expression _ _ _ (fun S1 hG h => ?_) h
  replace hF := Fr_t hF hG (by decide) (by decide) (by decide)
  refine fm_emit _ _ _ _ _ _ (fun S2 r2 hG h => ?_) h
  replace hF := Fr_t hF hG (by decide) (by decide) (by decide)
  refine fm_then _ _ _ _ _ (fun S3 r3 hG h => ?_) h
  replace hF := Fr_t hF hG (by decide) (by decide) (by decide)
  refine hr_block _ _ _ (fun S4 hG h => ?_) h
  replace hF := Fr_t hF hG (by decide) (by decide) (by decide)
  refine fm_emit _ _ _ _ _ _ (fun S5 r5 hG h => ?_) h
  replace hF := Fr_t hF hG (by decide) (by decide) (by decide)
  refine ⟨h.1, ?_⟩
  replace h := h.2
  intro S6 e
  replace h := h S6 e
  replace hF := Fr_f hF e (by decide)
  intro S7 e
  replace h := h S7 e
  replace hF := Fr_z hF e (by decide)
  refine fm_hasWord _ _ _ _ (fun S8 r8 hG h => ?_) h
  replace hF := Fr_t hF hG (by decide) (by decide) (by decide)
  refine ⟨fun c => ?_, fun c => ?_⟩
  · replace h := h.1 c
    exact fm_choice_66 hr_block hk hF h
  · replace h := h.2 c
    refine hr_block _ _ _ (fun S10 hG h => ?_) h
    replace hF := Fr_t hF hG (by decide) (by decide) (by decide)
    exact fm_choice_66 hr_block hk hF h
theorem fm_statement {r_block : mS → (mS → Prop) → Prop} (hr_block : FmV [3, 4, 7, 8, 9, 10, 11, 13, 14, 15, 16, 17, 18, 19, 20] [8, 10, 12, 13, 14, 15, 16, 17, 18, 19, 20, 21, 24, 25, 26, 27, 28, 29, 30, 31, 32, 33, 34, 35, 36, 37, 38, 39, 40, 41, 42, 43, 44, 45, 46, 47, 48] [9] (r_block)) : FmV [3, 4, 7, 8, 9, 10, 11, 13, 14, 15, 16, 17, 18, 19, 20] [8, 10, 12, 13, 14, 15, 16, 17, 18, 19, 20, 21, 24, 25, 26, 27, 28, 29, 30, 31, 32, 33, 34, 35, 36, 37, 38, 39, 40, 41, 42, 43, 44, 45, 46, 47, 48] [9] (wp_statement r_block) := by
  intro S0 K K' hk h
  have hF : Fr [3, 4, 7, 8, 9, 10, 11, 13, 14, 15, 16, 17, 18, 19, 20] [8, 10, 12, 13, 14, 15, 16, 17, 18, 19, 20, 21, 24, 25, 26, 27, 28, 29, 30, 31, 32, 33, 34, 35, 36, 37, 38, 39, 40, 41, 42, 43, 44, 45, 46, 47, 48] [9] S0 S0 := Fr_rf
  unfold wp_statement at h ⊢
  refine fm_hasWord _ _ _ _ (fun S1 r1 hG h => ?_) h
  replace hF := Fr_t hF hG (by decide) (by decide) (by decide)
  refine ⟨fun c => ?_, fun c => ?_⟩
  · replace h := h.1 c
    refine fm_emit _ _ _ _ _ _ (fun S3 r3 hG h => ?_) h
    replace hF := Fr_t hF hG (by decide) (by decide) (by decide)
    refine fm_hasWord _ _ _ _ (fun S4 r4 hG h => ?_) h
    replace hF := Fr_t hF hG (by decide) (by decide) (by decide)
    refine ⟨fun c => ?_, fun c => ?_⟩
    · replace h := h.1 c
      refine fm_hasWord _ _ _ _ (fun S6 r6 hG h => ?_) h
      replace hF := Fr_t hF hG (by decide) (by decide) (by decide)
      refine ⟨fun c => ?_, fun c => ?_⟩
      · replace h := h.1 c
        refine fm_plain _ _ _ (fun S8 hG h => ?_) h
        replace hF := Fr_t hF hG (by decide) (by decide) (by decide)
        refine fm_takeSign _ _ _ _ (fun S9 hG h => ?_) h
        replace hF := Fr_t hF hG (by decide) (by decide) (by decide)
        exact hk _ hF h
      · replace h := h.2 c
        refine fm_trial hr_block _ _ _ (fun S10 hG h => ?_) h
        replace hF := Fr_t hF hG (by decide) (by decide) (by decide)
        exact hk _ hF h
    · replace h := h.2 c
      refine fm_choice hr_block _ _ _ (fun S11 hG h => ?_) h
      replace hF := Fr_t hF hG (by decide) (by decide) (by decide)
      exact hk _ hF h
  · replace h := h.2 c
    refine fm_loop hr_block _ _ _ (fun S12 hG h => ?_) h
    replace hF := Fr_t hF hG (by decide) (by decide) (by decide)
    exact hk _ hF h
theorem fm_block_39 {r_block : mS → (mS → Prop) → Prop} (hr_block : FmV [3, 4, 7, 8, 9, 10, 11, 13, 14, 15, 16, 17, 18, 19, 20] [8, 10, 12, 13, 14, 15, 16, 17, 18, 19, 20, 21, 24, 25, 26, 27, 28, 29, 30, 31, 32, 33, 34, 35, 36, 37, 38, 39, 40, 41, 42, 43, 44, 45, 46, 47, 48] [9] (r_block)) {K K' : mS → Prop} {S0 : mS} (hk : ∀ S1, Fr [3, 4, 7, 8, 9, 10, 11, 13, 14, 15, 16, 17, 18, 19, 20] [8, 10, 12, 13, 14, 15, 16, 17, 18, 19, 20, 21, 24, 25, 26, 27, 28, 29, 30, 31, 32, 33, 34, 35, 36, 37, 38, 39, 40, 41, 42, 43, 44, 45, 46, 47, 48] [9] S0 S1 → K S1 → K' S1) {S : mS} (hF : Fr [3, 4, 7, 8, 9, 10, 11, 13, 14, 15, 16, 17, 18, 19, 20] [8, 10, 12, 13, 14, 15, 16, 17, 18, 19, 20, 21, 24, 25, 26, 27, 28, 29, 30, 31, 32, 33, 34, 35, 36, 37, 38, 39, 40, 41, 42, 43, 44, 45, 46, 47, 48] [9] S0 S) (h : wp_block_39 r_block K S) : wp_block_39 r_block K' S := by
  unfold wp_block_39 at h ⊢
  refine fm_takeSign _ _ _ _ (fun S8 hG h => ?_) h
  replace hF := Fr_t hF hG (by decide) (by decide) (by decide)
  intro z9 e
  replace h := h z9 e
  intro S10 e
  replace h := h S10 e
  replace hF := Fr_z hF e (by decide)
  exact hk _ hF h
theorem fm_block_16 {r_block : mS → (mS → Prop) → Prop} (hr_block : FmV [3, 4, 7, 8, 9, 10, 11, 13, 14, 15, 16, 17, 18, 19, 20] [8, 10, 12, 13, 14, 15, 16, 17, 18, 19, 20, 21, 24, 25, 26, 27, 28, 29, 30, 31, 32, 33, 34, 35, 36, 37, 38, 39, 40, 41, 42, 43, 44, 45, 46, 47, 48] [9] (r_block)) {K K' : mS → Prop} {k16 k16' : mS → Prop} {S0 : mS} (hk : ∀ S1, Fr [3, 4, 7, 8, 9, 10, 11, 13, 14, 15, 16, 17, 18, 19, 20] [8, 10, 12, 13, 14, 15, 16, 17, 18, 19, 20, 21, 24, 25, 26, 27, 28, 29, 30, 31, 32, 33, 34, 35, 36, 37, 38, 39, 40, 41, 42, 43, 44, 45, 46, 47, 48] [9] S0 S1 → K S1 → K' S1) (hk16 : ∀ u : mS, Fr [3, 4, 7, 8, 9, 10, 11, 13, 14, 15, 16, 17, 18, 19, 20] [8, 10, 12, 13, 14, 15, 16, 17, 18, 19, 20, 21, 24, 25, 26, 27, 28, 29, 30, 31, 32, 33, 34, 35, 36, 37, 38, 39, 40, 41, 42, 43, 44, 45, 46, 47, 48] [9] S0 u → k16 u → k16' u) {S : mS} (hF : Fr [3, 4, 7, 8, 9, 10, 11, 13, 14, 15, 16, 17, 18, 19, 20] [8, 10, 12, 13, 14, 15, 16, 17, 18, 19, 20, 21, 24, 25, 26, 27, 28, 29, 30, 31, 32, 33, 34, 35, 36, 37, 38, 39, 40, 41, 42, 43, 44, 45, 46, 47, 48] [9] S0 S) (h : wp_block_16 r_block K k16 S) : wp_block_16 r_block K' k16' S := by
  unfold wp_block_16 at h ⊢
  refine ⟨fun c => ?_, fun c => ?_⟩
  · replace h := h.1 c
    exact fm_block_39 hr_block hk hF h
  · replace h := h.2 c
    refine fm_isSign _ _ _ _ (fun S5 r5 hG h => ?_) h
    replace hF := Fr_t hF hG (by decide) (by decide) (by decide)
    refine ⟨fun c => ?_, fun c => ?_⟩
    · replace h := h.1 c
      exact fm_block_39 hr_block hk hF h
    · replace h := h.2 c
      refine fm_statement hr_block _ _ _ (fun S7 hG h => ?_) h
      replace hF := Fr_t hF hG (by decide) (by decide) (by decide)
      exact hk16 _ hF h
theorem fml_block_16 {r_block : mS → (mS → Prop) → Prop} (hr_block : FmV [3, 4, 7, 8, 9, 10, 11, 13, 14, 15, 16, 17, 18, 19, 20] [8, 10, 12, 13, 14, 15, 16, 17, 18, 19, 20, 21, 24, 25, 26, 27, 28, 29, 30, 31, 32, 33, 34, 35, 36, 37, 38, 39, 40, 41, 42, 43, 44, 45, 46, 47, 48] [9] (r_block)) {K K' : mS → Prop} {S0 : mS} (hk : ∀ S1, Fr [3, 4, 7, 8, 9, 10, 11, 13, 14, 15, 16, 17, 18, 19, 20] [8, 10, 12, 13, 14, 15, 16, 17, 18, 19, 20, 21, 24, 25, 26, 27, 28, 29, 30, 31, 32, 33, 34, 35, 36, 37, 38, 39, 40, 41, 42, 43, 44, 45, 46, 47, 48] [9] S0 S1 → K S1 → K' S1) : ∀ (n : Nat) (u : mS), Fr [3, 4, 7, 8, 9, 10, 11, 13, 14, 15, 16, 17, 18, 19, 20] [8, 10, 12, 13, 14, 15, 16, 17, 18, 19, 20, 21, 24, 25, 26, 27, 28, 29, 30, 31, 32, 33, 34, 35, 36, 37, 38, 39, 40, 41, 42, 43, 44, 45, 46, 47, 48] [9] S0 u → it (ls_block_16 r_block K) n u → it (ls_block_16 r_block K') n u := by
  intro n
  induction n with
  | zero => exact fun _ _ h => h
  | succ n ih => exact fun u hF h => fm_block_16 hr_block hk ih hF h
theorem fm_block {r_block : mS → (mS → Prop) → Prop} (hr_block : FmV [3, 4, 7, 8, 9, 10, 11, 13, 14, 15, 16, 17, 18, 19, 20] [8, 10, 12, 13, 14, 15, 16, 17, 18, 19, 20, 21, 24, 25, 26, 27, 28, 29, 30, 31, 32, 33, 34, 35, 36, 37, 38, 39, 40, 41, 42, 43, 44, 45, 46, 47, 48] [9] (r_block)) : FmV [3, 4, 7, 8, 9, 10, 11, 13, 14, 15, 16, 17, 18, 19, 20] [8, 10, 12, 13, 14, 15, 16, 17, 18, 19, 20, 21, 24, 25, 26, 27, 28, 29, 30, 31, 32, 33, 34, 35, 36, 37, 38, 39, 40, 41, 42, 43, 44, 45, 46, 47, 48] [9] (wp_block r_block) := by
  intro S0 K K' hk h
  have hF : Fr [3, 4, 7, 8, 9, 10, 11, 13, 14, 15, 16, 17, 18, 19, 20] [8, 10, 12, 13, 14, 15, 16, 17, 18, 19, 20, 21, 24, 25, 26, 27, 28, 29, 30, 31, 32, 33, 34, 35, 36, 37, 38, 39, 40, 41, 42, 43, 44, 45, 46, 47, 48] [9] S0 S0 := Fr_rf
  unfold wp_block at h ⊢
  refine fm_isSign _ _ _ _ (fun S1 r1 hG h => ?_) h
  replace hF := Fr_t hF hG (by decide) (by decide) (by decide)
  refine fm_within _ _ _ _ (fun S2 hG h => ?_) h
  replace hF := Fr_t hF hG (by decide) (by decide) (by decide)
  refine fm_takeSign _ _ _ _ (fun S3 hG h => ?_) h
  replace hF := Fr_t hF hG (by decide) (by decide) (by decide)
  obtain ⟨n9, h⟩ := h
  exact ⟨n9, fml_block_16 hr_block hk n9 _ hF h⟩
theorem fr_block : ∀ n : Nat, (FmV [3, 4, 7, 8, 9, 10, 11, 13, 14, 15, 16, 17, 18, 19, 20] [8, 10, 12, 13, 14, 15, 16, 17, 18, 19, 20, 21, 24, 25, 26, 27, 28, 29, 30, 31, 32, 33, 34, 35, 36, 37, 38, 39, 40, 41, 42, 43, 44, 45, 46, 47, 48] [9] ((wr_block n))) := by
  intro n
  induction n with
  | zero => exact fun _ _ _ _ h => h
  | succ n ih => exact fm_block ih
theorem fq_inBlock (a0 : Int32) (a1 : Int32) : FmV [3, 4, 7, 8, 9, 10, 11, 13, 14, 15, 16, 17, 18, 19, 20] [8, 10, 12, 13, 14, 15, 16, 17, 18, 19, 20, 21, 24, 25, 26, 27, 28, 29, 30, 31, 32, 33, 34, 35, 36, 37, 38, 39, 40, 41, 42, 43, 44, 45, 46, 47, 48] [9] (wq_inBlock a0 a1) := fm_inBlock (fr_block 12) a0 a1
theorem fq_trial : FmV [3, 4, 7, 8, 9, 10, 11, 13, 14, 15, 16, 17, 18, 19, 20] [8, 10, 12, 13, 14, 15, 16, 17, 18, 19, 20, 21, 24, 25, 26, 27, 28, 29, 30, 31, 32, 33, 34, 35, 36, 37, 38, 39, 40, 41, 42, 43, 44, 45, 46, 47, 48] [9] (wq_trial) := fm_trial (fr_block 12)
theorem fq_loop : FmV [3, 4, 7, 8, 9, 10, 11, 13, 14, 15, 16, 17, 18, 19, 20] [8, 10, 12, 13, 14, 15, 16, 17, 18, 19, 20, 21, 24, 25, 26, 27, 28, 29, 30, 31, 32, 33, 34, 35, 36, 37, 38, 39, 40, 41, 42, 43, 44, 45, 46, 47, 48] [9] (wq_loop) := fm_loop (fr_block 12)
theorem fq_choice : FmV [3, 4, 7, 8, 9, 10, 11, 13, 14, 15, 16, 17, 18, 19, 20] [8, 10, 12, 13, 14, 15, 16, 17, 18, 19, 20, 21, 24, 25, 26, 27, 28, 29, 30, 31, 32, 33, 34, 35, 36, 37, 38, 39, 40, 41, 42, 43, 44, 45, 46, 47, 48] [9] (wq_choice) := fm_choice (fr_block 12)
theorem fq_statement : FmV [3, 4, 7, 8, 9, 10, 11, 13, 14, 15, 16, 17, 18, 19, 20] [8, 10, 12, 13, 14, 15, 16, 17, 18, 19, 20, 21, 24, 25, 26, 27, 28, 29, 30, 31, 32, 33, 34, 35, 36, 37, 38, 39, 40, 41, 42, 43, 44, 45, 46, 47, 48] [9] (wq_statement) := fm_statement (fr_block 12)
theorem fq_block : FmV [3, 4, 7, 8, 9, 10, 11, 13, 14, 15, 16, 17, 18, 19, 20] [8, 10, 12, 13, 14, 15, 16, 17, 18, 19, 20, 21, 24, 25, 26, 27, 28, 29, 30, 31, 32, 33, 34, 35, 36, 37, 38, 39, 40, 41, 42, 43, 44, 45, 46, 47, 48] [9] (wq_block) := (fr_block 12)
theorem fm_box (a0 : Int32) (a1 : Int32) : FmI [0] [] [] (wp_box a0 a1) := by
  intro S0 K K' hk h
  have hF : Fr [0] [] [] S0 S0 := Fr_rf
  unfold wp_box at h ⊢
  intro S1 e
  replace h := h S1 e
  replace hF := Fr_z hF e (by decide)
  refine ⟨fun c => ?_, fun c => ?_⟩
  · replace h := h.1 c
    exact hk _ _ hF h
  · replace h := h.2 c
    refine ⟨fun c => ?_, fun c => ?_⟩
    · replace h := h.1 c
      exact hk _ _ hF h
    · replace h := h.2 c
      refine ⟨fun c => ?_, fun c => ?_⟩
      · replace h := h.1 c
        exact hk _ _ hF h
      · replace h := h.2 c
        refine ⟨h.1, ?_⟩
        replace h := h.2
        intro z5 e
        replace h := h z5 e
        refine ⟨fun c => ?_, fun c => ?_⟩
        · replace h := h.1 c
          intro z7 e
          replace h := h z7 e
          intro z8 e
          replace h := h z8 e
          refine ⟨h.1, ?_⟩
          replace h := h.2
          intro z9 e
          replace h := h z9 e
          exact hk _ _ hF h
        · replace h := h.2 c
          exact hk _ _ hF h
theorem fm_waitEnds (a0 : Int32) (a1 : Int32) (a2 : Int32) : FmV [23] [54, 62, 63, 73] [] (wp_waitEnds a0 a1 a2) := by
  intro S0 K K' hk h
  have hF : Fr [23] [54, 62, 63, 73] [] S0 S0 := Fr_rf
  unfold wp_waitEnds at h ⊢
  refine ⟨h.1, ?_⟩
  replace h := h.2
  intro S1 e
  replace h := h S1 e
  replace hF := Fr_f hF e (by decide)
  refine ⟨h.1, ?_⟩
  replace h := h.2
  intro S2 e
  replace h := h S2 e
  replace hF := Fr_f hF e (by decide)
  refine ⟨h.1, ?_⟩
  replace h := h.2
  intro z3 e
  replace h := h z3 e
  refine ⟨fun c => ?_, fun c => ?_⟩
  · replace h := h.1 c
    exact hk _ hF h
  · replace h := h.2 c
    refine ⟨h.1, ?_⟩
    replace h := h.2
    intro z5 e
    replace h := h z5 e
    refine ⟨fun c => ?_, fun c => ?_⟩
    · replace h := h.1 c
      refine fm_toRow _ _ _ _ (fun S7 hG h => ?_) h
      replace hF := Fr_t hF hG (by decide) (by decide) (by decide)
      exact hk _ hF h
    · replace h := h.2 c
      refine ⟨h.1, ?_⟩
      replace h := h.2
      intro S8 e
      replace h := h S8 e
      replace hF := Fr_f hF e (by decide)
      exact hk _ hF h
theorem fm_standsNoMore_46 {K K' : mS → Prop} {k46 k46' : Int32 × mS → Prop} {S0 : mS} (hk : ∀ S1, Fr [30] [87] [] S0 S1 → K S1 → K' S1) (hk46 : ∀ u : Int32 × mS, Fr [30] [87] [] S0 u.2 → k46 u → k46' u) {x3 : Int32} {S : mS} (hF : Fr [30] [87] [] S0 S) (h : wp_standsNoMore_46 K k46 x3 S) : wp_standsNoMore_46 K' k46' x3 S := by
  unfold wp_standsNoMore_46 at h ⊢
  refine ⟨fun c => ?_, fun c => ?_⟩
  · replace h := h.1 c
    exact hk _ hF h
  · replace h := h.2 c
    intro z9 e
    replace h := h z9 e
    refine ⟨h.1, ?_⟩
    replace h := h.2
    intro z10 e
    replace h := h z10 e
    refine ⟨h.1, ?_⟩
    replace h := h.2
    intro S11 e
    replace h := h S11 e
    replace hF := Fr_f hF e (by decide)
    intro z12 e
    replace h := h z12 e
    exact hk46 _ hF h
theorem fml_standsNoMore_46 {K K' : mS → Prop} {S0 : mS} (hk : ∀ S1, Fr [30] [87] [] S0 S1 → K S1 → K' S1) : ∀ (n : Nat) (u : Int32 × mS), Fr [30] [87] [] S0 u.2 → it (ls_standsNoMore_46 K) n u → it (ls_standsNoMore_46 K') n u := by
  intro n
  induction n with
  | zero => exact fun _ _ h => h
  | succ n ih => exact fun u hF h => fm_standsNoMore_46 hk ih hF h
theorem fm_standsNoMore_26 {K K' : mS → Prop} {S0 : mS} (hk : ∀ S1, Fr [30] [87] [] S0 S1 → K S1 → K' S1) {x2 : Int32} {S : mS} (hF : Fr [30] [87] [] S0 S) (h : wp_standsNoMore_26 K x2 S) : wp_standsNoMore_26 K' x2 S := by
  unfold wp_standsNoMore_26 at h ⊢
  refine ⟨fun c => ?_, fun c => ?_⟩
  · replace h := h.1 c
    exact hk _ hF h
  · replace h := h.2 c
    intro z6 e
    replace h := h z6 e
    intro S7 e
    replace h := h S7 e
    replace hF := Fr_z hF e (by decide)
    obtain ⟨n9, h⟩ := h
    exact ⟨n9, fml_standsNoMore_46 hk n9 _ hF h⟩
theorem fm_standsNoMore_2 {K K' : mS → Prop} {k2 k2' : Int32 × Int32 × mS → Prop} {S0 : mS} (hk : ∀ S1, Fr [30] [87] [] S0 S1 → K S1 → K' S1) (hk2 : ∀ u : Int32 × Int32 × mS, Fr [30] [87] [] S0 u.2.2 → k2 u → k2' u) {x1 : Int32} {x2 : Int32} {S : mS} (hF : Fr [30] [87] [] S0 S) (h : wp_standsNoMore_2 K k2 x1 x2 S) : wp_standsNoMore_2 K' k2' x1 x2 S := by
  unfold wp_standsNoMore_2 at h ⊢
  refine ⟨fun c => ?_, fun c => ?_⟩
  · replace h := h.1 c
    exact fm_standsNoMore_26 hk hF h
  · replace h := h.2 c
    refine ⟨h.1, ?_⟩
    replace h := h.2
    intro z2 e
    replace h := h z2 e
    refine ⟨fun c => ?_, fun c => ?_⟩
    · replace h := h.1 c
      exact fm_standsNoMore_26 hk hF h
    · replace h := h.2 c
      intro z4 e
      replace h := h z4 e
      exact hk2 _ hF h
theorem fml_standsNoMore_2 {K K' : mS → Prop} {S0 : mS} (hk : ∀ S1, Fr [30] [87] [] S0 S1 → K S1 → K' S1) : ∀ (n : Nat) (u : Int32 × Int32 × mS), Fr [30] [87] [] S0 u.2.2 → it (ls_standsNoMore_2 K) n u → it (ls_standsNoMore_2 K') n u := by
  intro n
  induction n with
  | zero => exact fun _ _ h => h
  | succ n ih => exact fun u hF h => fm_standsNoMore_2 hk ih hF h
theorem fm_standsNoMore (a0 : Int32) : FmV [30] [87] [] (wp_standsNoMore a0) := by
  intro S0 K K' hk h
  have hF : Fr [30] [87] [] S0 S0 := Fr_rf
  unfold wp_standsNoMore at h ⊢
  obtain ⟨n9, h⟩ := h
  exact ⟨n9, fml_standsNoMore_2 hk n9 _ hF h⟩
theorem fm_outOfRow_12 {K K' : mS → Prop} {k12 k12' : Int32 × mS → Prop} {S0 : mS} (hk : ∀ S1, Fr [23] [73] [] S0 S1 → K S1 → K' S1) (hk12 : ∀ u : Int32 × mS, Fr [23] [73] [] S0 u.2 → k12 u → k12' u) {x2 : Int32} {S : mS} (hF : Fr [23] [73] [] S0 S) (h : wp_outOfRow_12 K k12 x2 S) : wp_outOfRow_12 K' k12' x2 S := by
  unfold wp_outOfRow_12 at h ⊢
  refine ⟨fun c => ?_, fun c => ?_⟩
  · replace h := h.1 c
    exact hk _ hF h
  · replace h := h.2 c
    intro z4 e
    replace h := h z4 e
    refine ⟨h.1, ?_⟩
    replace h := h.2
    intro z5 e
    replace h := h z5 e
    refine ⟨h.1, ?_⟩
    replace h := h.2
    intro S6 e
    replace h := h S6 e
    replace hF := Fr_f hF e (by decide)
    intro z7 e
    replace h := h z7 e
    exact hk12 _ hF h
theorem fml_outOfRow_12 {K K' : mS → Prop} {S0 : mS} (hk : ∀ S1, Fr [23] [73] [] S0 S1 → K S1 → K' S1) : ∀ (n : Nat) (u : Int32 × mS), Fr [23] [73] [] S0 u.2 → it (ls_outOfRow_12 K) n u → it (ls_outOfRow_12 K') n u := by
  intro n
  induction n with
  | zero => exact fun _ _ h => h
  | succ n ih => exact fun u hF h => fm_outOfRow_12 hk ih hF h
theorem fm_outOfRow (a0 : Int32) : FmV [23] [73] [] (wp_outOfRow a0) := by
  intro S0 K K' hk h
  have hF : Fr [23] [73] [] S0 S0 := Fr_rf
  unfold wp_outOfRow at h ⊢
  intro z1 e
  replace h := h z1 e
  intro S2 e
  replace h := h S2 e
  replace hF := Fr_z hF e (by decide)
  obtain ⟨n9, h⟩ := h
  exact ⟨n9, fml_outOfRow_12 hk n9 _ hF h⟩
