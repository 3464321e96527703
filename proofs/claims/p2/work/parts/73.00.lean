
def Fr (zs fs gs : List Nat) (S S1 : mS) : Prop := (∀ k, k ∉ zs → S1.1 k = S.1 k) ∧ (∀ k, k ∉ fs → S1.2.1 k = S.2.1 k) ∧ (∀ k, k ∉ gs → S1.2.2 k = S.2.2 k)
theorem Fr_rf {zs fs gs : List Nat} {S : mS} : Fr zs fs gs S S := ⟨fun _ _ => rfl, fun _ _ => rfl, fun _ _ => rfl⟩
theorem Fr_z {zs fs gs : List Nat} {S0 S S1 : mS} {k : Nat} {v : Int32} (hF : Fr zs fs gs S0 S) (e : S1 = sZ S k v) (hk : k ∈ zs) : Fr zs fs gs S0 S1 := by
  subst e
  refine ⟨fun j hj => ?_, hF.2.1, hF.2.2⟩
  show upd S.1 k v j = S0.1 j
  unfold upd
  rw [if_neg (fun h : j = k => hj (by rw [h]; exact hk))]
  exact hF.1 j hj
theorem Fr_f {zs fs gs : List Nat} {S0 S S1 : mS} {k i : Nat} {v : Int32} (hF : Fr zs fs gs S0 S) (e : S1 = sF S k i v) (hk : k ∈ fs) : Fr zs fs gs S0 S1 := by
  subst e
  refine ⟨hF.1, fun j hj => ?_, hF.2.2⟩
  show upF S.2.1 k (upd (S.2.1 k) i v) j = S0.2.1 j
  unfold upF
  rw [if_neg (fun h : j = k => hj (by rw [h]; exact hk))]
  exact hF.2.1 j hj
theorem Fr_g {zs fs gs : List Nat} {S0 S S1 : mS} {k i : Nat} {v : Int64} (hF : Fr zs fs gs S0 S) (e : S1 = sG S k i v) (hk : k ∈ gs) : Fr zs fs gs S0 S1 := by
  subst e
  refine ⟨hF.1, hF.2.1, fun j hj => ?_⟩
  show upG S.2.2 k (vp_updL (S.2.2 k) i v) j = S0.2.2 j
  unfold upG
  rw [if_neg (fun h : j = k => hj (by rw [h]; exact hk))]
  exact hF.2.2 j hj
def sub9 (a b : List Nat) : Bool := a.all (fun k => b.contains k)
theorem sub9_m {a b : List Nat} (h : sub9 a b = true) {k : Nat} (hk : k ∉ b) : k ∉ a := fun hm => hk (by
  have := List.all_eq_true.mp h k hm
  exact List.contains_iff_mem.mp this)
theorem Fr_t {zs fs gs zs' fs' gs' : List Nat} {S0 S S1 : mS} (hF : Fr zs fs gs S0 S) (hG : Fr zs' fs' gs' S S1) (h1 : sub9 zs' zs = true) (h2 : sub9 fs' fs = true) (h3 : sub9 gs' gs = true) : Fr zs fs gs S0 S1 :=
  ⟨fun k hk => (hG.1 k (sub9_m h1 hk)).trans (hF.1 k hk), fun k hk => (hG.2.1 k (sub9_m h2 hk)).trans (hF.2.1 k hk), fun k hk => (hG.2.2 k (sub9_m h3 hk)).trans (hF.2.2 k hk)⟩
def FmV (zs fs gs : List Nat) (r : mS → (mS → Prop) → Prop) : Prop := ∀ (S : mS) (K K' : mS → Prop), (∀ S1, Fr zs fs gs S S1 → K S1 → K' S1) → r S K → r S K'
def FmI (zs fs gs : List Nat) (r : mS → (mS → Int32 → Prop) → Prop) : Prop := ∀ (S : mS) (K K' : mS → Int32 → Prop), (∀ S1 r1, Fr zs fs gs S S1 → K S1 r1 → K' S1 r1) → r S K → r S K'
theorem fm_act (a0 : Int32) (a1 : Int32) : FmI [8] [15, 16, 17, 18, 19, 20, 21] [] (wp_act a0 a1) := by
  intro S0 K K' hk h
  have hF : Fr [8] [15, 16, 17, 18, 19, 20, 21] [] S0 S0 := Fr_rf
  unfold wp_act at h ⊢
  refine ⟨h.1, ?_⟩
  replace h := h.2
  intro S1 e
  replace h := h S1 e
  replace hF := Fr_f hF e (by decide)
  refine ⟨h.1, ?_⟩
  replace h := h.2
  intro S2 e
  replace h := h S2 e
  replace hF := Fr_f hF e (by decide)
  refine ⟨h.1, ?_⟩
  replace h := h.2
  intro S3 e
  replace h := h S3 e
  replace hF := Fr_f hF e (by decide)
  refine ⟨h.1, ?_⟩
  replace h := h.2
  intro S4 e
  replace h := h S4 e
  replace hF := Fr_f hF e (by decide)
  refine ⟨h.1, ?_⟩
  replace h := h.2
  intro S5 e
  replace h := h S5 e
  replace hF := Fr_f hF e (by decide)
  refine ⟨h.1, ?_⟩
  replace h := h.2
  intro S6 e
  replace h := h S6 e
  replace hF := Fr_f hF e (by decide)
  refine ⟨h.1, ?_⟩
  replace h := h.2
  intro S7 e
  replace h := h S7 e
  replace hF := Fr_f hF e (by decide)
  intro z8 e
  replace h := h z8 e
  intro S9 e
  replace h := h S9 e
  replace hF := Fr_z hF e (by decide)
  intro z10 e
  replace h := h z10 e
  exact hk _ _ hF h
theorem fm_toRow (a0 : Int32) : FmV [23] [54, 73] [] (wp_toRow a0) := by
  intro S0 K K' hk h
  have hF : Fr [23] [54, 73] [] S0 S0 := Fr_rf
  unfold wp_toRow at h ⊢
  refine ⟨h.1, ?_⟩
  replace h := h.2
  intro S1 e
  replace h := h S1 e
  replace hF := Fr_f hF e (by decide)
  intro z2 e
  replace h := h z2 e
  intro S3 e
  replace h := h S3 e
  replace hF := Fr_z hF e (by decide)
  refine ⟨h.1, ?_⟩
  replace h := h.2
  intro S4 e
  replace h := h S4 e
  replace hF := Fr_f hF e (by decide)
  exact hk _ hF h
theorem fm_newTask_128 {K K' : mS → Int32 → Prop} {k128 k128' : Int32 × Int32 × mS → Prop} {S0 : mS} (hk : ∀ S1 r1, Fr [22, 23] [51, 52, 53, 54, 55, 56, 57, 58, 59, 60, 61, 62, 67, 68, 73] [] S0 S1 → K S1 r1 → K' S1 r1) (hk128 : ∀ u : Int32 × Int32 × mS, Fr [22, 23] [51, 52, 53, 54, 55, 56, 57, 58, 59, 60, 61, 62, 67, 68, 73] [] S0 u.2.2 → k128 u → k128' u) {x4 : Int32} {x5 : Int32} {S : mS} (hF : Fr [22, 23] [51, 52, 53, 54, 55, 56, 57, 58, 59, 60, 61, 62, 67, 68, 73] [] S0 S) (h : wp_newTask_128 K k128 x4 x5 S) : wp_newTask_128 K' k128' x4 x5 S := by
  unfold wp_newTask_128 at h ⊢
  refine ⟨fun c => ?_, fun c => ?_⟩
  · replace h := h.1 c
    refine fm_toRow _ _ _ _ (fun S19 hG h => ?_) h
    replace hF := Fr_t hF hG (by decide) (by decide) (by decide)
    exact hk _ _ hF h
  · replace h := h.2 c
    intro z20 e
    replace h := h z20 e
    intro z21 e
    replace h := h z21 e
    refine ⟨h.1, ?_⟩
    replace h := h.2
    intro S22 e
    replace h := h S22 e
    replace hF := Fr_f hF e (by decide)
    intro z23 e
    replace h := h z23 e
    exact hk128 _ hF h
theorem fml_newTask_128 {K K' : mS → Int32 → Prop} {S0 : mS} (hk : ∀ S1 r1, Fr [22, 23] [51, 52, 53, 54, 55, 56, 57, 58, 59, 60, 61, 62, 67, 68, 73] [] S0 S1 → K S1 r1 → K' S1 r1) : ∀ (n : Nat) (u : Int32 × Int32 × mS), Fr [22, 23] [51, 52, 53, 54, 55, 56, 57, 58, 59, 60, 61, 62, 67, 68, 73] [] S0 u.2.2 → it (ls_newTask_128 K) n u → it (ls_newTask_128 K') n u := by
  intro n
  induction n with
  | zero => exact fun _ _ h => h
  | succ n ih => exact fun u hF h => fm_newTask_128 hk ih hF h
theorem fm_newTask (a0 : Int32) (a1 : Int32) (a2 : Int32) : FmI [22, 23] [51, 52, 53, 54, 55, 56, 57, 58, 59, 60, 61, 62, 67, 68, 73] [] (wp_newTask a0 a1 a2) := by
  intro S0 K K' hk h
  have hF : Fr [22, 23] [51, 52, 53, 54, 55, 56, 57, 58, 59, 60, 61, 62, 67, 68, 73] [] S0 S0 := Fr_rf
  unfold wp_newTask at h ⊢
  intro z1 e
  replace h := h z1 e
  intro S2 e
  replace h := h S2 e
  replace hF := Fr_z hF e (by decide)
  refine ⟨h.1, ?_⟩
  replace h := h.2
  intro S3 e
  replace h := h S3 e
  replace hF := Fr_f hF e (by decide)
  refine ⟨h.1, ?_⟩
  replace h := h.2
  intro S4 e
  replace h := h S4 e
  replace hF := Fr_f hF e (by decide)
  refine ⟨h.1, ?_⟩
  replace h := h.2
  intro S5 e
  replace h := h S5 e
  replace hF := Fr_f hF e (by decide)
  refine ⟨h.1, ?_⟩
  replace h := h.2
  intro S6 e
  replace h := h S6 e
  replace hF := Fr_f hF e (by decide)
  refine ⟨h.1, ?_⟩
  replace h := h.2
  intro S7 e
  replace h := h S7 e
  replace hF := Fr_f hF e (by decide)
  intro z8 e
  replace h := h z8 e
  intro z9 e
  replace h := h z9 e
  refine ⟨h.1, ?_⟩
  replace h := h.2
  intro z10 e
  replace h := h z10 e
  refine ⟨h.1, ?_⟩
  replace h := h.2
  intro S11 e
  replace h := h S11 e
  replace hF := Fr_f hF e (by decide)
  refine ⟨h.1, ?_⟩
  replace h := h.2
  intro S12 e
  replace h := h S12 e
  replace hF := Fr_f hF e (by decide)
  refine ⟨h.1, ?_⟩
  replace h := h.2
  intro S13 e
  replace h := h S13 e
  replace hF := Fr_f hF e (by decide)
  refine ⟨h.1, ?_⟩
  replace h := h.2
  intro S14 e
  replace h := h S14 e
  replace hF := Fr_f hF e (by decide)
  refine ⟨h.1, ?_⟩
  replace h := h.2
  intro S15 e
  replace h := h S15 e
  replace hF := Fr_f hF e (by decide)
  refine ⟨h.1, ?_⟩
  replace h := h.2
  intro S16 e
  replace h := h S16 e
  replace hF := Fr_f hF e (by decide)
  refine ⟨h.1, ?_⟩
  replace h := h.2
  intro S17 e
  replace h := h S17 e
  replace hF := Fr_f hF e (by decide)
  obtain ⟨n9, h⟩ := h
  exact ⟨n9, fml_newTask_128 hk n9 _ hF h⟩
theorem fm_begin_119 {K K' : mS → Int32 → Prop} {k62 k62' : Int32 × Int32 × Int32 × Int32 × Int32 × Int32 × Int32 × mS → Prop} {S0 : mS} (hk : ∀ S1 r1, Fr [0, 22, 23] [51, 52, 53, 54, 55, 56, 57, 58, 59, 60, 61, 62, 67, 68, 73] [] S0 S1 → K S1 r1 → K' S1 r1) (hk62 : ∀ u : Int32 × Int32 × Int32 × Int32 × Int32 × Int32 × Int32 × mS, Fr [0, 22, 23] [51, 52, 53, 54, 55, 56, 57, 58, 59, 60, 61, 62, 67, 68, 73] [] S0 u.2.2.2.2.2.2.2 → k62 u → k62' u) {x2 : Int32} {x3 : Int32} {x4 : Int32} {x5 : Int32} {x6 : Int32} {x7 : Int32} {x8 : Int32} {y1 : Int32} {y2 : Int32} {S : mS} (hF : Fr [0, 22, 23] [51, 52, 53, 54, 55, 56, 57, 58, 59, 60, 61, 62, 67, 68, 73] [] S0 S) (h : wp_begin_119 K k62 x2 x3 x4 x5 x6 x7 x8 y1 y2 S) : wp_begin_119 K' k62' x2 x3 x4 x5 x6 x7 x8 y1 y2 S := by
  unfold wp_begin_119 at h ⊢
  refine ⟨h.1, ?_⟩
  replace h := h.2
  intro S17 e
  replace h := h S17 e
  replace hF := Fr_f hF e (by decide)
  intro z18 e
  replace h := h z18 e
  exact hk62 _ hF h
theorem fm_begin_62 {K K' : mS → Int32 → Prop} {k62 k62' : Int32 × Int32 × Int32 × Int32 × Int32 × Int32 × Int32 × mS → Prop} {S0 : mS} (hk : ∀ S1 r1, Fr [0, 22, 23] [51, 52, 53, 54, 55, 56, 57, 58, 59, 60, 61, 62, 67, 68, 73] [] S0 S1 → K S1 r1 → K' S1 r1) (hk62 : ∀ u : Int32 × Int32 × Int32 × Int32 × Int32 × Int32 × Int32 × mS, Fr [0, 22, 23] [51, 52, 53, 54, 55, 56, 57, 58, 59, 60, 61, 62, 67, 68, 73] [] S0 u.2.2.2.2.2.2.2 → k62 u → k62' u) {x2 : Int32} {x3 : Int32} {x4 : Int32} {x5 : Int32} {x6 : Int32} {x7 : Int32} {x8 : Int32} {S : mS} (hF : Fr [0, 22, 23] [51, 52, 53, 54, 55, 56, 57, 58, 59, 60, 61, 62, 67, 68, 73] [] S0 S) (h : wp_begin_62 K k62 x2 x3 x4 x5 x6 x7 x8 S) : wp_begin_62 K' k62' x2 x3 x4 x5 x6 x7 x8 S := by
  unfold wp_begin_62 at h ⊢
  refine ⟨fun c => ?_, fun c => ?_⟩
  · replace h := h.1 c
    exact hk _ _ hF h
  · replace h := h.2 c
    refine ⟨fun c => ?_, fun c => ?_⟩
    · replace h := h.1 c
      exact hk _ _ hF h
    · replace h := h.2 c
      intro z12 e
      replace h := h z12 e
      intro z13 e
      replace h := h z13 e
      refine ⟨fun c => ?_, fun c => ?_⟩
      · replace h := h.1 c
        refine ⟨fun c => ?_, fun c => ?_⟩
        · replace h := h.1 c
          refine ⟨fun c => ?_, fun c => ?_⟩
          · replace h := h.1 c
            exact fm_begin_119 hk hk62 hF h
          · replace h := h.2 c
            exact fm_begin_119 hk hk62 hF h
        · replace h := h.2 c
          exact fm_begin_119 hk hk62 hF h
      · replace h := h.2 c
        exact fm_begin_119 hk hk62 hF h
theorem fml_begin_62 {K K' : mS → Int32 → Prop} {S0 : mS} (hk : ∀ S1 r1, Fr [0, 22, 23] [51, 52, 53, 54, 55, 56, 57, 58, 59, 60, 61, 62, 67, 68, 73] [] S0 S1 → K S1 r1 → K' S1 r1) : ∀ (n : Nat) (u : Int32 × Int32 × Int32 × Int32 × Int32 × Int32 × Int32 × mS), Fr [0, 22, 23] [51, 52, 53, 54, 55, 56, 57, 58, 59, 60, 61, 62, 67, 68, 73] [] S0 u.2.2.2.2.2.2.2 → it (ls_begin_62 K) n u → it (ls_begin_62 K') n u := by
  intro n
  induction n with
  | zero => exact fun _ _ h => h
  | succ n ih => exact fun u hF h => fm_begin_62 hk ih hF h
theorem fm_begin (a0 : Int32) (a1 : Int32) (a2 : Int32) (a3 : Int32) (a4 : Int32) : FmI [0, 22, 23] [51, 52, 53, 54, 55, 56, 57, 58, 59, 60, 61, 62, 67, 68, 73] [] (wp_begin a0 a1 a2 a3 a4) := by
  intro S0 K K' hk h
  have hF : Fr [0, 22, 23] [51, 52, 53, 54, 55, 56, 57, 58, 59, 60, 61, 62, 67, 68, 73] [] S0 S0 := Fr_rf
  unfold wp_begin at h ⊢
  intro S1 e
  replace h := h S1 e
  replace hF := Fr_z hF e (by decide)
  refine ⟨fun c => ?_, fun c => ?_⟩
  · replace h := h.1 c
    exact hk _ _ hF h
  · replace h := h.2 c
    refine ⟨h.1, ?_⟩
    replace h := h.2
    intro z3 e
    replace h := h z3 e
    refine ⟨fun c => ?_, fun c => ?_⟩
    · replace h := h.1 c
      exact hk _ _ hF h
    · replace h := h.2 c
      refine ⟨fun c => ?_, fun c => ?_⟩
      · replace h := h.1 c
        refine fm_newTask _ _ _ _ _ _ (fun S6 r6 hG h => ?_) h
        replace hF := Fr_t hF hG (by decide) (by decide) (by decide)
        intro z7 e
        replace h := h z7 e
        intro z8 e
        replace h := h z8 e
        refine ⟨h.1, ?_⟩
        replace h := h.2
        intro z9 e
        replace h := h z9 e
        obtain ⟨n9, h⟩ := h
        exact ⟨n9, fml_begin_62 hk n9 _ hF h⟩
      · replace h := h.2 c
        exact hk _ _ hF h
theorem fm_isSign (a0 : Int32) : FmI [] [] [] (wp_isSign a0) := by
  intro S0 K K' hk h
  have hF : Fr [] [] [] S0 S0 := Fr_rf
  unfold wp_isSign at h ⊢
  refine ⟨fun c => ?_, fun c => ?_⟩
  · replace h := h.1 c
    exact hk _ _ hF h
  · replace h := h.2 c
    refine ⟨h.1, ?_⟩
    replace h := h.2
    intro z2 e
    replace h := h z2 e
    refine ⟨fun c => ?_, fun c => ?_⟩
    · replace h := h.1 c
      exact hk _ _ hF h
    · replace h := h.2 c
      refine ⟨h.1, ?_⟩
      replace h := h.2
      intro z4 e
      replace h := h z4 e
      intro z5 e
      replace h := h z5 e
      intro z6 e
      replace h := h z6 e
      refine ⟨fun c => ?_, fun c => ?_⟩
      · replace h := h.1 c
        exact hk _ _ hF h
      · replace h := h.2 c
        exact hk _ _ hF h
theorem fm_emit (a0 : Int32) (a1 : Int32) (a2 : Int32) : FmI [7] [12, 13, 14] [] (wp_emit a0 a1 a2) := by
  intro S0 K K' hk h
  have hF : Fr [7] [12, 13, 14] [] S0 S0 := Fr_rf
  unfold wp_emit at h ⊢
  refine ⟨h.1, ?_⟩
  replace h := h.2
  intro S1 e
  replace h := h S1 e
  replace hF := Fr_f hF e (by decide)
  refine ⟨h.1, ?_⟩
  replace h := h.2
  intro S2 e
  replace h := h S2 e
  replace hF := Fr_f hF e (by decide)
  refine ⟨h.1, ?_⟩
  replace h := h.2
  intro S3 e
  replace h := h S3 e
  replace hF := Fr_f hF e (by decide)
  intro z4 e
  replace h := h z4 e
  intro S5 e
  replace h := h S5 e
  replace hF := Fr_z hF e (by decide)
  intro z6 e
  replace h := h z6 e
  exact hk _ _ hF h
theorem fm_isName_62 {K K' : mS → Int32 → Prop} {k28 k28' : Int32 × Int32 × mS → Prop} {S0 : mS} (hk : ∀ S1 r1, Fr [] [] [] S0 S1 → K S1 r1 → K' S1 r1) (hk28 : ∀ u : Int32 × Int32 × mS, Fr [] [] [] S0 u.2.2 → k28 u → k28' u) {x2 : Int32} {y0 : Int32} {S : mS} (hF : Fr [] [] [] S0 S) (h : wp_isName_62 K k28 x2 y0 S) : wp_isName_62 K' k28' x2 y0 S := by
  unfold wp_isName_62 at h ⊢
  intro z10 e
  replace h := h z10 e
  exact hk28 _ hF h
theorem fm_isName_28 {K K' : mS → Int32 → Prop} {k28 k28' : Int32 × Int32 × mS → Prop} {S0 : mS} (hk : ∀ S1 r1, Fr [] [] [] S0 S1 → K S1 r1 → K' S1 r1) (hk28 : ∀ u : Int32 × Int32 × mS, Fr [] [] [] S0 u.2.2 → k28 u → k28' u) {x1 : Int32} {x2 : Int32} {S : mS} (hF : Fr [] [] [] S0 S) (h : wp_isName_28 K k28 x1 x2 S) : wp_isName_28 K' k28' x1 x2 S := by
  unfold wp_isName_28 at h ⊢
  refine ⟨fun c => ?_, fun c => ?_⟩
  · replace h := h.1 c
    refine ⟨h.1, ?_⟩
    replace h := h.2
    exact hk _ _ hF h
  · replace h := h.2 c
    refine ⟨fun c => ?_, fun c => ?_⟩
    · replace h := h.1 c
      refine ⟨h.1, ?_⟩
      replace h := h.2
      exact hk _ _ hF h
    · replace h := h.2 c
      refine ⟨h.1, ?_⟩
      replace h := h.2
      intro z6 e
      replace h := h z6 e
      refine ⟨h.1, ?_⟩
      replace h := h.2
      intro z7 e
      replace h := h z7 e
      intro z8 e
      replace h := h z8 e
      refine ⟨fun c => ?_, fun c => ?_⟩
      · replace h := h.1 c
        exact fm_isName_62 hk hk28 hF h
      · replace h := h.2 c
        exact fm_isName_62 hk hk28 hF h
theorem fml_isName_28 {K K' : mS → Int32 → Prop} {S0 : mS} (hk : ∀ S1 r1, Fr [] [] [] S0 S1 → K S1 r1 → K' S1 r1) : ∀ (n : Nat) (u : Int32 × Int32 × mS), Fr [] [] [] S0 u.2.2 → it (ls_isName_28 K) n u → it (ls_isName_28 K') n u := by
  intro n
  induction n with
  | zero => exact fun _ _ h => h
  | succ n ih => exact fun u hF h => fm_isName_28 hk ih hF h
theorem fm_isName_25 {K K' : mS → Int32 → Prop} {S0 : mS} (hk : ∀ S1 r1, Fr [] [] [] S0 S1 → K S1 r1 → K' S1 r1) {y0 : Int32} {S : mS} (hF : Fr [] [] [] S0 S) (h : wp_isName_25 K y0 S) : wp_isName_25 K' y0 S := by
  unfold wp_isName_25 at h ⊢
  obtain ⟨n9, h⟩ := h
  exact ⟨n9, fml_isName_28 hk n9 _ hF h⟩
theorem fm_isName_24 {K K' : mS → Int32 → Prop} {S0 : mS} (hk : ∀ S1 r1, Fr [] [] [] S0 S1 → K S1 r1 → K' S1 r1) {S : mS} (hF : Fr [] [] [] S0 S) (h : wp_isName_24 K S) : wp_isName_24 K' S := by
  unfold wp_isName_24 at h ⊢
  exact fm_isName_25 hk hF h
theorem fm_isName : FmI [] [] [] (wp_isName) := by
  intro S0 K K' hk h
  have hF : Fr [] [] [] S0 S0 := Fr_rf
  unfold wp_isName at h ⊢
  refine ⟨fun c => ?_, fun c => ?_⟩
  · replace h := h.1 c
    exact fm_isName_24 hk hF h
  · replace h := h.2 c
    refine ⟨h.1, ?_⟩
    replace h := h.2
    intro z2 e
    replace h := h z2 e
    refine ⟨fun c => ?_, fun c => ?_⟩
    · replace h := h.1 c
      exact fm_isName_24 hk hF h
    · replace h := h.2 c
      exact fm_isName_25 hk hF h
theorem fm_isWord (a0 : Int32) : FmI [] [] [] (wp_isWord a0) := by
  intro S0 K K' hk h
  have hF : Fr [] [] [] S0 S0 := Fr_rf
  unfold wp_isWord at h ⊢
  refine ⟨fun c => ?_, fun c => ?_⟩
  · replace h := h.1 c
    exact hk _ _ hF h
  · replace h := h.2 c
    refine ⟨h.1, ?_⟩
    replace h := h.2
    intro z2 e
    replace h := h z2 e
    refine ⟨fun c => ?_, fun c => ?_⟩
    · replace h := h.1 c
      exact hk _ _ hF h
    · replace h := h.2 c
      refine ⟨h.1, ?_⟩
      replace h := h.2
      intro z4 e
      replace h := h z4 e
      refine ⟨h.1, ?_⟩
      replace h := h.2
      intro z5 e
      replace h := h z5 e
      intro z6 e
      replace h := h z6 e
      refine ⟨fun c => ?_, fun c => ?_⟩
      · replace h := h.1 c
        exact hk _ _ hF h
      · replace h := h.2 c
        exact hk _ _ hF h
theorem fm_hasSign (a0 : Int32) : FmI [3] [] [] (wp_hasSign a0) := by
  intro S0 K K' hk h
  have hF : Fr [3] [] [] S0 S0 := Fr_rf
  unfold wp_hasSign at h ⊢
  refine fm_isSign _ _ _ _ (fun S1 r1 hG h => ?_) h
  replace hF := Fr_t hF hG (by decide) (by decide) (by decide)
  refine ⟨fun c => ?_, fun c => ?_⟩
  · replace h := h.1 c
    intro z3 e
    replace h := h z3 e
    intro S4 e
    replace h := h S4 e
    replace hF := Fr_z hF e (by decide)
    refine ⟨h.1, ?_⟩
    replace h := h.2
    exact hk _ _ hF h
  · replace h := h.2 c
    intro z5 e
    replace h := h z5 e
    intro S6 e
    replace h := h S6 e
    replace hF := Fr_z hF e (by decide)
    refine ⟨h.1, ?_⟩
    replace h := h.2
    exact hk _ _ hF h
theorem fm_hasWord (a0 : Int32) : FmI [3] [] [] (wp_hasWord a0) := by
  intro S0 K K' hk h
  have hF : Fr [3] [] [] S0 S0 := Fr_rf
  unfold wp_hasWord at h ⊢
  refine fm_isWord _ _ _ _ (fun S1 r1 hG h => ?_) h
  replace hF := Fr_t hF hG (by decide) (by decide) (by decide)
  refine ⟨fun c => ?_, fun c => ?_⟩
  · replace h := h.1 c
    intro z3 e
    replace h := h z3 e
    intro S4 e
    replace h := h S4 e
    replace hF := Fr_z hF e (by decide)
    refine ⟨h.1, ?_⟩
    replace h := h.2
    exact hk _ _ hF h
  · replace h := h.2 c
    intro z5 e
    replace h := h z5 e
    intro S6 e
    replace h := h S6 e
    replace hF := Fr_z hF e (by decide)
    refine ⟨h.1, ?_⟩
    replace h := h.2
    exact hk _ _ hF h
theorem fm_find_r_31 {K K' : mS → Int32 → Prop} {k6 k6' : Int32 × Int32 × Int64 × Int32 × Int32 × mS → Prop} {S0 : mS} (hk : ∀ S1 r1, Fr [] [] [] S0 S1 → K S1 r1 → K' S1 r1) (hk6 : ∀ u : Int32 × Int32 × Int64 × Int32 × Int32 × mS, Fr [] [] [] S0 u.2.2.2.2.2 → k6 u → k6' u) {x2 : Int32} {x3 : Int32} {x4 : Int64} {x7 : Int32} {y0 : Int32} {S : mS} (hF : Fr [] [] [] S0 S) (h : wp_find_r_31 K k6 x2 x3 x4 x7 y0 S) : wp_find_r_31 K' k6' x2 x3 x4 x7 y0 S := by
  unfold wp_find_r_31 at h ⊢
  intro z6 e
  replace h := h z6 e
  exact hk6 _ hF h
theorem fm_find_r_6 {K K' : mS → Int32 → Prop} {k6 k6' : Int32 × Int32 × Int64 × Int32 × Int32 × mS → Prop} {S0 : mS} (hk : ∀ S1 r1, Fr [] [] [] S0 S1 → K S1 r1 → K' S1 r1) (hk6 : ∀ u : Int32 × Int32 × Int64 × Int32 × Int32 × mS, Fr [] [] [] S0 u.2.2.2.2.2 → k6 u → k6' u) {x2 : Int32} {x3 : Int32} {x4 : Int64} {x6 : Int32} {x7 : Int32} {S : mS} (hF : Fr [] [] [] S0 S) (h : wp_find_r_6 K k6 x2 x3 x4 x6 x7 S) : wp_find_r_6 K' k6' x2 x3 x4 x6 x7 S := by
  unfold wp_find_r_6 at h ⊢
  refine ⟨fun c => ?_, fun c => ?_⟩
  · replace h := h.1 c
    exact hk _ _ hF h
  · replace h := h.2 c
    intro z2 e
    replace h := h z2 e
    refine ⟨h.1, ?_⟩
    replace h := h.2
    intro z3 e
    replace h := h z3 e
    intro z4 e
    replace h := h z4 e
    refine ⟨fun c => ?_, fun c => ?_⟩
    · replace h := h.1 c
      exact fm_find_r_31 hk hk6 hF h
    · replace h := h.2 c
      exact fm_find_r_31 hk hk6 hF h
theorem fml_find_r_6 {K K' : mS → Int32 → Prop} {S0 : mS} (hk : ∀ S1 r1, Fr [] [] [] S0 S1 → K S1 r1 → K' S1 r1) : ∀ (n : Nat) (u : Int32 × Int32 × Int64 × Int32 × Int32 × mS), Fr [] [] [] S0 u.2.2.2.2.2 → it (ls_find_r_6 K) n u → it (ls_find_r_6 K') n u := by
  intro n
  induction n with
  | zero => exact fun _ _ h => h
  | succ n ih => exact fun u hF h => fm_find_r_6 hk ih hF h
theorem fm_find_r (a1 : Int32) (a2 : Int32) (a3 : Int64) : FmI [] [] [] (wp_find_r a1 a2 a3) := by
  intro S0 K K' hk h
  have hF : Fr [] [] [] S0 S0 := Fr_rf
  unfold wp_find_r at h ⊢
  obtain ⟨n9, h⟩ := h
  exact ⟨n9, fml_find_r_6 hk n9 _ hF h⟩
theorem fm_find_c_31 {K K' : mS → Int32 → Prop} {k6 k6' : Int32 × Int32 × Int64 × Int32 × Int32 × mS → Prop} {S0 : mS} (hk : ∀ S1 r1, Fr [] [] [] S0 S1 → K S1 r1 → K' S1 r1) (hk6 : ∀ u : Int32 × Int32 × Int64 × Int32 × Int32 × mS, Fr [] [] [] S0 u.2.2.2.2.2 → k6 u → k6' u) {x2 : Int32} {x3 : Int32} {x4 : Int64} {x7 : Int32} {y0 : Int32} {S : mS} (hF : Fr [] [] [] S0 S) (h : wp_find_c_31 K k6 x2 x3 x4 x7 y0 S) : wp_find_c_31 K' k6' x2 x3 x4 x7 y0 S := by
  unfold wp_find_c_31 at h ⊢
  intro z6 e
  replace h := h z6 e
  exact hk6 _ hF h
theorem fm_find_c_6 {K K' : mS → Int32 → Prop} {k6 k6' : Int32 × Int32 × Int64 × Int32 × Int32 × mS → Prop} {S0 : mS} (hk : ∀ S1 r1, Fr [] [] [] S0 S1 → K S1 r1 → K' S1 r1) (hk6 : ∀ u : Int32 × Int32 × Int64 × Int32 × Int32 × mS, Fr [] [] [] S0 u.2.2.2.2.2 → k6 u → k6' u) {x2 : Int32} {x3 : Int32} {x4 : Int64} {x6 : Int32} {x7 : Int32} {S : mS} (hF : Fr [] [] [] S0 S) (h : wp_find_c_6 K k6 x2 x3 x4 x6 x7 S) : wp_find_c_6 K' k6' x2 x3 x4 x6 x7 S := by
  unfold wp_find_c_6 at h ⊢
  refine ⟨fun c => ?_, fun c => ?_⟩
  · replace h := h.1 c
    exact hk _ _ hF h
  · replace h := h.2 c
    intro z2 e
    replace h := h z2 e
    refine ⟨h.1, ?_⟩
    replace h := h.2
    intro z3 e
    replace h := h z3 e
    intro z4 e
    replace h := h z4 e
    refine ⟨fun c => ?_, fun c => ?_⟩
    · replace h := h.1 c
      exact fm_find_c_31 hk hk6 hF h
    · replace h := h.2 c
      exact fm_find_c_31 hk hk6 hF h
theorem fml_find_c_6 {K K' : mS → Int32 → Prop} {S0 : mS} (hk : ∀ S1 r1, Fr [] [] [] S0 S1 → K S1 r1 → K' S1 r1) : ∀ (n : Nat) (u : Int32 × Int32 × Int64 × Int32 × Int32 × mS), Fr [] [] [] S0 u.2.2.2.2.2 → it (ls_find_c_6 K) n u → it (ls_find_c_6 K') n u := by
  intro n
  induction n with
  | zero => exact fun _ _ h => h
  | succ n ih => exact fun u hF h => fm_find_c_6 hk ih hF h
theorem fm_find_c (a1 : Int32) (a2 : Int32) (a3 : Int64) : FmI [] [] [] (wp_find_c a1 a2 a3) := by
  intro S0 K K' hk h
  have hF : Fr [] [] [] S0 S0 := Fr_rf
  unfold wp_find_c at h ⊢
  obtain ⟨n9, h⟩ := h
  exact ⟨n9, fml_find_c_6 hk n9 _ hF h⟩
theorem fm_wrong (a0 : Int32) : FmV [4] [] [] (wp_wrong a0) := by
  intro S0 K K' hk h
  have hF : Fr [4] [] [] S0 S0 := Fr_rf
  unfold wp_wrong at h ⊢
  refine ⟨fun c => ?_, fun c => ?_⟩
  · replace h := h.1 c
    exact hk _ hF h
  · replace h := h.2 c
    refine ⟨h.1, ?_⟩
    replace h := h.2
    intro z2 e
    replace h := h z2 e
    intro z3 e
    replace h := h z3 e
    intro z4 e
    replace h := h z4 e
    intro S5 e
    replace h := h S5 e
    replace hF := Fr_z hF e (by decide)
    exact hk _ hF h
theorem fm_givenCell_132 {K K' : mS → Prop} {S0 : mS} (hk : ∀ S1, Fr [3, 4] [8] [9] S0 S1 → K S1 → K' S1) {S : mS} (hF : Fr [3, 4] [8] [9] S0 S) (h : wp_givenCell_132 K S) : wp_givenCell_132 K' S := by
  unfold wp_givenCell_132 at h ⊢
  intro z14 e
  replace h := h z14 e
  intro S15 e
  replace h := h S15 e
  replace hF := Fr_z hF e (by decide)
  exact hk _ hF h
theorem fm_givenCell_90 {K K' : mS → Prop} {S0 : mS} (hk : ∀ S1, Fr [3, 4] [8] [9] S0 S1 → K S1 → K' S1) {x1 : Int32} {S : mS} (hF : Fr [3, 4] [8] [9] S0 S) (h : wp_givenCell_90 K x1 S) : wp_givenCell_90 K' x1 S := by
  unfold wp_givenCell_90 at h ⊢
  refine ⟨fun c => ?_, fun c => ?_⟩
  · replace h := h.1 c
    exact fm_givenCell_132 hk hF h
  · replace h := h.2 c
    intro z6 e
    replace h := h z6 e
    refine ⟨h.1, ?_⟩
    replace h := h.2
    intro z7 e
    replace h := h z7 e
    intro z8 e
    replace h := h z8 e
    refine ⟨h.1, ?_⟩
    replace h := h.2
    intro z9 e
    replace h := h z9 e
    refine ⟨h.1, ?_⟩
    replace h := h.2
    intro S10 e
    replace h := h S10 e
    replace hF := Fr_g hF e (by decide)
    refine ⟨h.1, ?_⟩
    replace h := h.2
    intro z11 e
    replace h := h z11 e
    intro z12 e
    replace h := h z12 e
    refine ⟨h.1, ?_⟩
    replace h := h.2
    intro S13 e
    replace h := h S13 e
    replace hF := Fr_f hF e (by decide)
    exact fm_givenCell_132 hk hF h
theorem fm_givenCell_67 {K K' : mS → Prop} {S0 : mS} (hk : ∀ S1, Fr [3, 4] [8] [9] S0 S1 → K S1 → K' S1) {x1 : Int32} {S : mS} (hF : Fr [3, 4] [8] [9] S0 S) (h : wp_givenCell_67 K x1 S) : wp_givenCell_67 K' x1 S := by
  unfold wp_givenCell_67 at h ⊢
  refine ⟨fun c => ?_, fun c => ?_⟩
  · replace h := h.1 c
    exact fm_givenCell_90 hk hF h
  · replace h := h.2 c
    refine ⟨h.1, ?_⟩
    replace h := h.2
    intro z24 e
    replace h := h z24 e
    refine ⟨fun c => ?_, fun c => ?_⟩
    · replace h := h.1 c
      exact fm_givenCell_90 hk hF h
    · replace h := h.2 c
      refine fm_wrong _ _ _ _ (fun S26 hG h => ?_) h
      replace hF := Fr_t hF hG (by decide) (by decide) (by decide)
      exact fm_givenCell_90 hk hF h
theorem fm_givenCell_22 {K K' : mS → Prop} {S0 : mS} (hk : ∀ S1, Fr [3, 4] [8] [9] S0 S1 → K S1 → K' S1) {x1 : Int32} {S : mS} (hF : Fr [3, 4] [8] [9] S0 S) (h : wp_givenCell_22 K x1 S) : wp_givenCell_22 K' x1 S := by
  unfold wp_givenCell_22 at h ⊢
  refine ⟨fun c => ?_, fun c => ?_⟩
  · replace h := h.1 c
    exact fm_givenCell_67 hk hF h
  · replace h := h.2 c
    intro z17 e
    replace h := h z17 e
    refine ⟨h.1, ?_⟩
    replace h := h.2
    intro z18 e
    replace h := h z18 e
    refine ⟨h.1, ?_⟩
    replace h := h.2
    intro z19 e
    replace h := h z19 e
    refine fm_find_c _ _ _ _ _ _ (fun S20 r20 hG h => ?_) h
    replace hF := Fr_t hF hG (by decide) (by decide) (by decide)
    refine ⟨fun c => ?_, fun c => ?_⟩
    · replace h := h.1 c
      exact fm_givenCell_67 hk hF h
    · replace h := h.2 c
      refine fm_wrong _ _ _ _ (fun S22 hG h => ?_) h
      replace hF := Fr_t hF hG (by decide) (by decide) (by decide)
      exact fm_givenCell_90 hk hF h
theorem fm_givenCell (a0 : Int32) : FmV [3, 4] [8] [9] (wp_givenCell a0) := by
  intro S0 K K' hk h
  have hF : Fr [3, 4] [8] [9] S0 S0 := Fr_rf
  unfold wp_givenCell at h ⊢
  refine ⟨fun c => ?_, fun c => ?_⟩
  · replace h := h.1 c
    exact fm_givenCell_22 hk hF h
  · replace h := h.2 c
    refine fm_isName _ _ _ (fun S2 r2 hG h => ?_) h
    replace hF := Fr_t hF hG (by decide) (by decide) (by decide)
    refine ⟨fun c => ?_, fun c => ?_⟩
    · replace h := h.1 c
      exact fm_givenCell_22 hk hF h
    · replace h := h.2 c
      refine fm_wrong _ _ _ _ (fun S4 hG h => ?_) h
      replace hF := Fr_t hF hG (by decide) (by decide) (by decide)
      exact fm_givenCell_90 hk hF h
theorem fm_takeCell_96 {K K' : mS → Int32 → Prop} {S0 : mS} (hk : ∀ S1 r1, Fr [3, 4] [8] [9] S0 S1 → K S1 r1 → K' S1 r1) {x1 : Int32} {S : mS} (hF : Fr [3, 4] [8] [9] S0 S) (h : wp_takeCell_96 K x1 S) : wp_takeCell_96 K' x1 S := by
  unfold wp_takeCell_96 at h ⊢
  intro z14 e
  replace h := h z14 e
  intro S15 e
  replace h := h S15 e
  replace hF := Fr_z hF e (by decide)
  exact hk _ _ hF h
theorem fm_takeCell_63 {K K' : mS → Int32 → Prop} {S0 : mS} (hk : ∀ S1 r1, Fr [3, 4] [8] [9] S0 S1 → K S1 r1 → K' S1 r1) {y0 : Int32} {S : mS} (hF : Fr [3, 4] [8] [9] S0 S) (h : wp_takeCell_63 K y0 S) : wp_takeCell_63 K' y0 S := by
  unfold wp_takeCell_63 at h ⊢
  refine ⟨fun c => ?_, fun c => ?_⟩
  · replace h := h.1 c
    exact fm_takeCell_96 hk hF h
  · replace h := h.2 c
    refine ⟨fun c => ?_, fun c => ?_⟩
    · replace h := h.1 c
      exact fm_takeCell_96 hk hF h
    · replace h := h.2 c
      refine ⟨h.1, ?_⟩
      replace h := h.2
      intro z12 e
      replace h := h z12 e
      refine fm_givenCell _ _ _ _ (fun S13 hG h => ?_) h
      replace hF := Fr_t hF hG (by decide) (by decide) (by decide)
      exact hk _ _ hF h
theorem fm_takeCell_19 {K K' : mS → Int32 → Prop} {S0 : mS} (hk : ∀ S1 r1, Fr [3, 4] [8] [9] S0 S1 → K S1 r1 → K' S1 r1) {S : mS} (hF : Fr [3, 4] [8] [9] S0 S) (h : wp_takeCell_19 K S) : wp_takeCell_19 K' S := by
  unfold wp_takeCell_19 at h ⊢
  refine ⟨fun c => ?_, fun c => ?_⟩
  · replace h := h.1 c
    exact fm_takeCell_63 hk hF h
  · replace h := h.2 c
    intro z6 e
    replace h := h z6 e
    refine ⟨h.1, ?_⟩
    replace h := h.2
    intro z7 e
    replace h := h z7 e
    refine ⟨h.1, ?_⟩
    replace h := h.2
    intro z8 e
    replace h := h z8 e
    refine fm_find_c _ _ _ _ _ _ (fun S9 r9 hG h => ?_) h
    replace hF := Fr_t hF hG (by decide) (by decide) (by decide)
    exact fm_takeCell_63 hk hF h
theorem fm_takeCell : FmI [3, 4] [8] [9] (wp_takeCell) := by
  intro S0 K K' hk h
  have hF : Fr [3, 4] [8] [9] S0 S0 := Fr_rf
  unfold wp_takeCell at h ⊢
  refine ⟨fun c => ?_, fun c => ?_⟩
  · replace h := h.1 c
    exact fm_takeCell_19 hk hF h
  · replace h := h.2 c
    refine fm_isName _ _ _ (fun S2 r2 hG h => ?_) h
    replace hF := Fr_t hF hG (by decide) (by decide) (by decide)
    refine ⟨fun c => ?_, fun c => ?_⟩
    · replace h := h.1 c
      exact fm_takeCell_19 hk hF h
    · replace h := h.2 c
      refine fm_wrong _ _ _ _ (fun S4 hG h => ?_) h
      replace hF := Fr_t hF hG (by decide) (by decide) (by decide)
      exact fm_takeCell_19 hk hF h
theorem fm_takeSign (a0 : Int32) : FmV [3, 4] [] [] (wp_takeSign a0) := by
  intro S0 K K' hk h
  have hF : Fr [3, 4] [] [] S0 S0 := Fr_rf
  unfold wp_takeSign at h ⊢
  refine fm_isSign _ _ _ _ (fun S1 r1 hG h => ?_) h
  replace hF := Fr_t hF hG (by decide) (by decide) (by decide)
  refine ⟨fun c => ?_, fun c => ?_⟩
  · replace h := h.1 c
    refine fm_wrong _ _ _ _ (fun S3 hG h => ?_) h
    replace hF := Fr_t hF hG (by decide) (by decide) (by decide)
    exact hk _ hF h
  · replace h := h.2 c
    intro z4 e
    replace h := h z4 e
    intro S5 e
    replace h := h S5 e
    replace hF := Fr_z hF e (by decide)
    exact hk _ hF h
theorem fm_lead (a0 : Int32) : FmV [] [17, 18] [] (wp_lead a0) := by
  intro S0 K K' hk h
  have hF : Fr [] [17, 18] [] S0 S0 := Fr_rf
  unfold wp_lead at h ⊢
  refine ⟨fun c => ?_, fun c => ?_⟩
  · replace h := h.1 c
    refine ⟨h.1, ?_⟩
    replace h := h.2
    intro z2 e
    replace h := h z2 e
    refine ⟨fun c => ?_, fun c => ?_⟩
    · replace h := h.1 c
      refine ⟨h.1, ?_⟩
      replace h := h.2
      intro S4 e
      replace h := h S4 e
      replace hF := Fr_f hF e (by decide)
      exact hk _ hF h
    · replace h := h.2 c
      refine ⟨h.1, ?_⟩
      replace h := h.2
      intro S5 e
      replace h := h S5 e
      replace hF := Fr_f hF e (by decide)
      exact hk _ hF h
  · replace h := h.2 c
    exact hk _ hF h
theorem fm_then (a0 : Int32) (a1 : Int32) : FmI [8, 19] [15, 16, 17, 18, 19, 20, 21] [] (wp_then a0 a1) := by
  intro S0 K K' hk h
  have hF : Fr [8, 19] [15, 16, 17, 18, 19, 20, 21] [] S0 S0 := Fr_rf
  unfold wp_then at h ⊢
  refine fm_act _ _ _ _ _ (fun S1 r1 hG h => ?_) h
  replace hF := Fr_t hF hG (by decide) (by decide) (by decide)
  refine fm_lead _ _ _ _ (fun S2 hG h => ?_) h
  replace hF := Fr_t hF hG (by decide) (by decide) (by decide)
  intro S3 e
  replace h := h S3 e
  replace hF := Fr_z hF e (by decide)
  exact hk _ _ hF h
theorem fm_within_26 {K K' : mS → Prop} {S0 : mS} (hk : ∀ S1, Fr [4, 18] [] [] S0 S1 → K S1 → K' S1) {S : mS} (hF : Fr [4, 18] [] [] S0 S) (h : wp_within_26 K S) : wp_within_26 K' S := by
  unfold wp_within_26 at h ⊢
  intro z5 e
  replace h := h z5 e
  intro S6 e
  replace h := h S6 e
  replace hF := Fr_z hF e (by decide)
  exact hk _ hF h
theorem fm_within (a0 : Int32) : FmV [4, 18] [] [] (wp_within a0) := by
  intro S0 K K' hk h
  have hF : Fr [4, 18] [] [] S0 S0 := Fr_rf
  unfold wp_within at h ⊢
  refine ⟨fun c => ?_, fun c => ?_⟩
  · replace h := h.1 c
    refine ⟨fun c => ?_, fun c => ?_⟩
    · replace h := h.1 c
      exact fm_within_26 hk hF h
    · replace h := h.2 c
      refine fm_wrong _ _ _ _ (fun S3 hG h => ?_) h
      replace hF := Fr_t hF hG (by decide) (by decide) (by decide)
      exact fm_within_26 hk hF h
  · replace h := h.2 c
    refine fm_wrong _ _ _ _ (fun S4 hG h => ?_) h
    replace hF := Fr_t hF hG (by decide) (by decide) (by decide)
    exact fm_within_26 hk hF h
theorem fm_product_97 {r_part : mS → (mS → Prop) → Prop} (hr_part : FmV [3, 4, 7, 8, 18, 19] [8, 12, 13, 14, 15, 16, 17, 18, 19, 20, 21] [9] (r_part)) {K K' : mS → Prop} {k4 k4' : mS → Prop} {S0 : mS} (hk : ∀ S1, Fr [3, 4, 7, 8, 18, 19] [8, 12, 13, 14, 15, 16, 17, 18, 19, 20, 21] [9] S0 S1 → K S1 → K' S1) (hk4 : ∀ u : mS, Fr [3, 4, 7, 8, 18, 19] [8, 12, 13, 14, 15, 16, 17, 18, 19, 20, 21] [9] S0 u → k4 u → k4' u) {S : mS} (hF : Fr [3, 4, 7, 8, 18, 19] [8, 12, 13, 14, 15, 16, 17, 18, 19, 20, 21] [9] S0 S) (h : wp_product_97 r_part K k4 S) : wp_product_97 r_part K' k4' S := by
  unfold wp_product_97 at h ⊢
  exact hk4 _ hF h
theorem fm_product_61 {r_part : mS → (mS → Prop) → Prop} (hr_part : FmV [3, 4, 7, 8, 18, 19] [8, 12, 13, 14, 15, 16, 17, 18, 19, 20, 21] [9] (r_part)) {K K' : mS → Prop} {k4 k4' : mS → Prop} {S0 : mS} (hk : ∀ S1, Fr [3, 4, 7, 8, 18, 19] [8, 12, 13, 14, 15, 16, 17, 18, 19, 20, 21] [9] S0 S1 → K S1 → K' S1) (hk4 : ∀ u : mS, Fr [3, 4, 7, 8, 18, 19] [8, 12, 13, 14, 15, 16, 17, 18, 19, 20, 21] [9] S0 u → k4 u → k4' u) {y0 : Int32} {S : mS} (hF : Fr [3, 4, 7, 8, 18, 19] [8, 12, 13, 14, 15, 16, 17, 18, 19, 20, 21] [9] S0 S) (h : wp_product_61 r_part K k4 y0 S) : wp_product_61 r_part K' k4' y0 S := by
  unfold wp_product_61 at h ⊢
  intro z12 e
  replace h := h z12 e
  intro S13 e
  replace h := h S13 e
  replace hF := Fr_z hF e (by decide)
  refine hr_part _ _ _ (fun S14 hG h => ?_) h
  replace hF := Fr_t hF hG (by decide) (by decide) (by decide)
  refine fm_emit _ _ _ _ _ _ (fun S15 r15 hG h => ?_) h
  replace hF := Fr_t hF hG (by decide) (by decide) (by decide)
  refine ⟨fun c => ?_, fun c => ?_⟩
  · replace h := h.1 c
    exact fm_product_97 hr_part hk hk4 hF h
  · replace h := h.2 c
    refine fm_then _ _ _ _ _ (fun S17 r17 hG h => ?_) h
    replace hF := Fr_t hF hG (by decide) (by decide) (by decide)
    exact fm_product_97 hr_part hk hk4 hF h
theorem fm_product_31 {r_part : mS → (mS → Prop) → Prop} (hr_part : FmV [3, 4, 7, 8, 18, 19] [8, 12, 13, 14, 15, 16, 17, 18, 19, 20, 21] [9] (r_part)) {K K' : mS → Prop} {k4 k4' : mS → Prop} {S0 : mS} (hk : ∀ S1, Fr [3, 4, 7, 8, 18, 19] [8, 12, 13, 14, 15, 16, 17, 18, 19, 20, 21] [9] S0 S1 → K S1 → K' S1) (hk4 : ∀ u : mS, Fr [3, 4, 7, 8, 18, 19] [8, 12, 13, 14, 15, 16, 17, 18, 19, 20, 21] [9] S0 u → k4 u → k4' u) {S : mS} (hF : Fr [3, 4, 7, 8, 18, 19] [8, 12, 13, 14, 15, 16, 17, 18, 19, 20, 21] [9] S0 S) (h : wp_product_31 r_part K k4 S) : wp_product_31 r_part K' k4' S := by
  unfold wp_product_31 at h ⊢
  refine fm_isSign _ _ _ _ (fun S8 r8 hG h => ?_) h
  replace hF := Fr_t hF hG (by decide) (by decide) (by decide)
  refine ⟨fun c => ?_, fun c => ?_⟩
  · replace h := h.1 c
    refine fm_isSign _ _ _ _ (fun S10 r10 hG h => ?_) h
    replace hF := Fr_t hF hG (by decide) (by decide) (by decide)
    refine ⟨fun c => ?_, fun c => ?_⟩
    · replace h := h.1 c
      exact fm_product_61 hr_part hk hk4 hF h
    · replace h := h.2 c
      exact fm_product_61 hr_part hk hk4 hF h
  · replace h := h.2 c
    exact fm_product_61 hr_part hk hk4 hF h
theorem fm_product_4 {r_part : mS → (mS → Prop) → Prop} (hr_part : FmV [3, 4, 7, 8, 18, 19] [8, 12, 13, 14, 15, 16, 17, 18, 19, 20, 21] [9] (r_part)) {K K' : mS → Prop} {k4 k4' : mS → Prop} {S0 : mS} (hk : ∀ S1, Fr [3, 4, 7, 8, 18, 19] [8, 12, 13, 14, 15, 16, 17, 18, 19, 20, 21] [9] S0 S1 → K S1 → K' S1) (hk4 : ∀ u : mS, Fr [3, 4, 7, 8, 18, 19] [8, 12, 13, 14, 15, 16, 17, 18, 19, 20, 21] [9] S0 u → k4 u → k4' u) {S : mS} (hF : Fr [3, 4, 7, 8, 18, 19] [8, 12, 13, 14, 15, 16, 17, 18, 19, 20, 21] [9] S0 S) (h : wp_product_4 r_part K k4 S) : wp_product_4 r_part K' k4' S := by
  unfold wp_product_4 at h ⊢
  refine fm_isSign _ _ _ _ (fun S2 r2 hG h => ?_) h
  replace hF := Fr_t hF hG (by decide) (by decide) (by decide)
  refine ⟨fun c => ?_, fun c => ?_⟩
  · replace h := h.1 c
    exact fm_product_31 hr_part hk hk4 hF h
  · replace h := h.2 c
    refine fm_isSign _ _ _ _ (fun S4 r4 hG h => ?_) h
    replace hF := Fr_t hF hG (by decide) (by decide) (by decide)
    refine ⟨fun c => ?_, fun c => ?_⟩
    · replace h := h.1 c
      exact fm_product_31 hr_part hk hk4 hF h
    · replace h := h.2 c
      refine fm_isSign _ _ _ _ (fun S6 r6 hG h => ?_) h
      replace hF := Fr_t hF hG (by decide) (by decide) (by decide)
      refine ⟨fun c => ?_, fun c => ?_⟩
      · replace h := h.1 c
        exact hk _ hF h
      · replace h := h.2 c
        exact fm_product_31 hr_part hk hk4 hF h
theorem fml_product_4 {r_part : mS → (mS → Prop) → Prop} (hr_part : FmV [3, 4, 7, 8, 18, 19] [8, 12, 13, 14, 15, 16, 17, 18, 19, 20, 21] [9] (r_part)) {K K' : mS → Prop} {S0 : mS} (hk : ∀ S1, Fr [3, 4, 7, 8, 18, 19] [8, 12, 13, 14, 15, 16, 17, 18, 19, 20, 21] [9] S0 S1 → K S1 → K' S1) : ∀ (n : Nat) (u : mS), Fr [3, 4, 7, 8, 18, 19] [8, 12, 13, 14, 15, 16, 17, 18, 19, 20, 21] [9] S0 u → it (ls_product_4 r_part K) n u → it (ls_product_4 r_part K') n u := by
  intro n
  induction n with
  | zero => exact fun _ _ h => h
  | succ n ih => exact fun u hF h => fm_product_4 hr_part hk ih hF h
theorem fm_product {r_part : mS → (mS → Prop) → Prop} (hr_part : FmV [3, 4, 7, 8, 18, 19] [8, 12, 13, 14, 15, 16, 17, 18, 19, 20, 21] [9] (r_part)) : FmV [3, 4, 7, 8, 18, 19] [8, 12, 13, 14, 15, 16, 17, 18, 19, 20, 21] [9] (wp_product r_part) := by
  intro S0 K K' hk h
  have hF : Fr [3, 4, 7, 8, 18, 19] [8, 12, 13, 14, 15, 16, 17, 18, 19, 20, 21] [9] S0 S0 := Fr_rf
  unfold wp_product at h ⊢
  refine hr_part _ _ _ (fun S1 hG h => ?_) h
  replace hF := Fr_t hF hG (by decide) (by decide) (by decide)
  obtain ⟨n9, h⟩ := h
  exact ⟨n9, fml_product_4 hr_part hk n9 _ hF h⟩
theorem fm_sum_38 {r_part : mS → (mS → Prop) → Prop} (hr_part : FmV [3, 4, 7, 8, 18, 19] [8, 12, 13, 14, 15, 16, 17, 18, 19, 20, 21] [9] (r_part)) {K K' : mS → Prop} {k4 k4' : mS → Prop} {S0 : mS} (hk : ∀ S1, Fr [3, 4, 7, 8, 18, 19] [8, 12, 13, 14, 15, 16, 17, 18, 19, 20, 21] [9] S0 S1 → K S1 → K' S1) (hk4 : ∀ u : mS, Fr [3, 4, 7, 8, 18, 19] [8, 12, 13, 14, 15, 16, 17, 18, 19, 20, 21] [9] S0 u → k4 u → k4' u) {y0 : Int32} {S : mS} (hF : Fr [3, 4, 7, 8, 18, 19] [8, 12, 13, 14, 15, 16, 17, 18, 19, 20, 21] [9] S0 S) (h : wp_sum_38 r_part K k4 y0 S) : wp_sum_38 r_part K' k4' y0 S := by
  unfold wp_sum_38 at h ⊢
  intro z8 e
  replace h := h z8 e
  intro S9 e
  replace h := h S9 e
  replace hF := Fr_z hF e (by decide)
  refine fm_product hr_part _ _ _ (fun S10 hG h => ?_) h
  replace hF := Fr_t hF hG (by decide) (by decide) (by decide)
  refine fm_emit _ _ _ _ _ _ (fun S11 r11 hG h => ?_) h
  replace hF := Fr_t hF hG (by decide) (by decide) (by decide)
  exact hk4 _ hF h
theorem fm_sum_22 {r_part : mS → (mS → Prop) → Prop} (hr_part : FmV [3, 4, 7, 8, 18, 19] [8, 12, 13, 14, 15, 16, 17, 18, 19, 20, 21] [9] (r_part)) {K K' : mS → Prop} {k4 k4' : mS → Prop} {S0 : mS} (hk : ∀ S1, Fr [3, 4, 7, 8, 18, 19] [8, 12, 13, 14, 15, 16, 17, 18, 19, 20, 21] [9] S0 S1 → K S1 → K' S1) (hk4 : ∀ u : mS, Fr [3, 4, 7, 8, 18, 19] [8, 12, 13, 14, 15, 16, 17, 18, 19, 20, 21] [9] S0 u → k4 u → k4' u) {S : mS} (hF : Fr [3, 4, 7, 8, 18, 19] [8, 12, 13, 14, 15, 16, 17, 18, 19, 20, 21] [9] S0 S) (h : wp_sum_22 r_part K k4 S) : wp_sum_22 r_part K' k4' S := by
  unfold wp_sum_22 at h ⊢
  refine fm_isSign _ _ _ _ (fun S6 r6 hG h => ?_) h
  replace hF := Fr_t hF hG (by decide) (by decide) (by decide)
  refine ⟨fun c => ?_, fun c => ?_⟩
  · replace h := h.1 c
    exact fm_sum_38 hr_part hk hk4 hF h
  · replace h := h.2 c
    exact fm_sum_38 hr_part hk hk4 hF h
theorem fm_sum_4 {r_part : mS → (mS → Prop) → Prop} (hr_part : FmV [3, 4, 7, 8, 18, 19] [8, 12, 13, 14, 15, 16, 17, 18, 19, 20, 21] [9] (r_part)) {K K' : mS → Prop} {k4 k4' : mS → Prop} {S0 : mS} (hk : ∀ S1, Fr [3, 4, 7, 8, 18, 19] [8, 12, 13, 14, 15, 16, 17, 18, 19, 20, 21] [9] S0 S1 → K S1 → K' S1) (hk4 : ∀ u : mS, Fr [3, 4, 7, 8, 18, 19] [8, 12, 13, 14, 15, 16, 17, 18, 19, 20, 21] [9] S0 u → k4 u → k4' u) {S : mS} (hF : Fr [3, 4, 7, 8, 18, 19] [8, 12, 13, 14, 15, 16, 17, 18, 19, 20, 21] [9] S0 S) (h : wp_sum_4 r_part K k4 S) : wp_sum_4 r_part K' k4' S := by
  unfold wp_sum_4 at h ⊢
  refine fm_isSign _ _ _ _ (fun S2 r2 hG h => ?_) h
  replace hF := Fr_t hF hG (by decide) (by decide) (by decide)
  refine ⟨fun c => ?_, fun c => ?_⟩
  · replace h := h.1 c
    exact fm_sum_22 hr_part hk hk4 hF h
  · replace h := h.2 c
    refine fm_isSign _ _ _ _ (fun S4 r4 hG h => ?_) h
    replace hF := Fr_t hF hG (by decide) (by decide) (by decide)
    refine ⟨fun c => ?_, fun c => ?_⟩
    · replace h := h.1 c
      exact hk _ hF h
    · replace h := h.2 c
      exact fm_sum_22 hr_part hk hk4 hF h
theorem fml_sum_4 {r_part : mS → (mS → Prop) → Prop} (hr_part : FmV [3, 4, 7, 8, 18, 19] [8, 12, 13, 14, 15, 16, 17, 18, 19, 20, 21] [9] (r_part)) {K K' : mS → Prop} {S0 : mS} (hk : ∀ S1, Fr [3, 4, 7, 8, 18, 19] [8, 12, 13, 14, 15, 16, 17, 18, 19, 20, 21] [9] S0 S1 → K S1 → K' S1) : ∀ (n : Nat) (u : mS), Fr [3, 4, 7, 8, 18, 19] [8, 12, 13, 14, 15, 16, 17, 18, 19, 20, 21] [9] S0 u → it (ls_sum_4 r_part K) n u → it (ls_sum_4 r_part K') n u := by
  intro n
  induction n with
  | zero => exact fun _ _ h => h
  | succ n ih => exact fun u hF h => fm_sum_4 hr_part hk ih hF h
theorem fm_sum {r_part : mS → (mS → Prop) → Prop} (hr_part : FmV [3, 4, 7, 8, 18, 19] [8, 12, 13, 14, 15, 16, 17, 18, 19, 20, 21] [9] (r_part)) : FmV [3, 4, 7, 8, 18, 19] [8, 12, 13, 14, 15, 16, 17, 18, 19, 20, 21] [9] (wp_sum r_part) := by
  intro S0 K K' hk h
  have hF : Fr [3, 4, 7, 8, 18, 19] [8, 12, 13, 14, 15, 16, 17, 18, 19, 20, 21] [9] S0 S0 := Fr_rf
  unfold wp_sum at h ⊢
  refine fm_product hr_part _ _ _ (fun S1 hG h => ?_) h
  replace hF := Fr_t hF hG (by decide) (by decide) (by decide)
  obtain ⟨n9, h⟩ := h
  exact ⟨n9, fml_sum_4 hr_part hk n9 _ hF h⟩
theorem fm_expression_50 {r_part : mS → (mS → Prop) → Prop} (hr_part : FmV [3, 4, 7, 8, 18, 19] [8, 12, 13, 14, 15, 16, 17, 18, 19, 20, 21] [9] (r_part)) {K K' : mS → Prop} {S0 : mS} (hk : ∀ S1, Fr [3, 4, 7, 8, 18, 19] [8, 12, 13, 14, 15, 16, 17, 18, 19, 20, 21] [9] S0 S1 → K S1 → K' S1) {y1 : Int32} {S : mS} (hF : Fr [3, 4, 7, 8, 18, 19] [8, 12, 13, 14, 15, 16, 17, 18, 19, 20, 21] [9] S0 S) (h : wp_expression_50 r_part K y1 S) : wp_expression_50 r_part K' y1 S := by
  unfold wp_expression_50 at h ⊢
  refine fm_emit _ _ _ _ _ _ (fun S10 r10 hG h => ?_) h
  replace hF := Fr_t hF hG (by decide) (by decide) (by decide)
  exact hk _ hF h
theorem fm_expression_24 {r_part : mS → (mS → Prop) → Prop} (hr_part : FmV [3, 4, 7, 8, 18, 19] [8, 12, 13, 14, 15, 16, 17, 18, 19, 20, 21] [9] (r_part)) {K K' : mS → Prop} {S0 : mS} (hk : ∀ S1, Fr [3, 4, 7, 8, 18, 19] [8, 12, 13, 14, 15, 16, 17, 18, 19, 20, 21] [9] S0 S1 → K S1 → K' S1) {x1 : Int32} {S : mS} (hF : Fr [3, 4, 7, 8, 18, 19] [8, 12, 13, 14, 15, 16, 17, 18, 19, 20, 21] [9] S0 S) (h : wp_expression_24 r_part K x1 S) : wp_expression_24 r_part K' x1 S := by
  unfold wp_expression_24 at h ⊢
  intro z6 e
  replace h := h z6 e
  intro S7 e
  replace h := h S7 e
  replace hF := Fr_z hF e (by decide)
  refine fm_sum hr_part _ _ _ (fun S8 hG h => ?_) h
  replace hF := Fr_t hF hG (by decide) (by decide) (by decide)
  refine ⟨fun c => ?_, fun c => ?_⟩
  · replace h := h.1 c
    exact fm_expression_50 hr_part hk hF h
  · replace h := h.2 c
    exact fm_expression_50 hr_part hk hF h
theorem fm_expression {r_part : mS → (mS → Prop) → Prop} (hr_part : FmV [3, 4, 7, 8, 18, 19] [8, 12, 13, 14, 15, 16, 17, 18, 19, 20, 21] [9] (r_part)) : FmV [3, 4, 7, 8, 18, 19] [8, 12, 13, 14, 15, 16, 17, 18, 19, 20, 21] [9] (wp_expression r_part) := by
  intro S0 K K' hk h
  have hF : Fr [3, 4, 7, 8, 18, 19] [8, 12, 13, 14, 15, 16, 17, 18, 19, 20, 21] [9] S0 S0 := Fr_rf
  unfold wp_expression at h ⊢
  refine fm_sum hr_part _ _ _ (fun S1 hG h => ?_) h
  replace hF := Fr_t hF hG (by decide) (by decide) (by decide)
  refine fm_isSign _ _ _ _ (fun S2 r2 hG h => ?_) h
  replace hF := Fr_t hF hG (by decide) (by decide) (by decide)
  refine ⟨fun c => ?_, fun c => ?_⟩
  · replace h := h.1 c
    exact fm_expression_24 hr_part hk hF h
  · replace h := h.2 c
    refine fm_isSign _ _ _ _ (fun S4 r4 hG h => ?_) h
    replace hF := Fr_t hF hG (by decide) (by decide) (by decide)
    refine ⟨fun c => ?_, fun c => ?_⟩
    · replace h := h.1 c
      exact hk _ hF h
    · replace h := h.2 c
      exact fm_expression_24 hr_part hk hF h
theorem fm_partWithin {r_part : mS → (mS → Prop) → Prop} (hr_part : FmV [3, 4, 7, 8, 18, 19] [8, 12, 13, 14, 15, 16, 17, 18, 19, 20, 21] [9] (r_part)) : FmV [3, 4, 7, 8, 18, 19] [8, 12, 13, 14, 15, 16, 17, 18, 19, 20, 21] [9] (wp_partWithin r_part) := by
  intro S0 K K' hk h
  have hF : Fr [3, 4, 7, 8, 18, 19] [8, 12, 13, 14, 15, 16, 17, 18, 19, 20, 21] [9] S0 S0 := Fr_rf
  unfold wp_partWithin at h ⊢
  refine fm_emit _ _ _ _ _ _ (fun S1 r1 hG h => ?_) h
  replace hF := Fr_t hF hG (by decide) (by decide) (by decide)
  refine ⟨h.1, ?_⟩
  replace h := h.2
  intro z2 e
  replace h := h z2 e
  refine ⟨fun c => ?_, fun c => ?_⟩
  · replace h := h.1 c
    refine fm_hasSign _ _ _ _ (fun S4 r4 hG h => ?_) h
    replace hF := Fr_t hF hG (by decide) (by decide) (by decide)
    refine ⟨fun c => ?_, fun c => ?_⟩
    · replace h := h.1 c
      refine fm_hasSign _ _ _ _ (fun S6 r6 hG h => ?_) h
      replace hF := Fr_t hF hG (by decide) (by decide) (by decide)
      refine ⟨fun c => ?_, fun c => ?_⟩
      · replace h := h.1 c
        refine fm_hasWord _ _ _ _ (fun S8 r8 hG h => ?_) h
        replace hF := Fr_t hF hG (by decide) (by decide) (by decide)
        refine ⟨fun c => ?_, fun c => ?_⟩
        · replace h := h.1 c
          refine fm_takeCell _ _ _ (fun S10 r10 hG h => ?_) h
          replace hF := Fr_t hF hG (by decide) (by decide) (by decide)
          refine fm_emit _ _ _ _ _ _ (fun S11 r11 hG h => ?_) h
          replace hF := Fr_t hF hG (by decide) (by decide) (by decide)
          refine fm_then _ _ _ _ _ (fun S12 r12 hG h => ?_) h
          replace hF := Fr_t hF hG (by decide) (by decide) (by decide)
          exact hk _ hF h
        · replace h := h.2 c
          refine fm_emit _ _ _ _ _ _ (fun S13 r13 hG h => ?_) h
          replace hF := Fr_t hF hG (by decide) (by decide) (by decide)
          exact hk _ hF h
      · replace h := h.2 c
        refine hr_part _ _ _ (fun S14 hG h => ?_) h
        replace hF := Fr_t hF hG (by decide) (by decide) (by decide)
        refine fm_emit _ _ _ _ _ _ (fun S15 r15 hG h => ?_) h
        replace hF := Fr_t hF hG (by decide) (by decide) (by decide)
        exact hk _ hF h
    · replace h := h.2 c
      refine fm_expression hr_part _ _ _ (fun S16 hG h => ?_) h
      replace hF := Fr_t hF hG (by decide) (by decide) (by decide)
      refine fm_takeSign _ _ _ _ (fun S17 hG h => ?_) h
      replace hF := Fr_t hF hG (by decide) (by decide) (by decide)
      exact hk _ hF h
  · replace h := h.2 c
    refine ⟨h.1, ?_⟩
    replace h := h.2
    intro z18 e
    replace h := h z18 e
    intro z19 e
    replace h := h z19 e
    refine fm_emit _ _ _ _ _ _ (fun S20 r20 hG h => ?_) h
    replace hF := Fr_t hF hG (by decide) (by decide) (by decide)
    intro z21 e
    replace h := h z21 e
    intro S22 e
    replace h := h S22 e
    replace hF := Fr_z hF e (by decide)
    exact hk _ hF h
theorem fm_part_74 {r_part : mS → (mS → Prop) → Prop} (hr_part : FmV [3, 4, 7, 8, 18, 19] [8, 12, 13, 14, 15, 16, 17, 18, 19, 20, 21] [9] (r_part)) {K K' : mS → Prop} {S0 : mS} (hk : ∀ S1, Fr [3, 4, 7, 8, 18, 19] [8, 12, 13, 14, 15, 16, 17, 18, 19, 20, 21] [9] S0 S1 → K S1 → K' S1) {S : mS} (hF : Fr [3, 4, 7, 8, 18, 19] [8, 12, 13, 14, 15, 16, 17, 18, 19, 20, 21] [9] S0 S) (h : wp_part_74 r_part K S) : wp_part_74 r_part K' S := by
  unfold wp_part_74 at h ⊢
  intro z15 e
  replace h := h z15 e
  intro S16 e
  replace h := h S16 e
  replace hF := Fr_z hF e (by decide)
  exact hk _ hF h
theorem fm_part_60 {r_part : mS → (mS → Prop) → Prop} (hr_part : FmV [3, 4, 7, 8, 18, 19] [8, 12, 13, 14, 15, 16, 17, 18, 19, 20, 21] [9] (r_part)) {K K' : mS → Prop} {S0 : mS} (hk : ∀ S1, Fr [3, 4, 7, 8, 18, 19] [8, 12, 13, 14, 15, 16, 17, 18, 19, 20, 21] [9] S0 S1 → K S1 → K' S1) {y1 : Int32} {S : mS} (hF : Fr [3, 4, 7, 8, 18, 19] [8, 12, 13, 14, 15, 16, 17, 18, 19, 20, 21] [9] S0 S) (h : wp_part_60 r_part K y1 S) : wp_part_60 r_part K' y1 S := by
  unfold wp_part_60 at h ⊢
  refine fm_within _ _ _ _ (fun S12 hG h => ?_) h
  replace hF := Fr_t hF hG (by decide) (by decide) (by decide)
  refine ⟨fun c => ?_, fun c => ?_⟩
  · replace h := h.1 c
    exact fm_part_74 hr_part hk hF h
  · replace h := h.2 c
    refine fm_partWithin hr_part _ _ _ (fun S14 hG h => ?_) h
    replace hF := Fr_t hF hG (by decide) (by decide) (by decide)
    exact fm_part_74 hr_part hk hF h
theorem fm_part_59 {r_part : mS → (mS → Prop) → Prop} (hr_part : FmV [3, 4, 7, 8, 18, 19] [8, 12, 13, 14, 15, 16, 17, 18, 19, 20, 21] [9] (r_part)) {K K' : mS → Prop} {S0 : mS} (hk : ∀ S1, Fr [3, 4, 7, 8, 18, 19] [8, 12, 13, 14, 15, 16, 17, 18, 19, 20, 21] [9] S0 S1 → K S1 → K' S1) {S : mS} (hF : Fr [3, 4, 7, 8, 18, 19] [8, 12, 13, 14, 15, 16, 17, 18, 19, 20, 21] [9] S0 S) (h : wp_part_59 r_part K S) : wp_part_59 r_part K' S := by
  unfold wp_part_59 at h ⊢
  exact fm_part_60 hr_part hk hF h
theorem fm_part_55 {r_part : mS → (mS → Prop) → Prop} (hr_part : FmV [3, 4, 7, 8, 18, 19] [8, 12, 13, 14, 15, 16, 17, 18, 19, 20, 21] [9] (r_part)) {K K' : mS → Prop} {S0 : mS} (hk : ∀ S1, Fr [3, 4, 7, 8, 18, 19] [8, 12, 13, 14, 15, 16, 17, 18, 19, 20, 21] [9] S0 S1 → K S1 → K' S1) {S : mS} (hF : Fr [3, 4, 7, 8, 18, 19] [8, 12, 13, 14, 15, 16, 17, 18, 19, 20, 21] [9] S0 S) (h : wp_part_55 r_part K S) : wp_part_55 r_part K' S := by
  unfold wp_part_55 at h ⊢
  exact fm_part_60 hr_part hk hF h
theorem fm_part {r_part : mS → (mS → Prop) → Prop} (hr_part : FmV [3, 4, 7, 8, 18, 19] [8, 12, 13, 14, 15, 16, 17, 18, 19, 20, 21] [9] (r_part)) : FmV [3, 4, 7, 8, 18, 19] [8, 12, 13, 14, 15, 16, 17, 18, 19, 20, 21] [9] (wp_part r_part) := by
  intro S0 K K' hk h
  have hF : Fr [3, 4, 7, 8, 18, 19] [8, 12, 13, 14, 15, 16, 17, 18, 19, 20, 21] [9] S0 S0 := Fr_rf
  unfold wp_part at h ⊢
  refine ⟨fun c => ?_, fun c => ?_⟩
  · replace h := h.1 c
    exact fm_part_59 hr_part hk hF h
  · replace h := h.2 c
    refine ⟨h.1, ?_⟩
    replace h := h.2
    intro z2 e
    replace h := h z2 e
    refine ⟨fun c => ?_, fun c => ?_⟩
    · replace h := h.1 c
      exact fm_part_55 hr_part hk hF h
    · replace h := h.2 c
      refine fm_isSign _ _ _ _ (fun S4 r4 hG h => ?_) h
      replace hF := Fr_t hF hG (by decide) (by decide) (by decide)
      refine ⟨fun c => ?_, fun c => ?_⟩
      · replace h := h.1 c
        exact fm_part_55 hr_part hk hF h
      · replace h := h.2 c
        refine fm_isSign _ _ _ _ (fun S6 r6 hG h => ?_) h
        replace hF := Fr_t hF hG (by decide) (by decide) (by decide)
        refine ⟨fun c => ?_, fun c => ?_⟩
        · replace h := h.1 c
          exact fm_part_55 hr_part hk hF h
        · replace h := h.2 c
          refine fm_isWord _ _ _ _ (fun S8 r8 hG h => ?_) h
          replace hF := Fr_t hF hG (by decide) (by decide) (by decide)
          refine ⟨fun c => ?_, fun c => ?_⟩
          · replace h := h.1 c
            exact fm_part_55 hr_part hk hF h
          · replace h := h.2 c
            refine fm_isName _ _ _ (fun S10 r10 hG h => ?_) h
            replace hF := Fr_t hF hG (by decide) (by decide) (by decide)
            refine ⟨fun c => ?_, fun c => ?_⟩
            · replace h := h.1 c
              exact fm_part_59 hr_part hk hF h
            · replace h := h.2 c
              exact fm_part_55 hr_part hk hF h
theorem fr_part : ∀ n : Nat, (FmV [3, 4, 7, 8, 18, 19] [8, 12, 13, 14, 15, 16, 17, 18, 19, 20, 21] [9] ((wr_part n))) := by
  intro n
  induction n with
  | zero => exact fun _ _ _ _ h => h
  | succ n ih => exact fm_part ih
theorem fq_partWithin : FmV [3, 4, 7, 8, 18, 19] [8, 12, 13, 14, 15, 16, 17, 18, 19, 20, 21] [9] (wq_partWithin) := fm_partWithin (fr_part 12)
theorem fq_part : FmV [3, 4, 7, 8, 18, 19] [8, 12, 13, 14, 15, 16, 17, 18, 19, 20, 21] [9] (wq_part) := (fr_part 12)
theorem fq_product : FmV [3, 4, 7, 8, 18, 19] [8, 12, 13, 14, 15, 16, 17, 18, 19, 20, 21] [9] (wq_product) := fm_product (fr_part 12)
theorem fq_sum : FmV [3, 4, 7, 8, 18, 19] [8, 12, 13, 14, 15, 16, 17, 18, 19, 20, 21] [9] (wq_sum) := fm_sum (fr_part 12)
theorem fq_expression : FmV [3, 4, 7, 8, 18, 19] [8, 12, 13, 14, 15, 16, 17, 18, 19, 20, 21] [9] (wq_expression) := fm_expression (fr_part 12)
theorem fm_join (a0 : Int32) : FmV [8, 19] [15, 16, 17, 18, 19, 20, 21] [] (wp_join a0) := by
  intro S0 K K' hk h
  have hF : Fr [8, 19] [15, 16, 17, 18, 19, 20, 21] [] S0 S0 := Fr_rf
  unfold wp_join at h ⊢
  refine fm_act _ _ _ _ _ (fun S1 r1 hG h => ?_) h
  replace hF := Fr_t hF hG (by decide) (by decide) (by decide)
  refine fm_lead _ _ _ _ (fun S2 hG h => ?_) h
  replace hF := Fr_t hF hG (by decide) (by decide) (by decide)
  intro S3 e
  replace h := h S3 e
  replace hF := Fr_z hF e (by decide)
  refine fm_lead _ _ _ _ (fun S4 hG h => ?_) h
  replace hF := Fr_t hF hG (by decide) (by decide) (by decide)
  intro S5 e
  replace h := h S5 e
  replace hF := Fr_z hF e (by decide)
  exact hk _ hF h
theorem fm_marks_b_48 {K K' : mS → Prop} {k11 k11' : Int32 × Int32 × Int32 × mS → Prop} {S0 : mS} (hk : ∀ S1, Fr [] [37] [] S0 S1 → K S1 → K' S1) (hk11 : ∀ u : Int32 × Int32 × Int32 × mS, Fr [] [37] [] S0 u.2.2.2 → k11 u → k11' u) {x2 : Int32} {x3 : Int32} {y1 : Int32} {y2 : Int32} {S : mS} (hF : Fr [] [37] [] S0 S) (h : wp_marks_b_48 K k11 x2 x3 y1 y2 S) : wp_marks_b_48 K' k11' x2 x3 y1 y2 S := by
  unfold wp_marks_b_48 at h ⊢
  refine ⟨h.1, ?_⟩
  replace h := h.2
  refine ⟨h.1, ?_⟩
  replace h := h.2
  intro S8 e
  replace h := h S8 e
  replace hF := Fr_f hF e (by decide)
  refine ⟨h.1, ?_⟩
  replace h := h.2
  intro z9 e
  replace h := h z9 e
  refine ⟨h.1, ?_⟩
  replace h := h.2
  intro z10 e
  replace h := h z10 e
  exact hk11 _ hF h
theorem fm_marks_b_43 {K K' : mS → Prop} {k11 k11' : Int32 × Int32 × Int32 × mS → Prop} {S0 : mS} (hk : ∀ S1, Fr [] [37] [] S0 S1 → K S1 → K' S1) (hk11 : ∀ u : Int32 × Int32 × Int32 × mS, Fr [] [37] [] S0 u.2.2.2 → k11 u → k11' u) {x2 : Int32} {x3 : Int32} {y1 : Int32} {S : mS} (hF : Fr [] [37] [] S0 S) (h : wp_marks_b_43 K k11 x2 x3 y1 S) : wp_marks_b_43 K' k11' x2 x3 y1 S := by
  unfold wp_marks_b_43 at h ⊢
  exact fm_marks_b_48 hk hk11 hF h
theorem fm_marks_b_29 {K K' : mS → Prop} {k11 k11' : Int32 × Int32 × Int32 × mS → Prop} {S0 : mS} (hk : ∀ S1, Fr [] [37] [] S0 S1 → K S1 → K' S1) (hk11 : ∀ u : Int32 × Int32 × Int32 × mS, Fr [] [37] [] S0 u.2.2.2 → k11 u → k11' u) {x2 : Int32} {x3 : Int32} {x4 : Int32} {S : mS} (hF : Fr [] [37] [] S0 S) (h : wp_marks_b_29 K k11 x2 x3 x4 S) : wp_marks_b_29 K' k11' x2 x3 x4 S := by
  unfold wp_marks_b_29 at h ⊢
  refine ⟨h.1, ?_⟩
  replace h := h.2
  intro z5 e
  replace h := h z5 e
  refine ⟨fun c => ?_, fun c => ?_⟩
  · replace h := h.1 c
    exact fm_marks_b_43 hk hk11 hF h
  · replace h := h.2 c
    refine ⟨fun c => ?_, fun c => ?_⟩
    · replace h := h.1 c
      exact fm_marks_b_48 hk hk11 hF h
    · replace h := h.2 c
      exact fm_marks_b_43 hk hk11 hF h
theorem fm_marks_b_11 {K K' : mS → Prop} {k11 k11' : Int32 × Int32 × Int32 × mS → Prop} {S0 : mS} (hk : ∀ S1, Fr [] [37] [] S0 S1 → K S1 → K' S1) (hk11 : ∀ u : Int32 × Int32 × Int32 × mS, Fr [] [37] [] S0 u.2.2.2 → k11 u → k11' u) {x2 : Int32} {x3 : Int32} {x4 : Int32} {S : mS} (hF : Fr [] [37] [] S0 S) (h : wp_marks_b_11 K k11 x2 x3 x4 S) : wp_marks_b_11 K' k11' x2 x3 x4 S := by
  unfold wp_marks_b_11 at h ⊢
  refine ⟨fun c => ?_, fun c => ?_⟩
  · replace h := h.1 c
    exact hk _ hF h
  · replace h := h.2 c
    refine ⟨fun c => ?_, fun c => ?_⟩
    · replace h := h.1 c
      exact fm_marks_b_29 hk hk11 hF h
    · replace h := h.2 c
      refine ⟨h.1, ?_⟩
      replace h := h.2
      intro z3 e
      replace h := h z3 e
      refine ⟨fun c => ?_, fun c => ?_⟩
      · replace h := h.1 c
        exact hk _ hF h
      · replace h := h.2 c
        exact fm_marks_b_29 hk hk11 hF h
theorem fml_marks_b_11 {K K' : mS → Prop} {S0 : mS} (hk : ∀ S1, Fr [] [37] [] S0 S1 → K S1 → K' S1) : ∀ (n : Nat) (u : Int32 × Int32 × Int32 × mS), Fr [] [37] [] S0 u.2.2.2 → it (ls_marks_b_11 K) n u → it (ls_marks_b_11 K') n u := by
  intro n
  induction n with
  | zero => exact fun _ _ h => h
  | succ n ih => exact fun u hF h => fm_marks_b_11 hk ih hF h
theorem fm_marks_b (a1 : Int32) : FmV [] [37] [] (wp_marks_b a1) := by
  intro S0 K K' hk h
  have hF : Fr [] [37] [] S0 S0 := Fr_rf
  unfold wp_marks_b at h ⊢
  obtain ⟨n9, h⟩ := h
  exact ⟨n9, fml_marks_b_11 hk n9 _ hF h⟩
theorem fm_marks_c_48 {K K' : mS → Prop} {k11 k11' : Int32 × Int32 × Int32 × mS → Prop} {S0 : mS} (hk : ∀ S1, Fr [] [38] [] S0 S1 → K S1 → K' S1) (hk11 : ∀ u : Int32 × Int32 × Int32 × mS, Fr [] [38] [] S0 u.2.2.2 → k11 u → k11' u) {x2 : Int32} {x3 : Int32} {y1 : Int32} {y2 : Int32} {S : mS} (hF : Fr [] [38] [] S0 S) (h : wp_marks_c_48 K k11 x2 x3 y1 y2 S) : wp_marks_c_48 K' k11' x2 x3 y1 y2 S := by
  unfold wp_marks_c_48 at h ⊢
  refine ⟨h.1, ?_⟩
  replace h := h.2
  refine ⟨h.1, ?_⟩
  replace h := h.2
  intro S8 e
  replace h := h S8 e
  replace hF := Fr_f hF e (by decide)
  refine ⟨h.1, ?_⟩
  replace h := h.2
  intro z9 e
  replace h := h z9 e
  refine ⟨h.1, ?_⟩
  replace h := h.2
  intro z10 e
  replace h := h z10 e
  exact hk11 _ hF h
theorem fm_marks_c_43 {K K' : mS → Prop} {k11 k11' : Int32 × Int32 × Int32 × mS → Prop} {S0 : mS} (hk : ∀ S1, Fr [] [38] [] S0 S1 → K S1 → K' S1) (hk11 : ∀ u : Int32 × Int32 × Int32 × mS, Fr [] [38] [] S0 u.2.2.2 → k11 u → k11' u) {x2 : Int32} {x3 : Int32} {y1 : Int32} {S : mS} (hF : Fr [] [38] [] S0 S) (h : wp_marks_c_43 K k11 x2 x3 y1 S) : wp_marks_c_43 K' k11' x2 x3 y1 S := by
  unfold wp_marks_c_43 at h ⊢
  exact fm_marks_c_48 hk hk11 hF h
theorem fm_marks_c_29 {K K' : mS → Prop} {k11 k11' : Int32 × Int32 × Int32 × mS → Prop} {S0 : mS} (hk : ∀ S1, Fr [] [38] [] S0 S1 → K S1 → K' S1) (hk11 : ∀ u : Int32 × Int32 × Int32 × mS, Fr [] [38] [] S0 u.2.2.2 → k11 u → k11' u) {x2 : Int32} {x3 : Int32} {x4 : Int32} {S : mS} (hF : Fr [] [38] [] S0 S) (h : wp_marks_c_29 K k11 x2 x3 x4 S) : wp_marks_c_29 K' k11' x2 x3 x4 S := by
  unfold wp_marks_c_29 at h ⊢
  refine ⟨h.1, ?_⟩
  replace h := h.2
  intro z5 e
  replace h := h z5 e
  refine ⟨fun c => ?_, fun c => ?_⟩
  · replace h := h.1 c
    exact fm_marks_c_43 hk hk11 hF h
  · replace h := h.2 c
    refine ⟨fun c => ?_, fun c => ?_⟩
    · replace h := h.1 c
      exact fm_marks_c_48 hk hk11 hF h
    · replace h := h.2 c
      exact fm_marks_c_43 hk hk11 hF h
theorem fm_marks_c_11 {K K' : mS → Prop} {k11 k11' : Int32 × Int32 × Int32 × mS → Prop} {S0 : mS} (hk : ∀ S1, Fr [] [38] [] S0 S1 → K S1 → K' S1) (hk11 : ∀ u : Int32 × Int32 × Int32 × mS, Fr [] [38] [] S0 u.2.2.2 → k11 u → k11' u) {x2 : Int32} {x3 : Int32} {x4 : Int32} {S : mS} (hF : Fr [] [38] [] S0 S) (h : wp_marks_c_11 K k11 x2 x3 x4 S) : wp_marks_c_11 K' k11' x2 x3 x4 S := by
  unfold wp_marks_c_11 at h ⊢
  refine ⟨fun c => ?_, fun c => ?_⟩
  · replace h := h.1 c
    exact hk _ hF h
  · replace h := h.2 c
    refine ⟨fun c => ?_, fun c => ?_⟩
    · replace h := h.1 c
      exact fm_marks_c_29 hk hk11 hF h
    · replace h := h.2 c
      refine ⟨h.1, ?_⟩
      replace h := h.2
      intro z3 e
      replace h := h z3 e
      refine ⟨fun c => ?_, fun c => ?_⟩
      · replace h := h.1 c
        exact hk _ hF h
      · replace h := h.2 c
        exact fm_marks_c_29 hk hk11 hF h
theorem fml_marks_c_11 {K K' : mS → Prop} {S0 : mS} (hk : ∀ S1, Fr [] [38] [] S0 S1 → K S1 → K' S1) : ∀ (n : Nat) (u : Int32 × Int32 × Int32 × mS), Fr [] [38] [] S0 u.2.2.2 → it (ls_marks_c_11 K) n u → it (ls_marks_c_11 K') n u := by
  intro n
  induction n with
  | zero => exact fun _ _ h => h
  | succ n ih => exact fun u hF h => fm_marks_c_11 hk ih hF h
theorem fm_marks_c (a1 : Int32) : FmV [] [38] [] (wp_marks_c a1) := by
  intro S0 K K' hk h
  have hF : Fr [] [38] [] S0 S0 := Fr_rf
  unfold wp_marks_c at h ⊢
  obtain ⟨n9, h⟩ := h
  exact ⟨n9, fml_marks_c_11 hk n9 _ hF h⟩
theorem fm_marks_r_48 {K K' : mS → Prop} {k11 k11' : Int32 × Int32 × Int32 × mS → Prop} {S0 : mS} (hk : ∀ S1, Fr [] [39] [] S0 S1 → K S1 → K' S1) (hk11 : ∀ u : Int32 × Int32 × Int32 × mS, Fr [] [39] [] S0 u.2.2.2 → k11 u → k11' u) {x2 : Int32} {x3 : Int32} {y1 : Int32} {y2 : Int32} {S : mS} (hF : Fr [] [39] [] S0 S) (h : wp_marks_r_48 K k11 x2 x3 y1 y2 S) : wp_marks_r_48 K' k11' x2 x3 y1 y2 S := by
  unfold wp_marks_r_48 at h ⊢
  refine ⟨h.1, ?_⟩
  replace h := h.2
  refine ⟨h.1, ?_⟩
  replace h := h.2
  intro S8 e
  replace h := h S8 e
  replace hF := Fr_f hF e (by decide)
  refine ⟨h.1, ?_⟩
  replace h := h.2
  intro z9 e
  replace h := h z9 e
  refine ⟨h.1, ?_⟩
  replace h := h.2
  intro z10 e
  replace h := h z10 e
  exact hk11 _ hF h
theorem fm_marks_r_43 {K K' : mS → Prop} {k11 k11' : Int32 × Int32 × Int32 × mS → Prop} {S0 : mS} (hk : ∀ S1, Fr [] [39] [] S0 S1 → K S1 → K' S1) (hk11 : ∀ u : Int32 × Int32 × Int32 × mS, Fr [] [39] [] S0 u.2.2.2 → k11 u → k11' u) {x2 : Int32} {x3 : Int32} {y1 : Int32} {S : mS} (hF : Fr [] [39] [] S0 S) (h : wp_marks_r_43 K k11 x2 x3 y1 S) : wp_marks_r_43 K' k11' x2 x3 y1 S := by
  unfold wp_marks_r_43 at h ⊢
  exact fm_marks_r_48 hk hk11 hF h
theorem fm_marks_r_29 {K K' : mS → Prop} {k11 k11' : Int32 × Int32 × Int32 × mS → Prop} {S0 : mS} (hk : ∀ S1, Fr [] [39] [] S0 S1 → K S1 → K' S1) (hk11 : ∀ u : Int32 × Int32 × Int32 × mS, Fr [] [39] [] S0 u.2.2.2 → k11 u → k11' u) {x2 : Int32} {x3 : Int32} {x4 : Int32} {S : mS} (hF : Fr [] [39] [] S0 S) (h : wp_marks_r_29 K k11 x2 x3 x4 S) : wp_marks_r_29 K' k11' x2 x3 x4 S := by
  unfold wp_marks_r_29 at h ⊢
  refine ⟨h.1, ?_⟩
  replace h := h.2
  intro z5 e
  replace h := h z5 e
  refine ⟨fun c => ?_, fun c => ?_⟩
  · replace h := h.1 c
    exact fm_marks_r_43 hk hk11 hF h
  · replace h := h.2 c
    refine ⟨fun c => ?_, fun c => ?_⟩
    · replace h := h.1 c
      exact fm_marks_r_48 hk hk11 hF h
    · replace h := h.2 c
      exact fm_marks_r_43 hk hk11 hF h
theorem fm_marks_r_11 {K K' : mS → Prop} {k11 k11' : Int32 × Int32 × Int32 × mS → Prop} {S0 : mS} (hk : ∀ S1, Fr [] [39] [] S0 S1 → K S1 → K' S1) (hk11 : ∀ u : Int32 × Int32 × Int32 × mS, Fr [] [39] [] S0 u.2.2.2 → k11 u → k11' u) {x2 : Int32} {x3 : Int32} {x4 : Int32} {S : mS} (hF : Fr [] [39] [] S0 S) (h : wp_marks_r_11 K k11 x2 x3 x4 S) : wp_marks_r_11 K' k11' x2 x3 x4 S := by
  unfold wp_marks_r_11 at h ⊢
  refine ⟨fun c => ?_, fun c => ?_⟩
  · replace h := h.1 c
    exact hk _ hF h
  · replace h := h.2 c
    refine ⟨fun c => ?_, fun c => ?_⟩
    · replace h := h.1 c
      exact fm_marks_r_29 hk hk11 hF h
    · replace h := h.2 c
      refine ⟨h.1, ?_⟩
      replace h := h.2
      intro z3 e
      replace h := h z3 e
      refine ⟨fun c => ?_, fun c => ?_⟩
      · replace h := h.1 c
        exact hk _ hF h
      · replace h := h.2 c
        exact fm_marks_r_29 hk hk11 hF h
theorem fml_marks_r_11 {K K' : mS → Prop} {S0 : mS} (hk : ∀ S1, Fr [] [39] [] S0 S1 → K S1 → K' S1) : ∀ (n : Nat) (u : Int32 × Int32 × Int32 × mS), Fr [] [39] [] S0 u.2.2.2 → it (ls_marks_r_11 K) n u → it (ls_marks_r_11 K') n u := by
  intro n
  induction n with
  | zero => exact fun _ _ h => h
  | succ n ih => exact fun u hF h => fm_marks_r_11 hk ih hF h
theorem fm_marks_r (a1 : Int32) : FmV [] [39] [] (wp_marks_r a1) := by
  intro S0 K K' hk h
  have hF : Fr [] [39] [] S0 S0 := Fr_rf
  unfold wp_marks_r at h ⊢
  obtain ⟨n9, h⟩ := h
  exact ⟨n9, fml_marks_r_11 hk n9 _ hF h⟩
theorem fm_leaves (a0 : Int32) : FmV [3, 4, 7, 8, 19] [12, 13, 14, 15, 16, 17, 18, 19, 20, 21, 37, 38] [] (wp_leaves a0) := by
  intro S0 K K' hk h
  have hF : Fr [3, 4, 7, 8, 19] [12, 13, 14, 15, 16, 17, 18, 19, 20, 21, 37, 38] [] S0 S0 := Fr_rf
  unfold wp_leaves at h ⊢
  refine ⟨fun c => ?_, fun c => ?_⟩
  · replace h := h.1 c
    refine fm_wrong _ _ _ _ (fun S2 hG h => ?_) h
    replace hF := Fr_t hF hG (by decide) (by decide) (by decide)
    exact hk _ hF h
  · replace h := h.2 c
    refine ⟨fun c => ?_, fun c => ?_⟩
    · replace h := h.1 c
      intro z4 e
      replace h := h z4 e
      intro S5 e
      replace h := h S5 e
      replace hF := Fr_z hF e (by decide)
      refine ⟨fun c => ?_, fun c => ?_⟩
      · replace h := h.1 c
        refine fm_emit _ _ _ _ _ _ (fun S7 r7 hG h => ?_) h
        replace hF := Fr_t hF hG (by decide) (by decide) (by decide)
        refine ⟨fun c => ?_, fun c => ?_⟩
        · replace h := h.1 c
          refine fm_then _ _ _ _ _ (fun S9 r9 hG h => ?_) h
          replace hF := Fr_t hF hG (by decide) (by decide) (by decide)
          refine ⟨fun c => ?_, fun c => ?_⟩
          · replace h := h.1 c
            refine fm_marks_c _ _ _ _ (fun S11 hG h => ?_) h
            replace hF := Fr_t hF hG (by decide) (by decide) (by decide)
            intro S12 e
            replace h := h S12 e
            replace hF := Fr_z hF e (by decide)
            exact hk _ hF h
          · replace h := h.2 c
            refine fm_marks_b _ _ _ _ (fun S13 hG h => ?_) h
            replace hF := Fr_t hF hG (by decide) (by decide) (by decide)
            intro S14 e
            replace h := h S14 e
            replace hF := Fr_z hF e (by decide)
            exact hk _ hF h
        · replace h := h.2 c
          refine fm_then _ _ _ _ _ (fun S15 r15 hG h => ?_) h
          replace hF := Fr_t hF hG (by decide) (by decide) (by decide)
          refine ⟨fun c => ?_, fun c => ?_⟩
          · replace h := h.1 c
            refine fm_marks_c _ _ _ _ (fun S17 hG h => ?_) h
            replace hF := Fr_t hF hG (by decide) (by decide) (by decide)
            intro S18 e
            replace h := h S18 e
            replace hF := Fr_z hF e (by decide)
            exact hk _ hF h
          · replace h := h.2 c
            refine fm_marks_b _ _ _ _ (fun S19 hG h => ?_) h
            replace hF := Fr_t hF hG (by decide) (by decide) (by decide)
            intro S20 e
            replace h := h S20 e
            replace hF := Fr_z hF e (by decide)
            exact hk _ hF h
      · replace h := h.2 c
        refine fm_emit _ _ _ _ _ _ (fun S21 r21 hG h => ?_) h
        replace hF := Fr_t hF hG (by decide) (by decide) (by decide)
        refine ⟨fun c => ?_, fun c => ?_⟩
        · replace h := h.1 c
          refine fm_then _ _ _ _ _ (fun S23 r23 hG h => ?_) h
          replace hF := Fr_t hF hG (by decide) (by decide) (by decide)
          refine ⟨fun c => ?_, fun c => ?_⟩
          · replace h := h.1 c
            refine fm_marks_c _ _ _ _ (fun S25 hG h => ?_) h
            replace hF := Fr_t hF hG (by decide) (by decide) (by decide)
            intro S26 e
            replace h := h S26 e
            replace hF := Fr_z hF e (by decide)
            exact hk _ hF h
          · replace h := h.2 c
            refine fm_marks_b _ _ _ _ (fun S27 hG h => ?_) h
            replace hF := Fr_t hF hG (by decide) (by decide) (by decide)
            intro S28 e
            replace h := h S28 e
            replace hF := Fr_z hF e (by decide)
            exact hk _ hF h
        · replace h := h.2 c
          refine fm_then _ _ _ _ _ (fun S29 r29 hG h => ?_) h
          replace hF := Fr_t hF hG (by decide) (by decide) (by decide)
          refine ⟨fun c => ?_, fun c => ?_⟩
          · replace h := h.1 c
            refine fm_marks_c _ _ _ _ (fun S31 hG h => ?_) h
            replace hF := Fr_t hF hG (by decide) (by decide) (by decide)
            intro S32 e
            replace h := h S32 e
            replace hF := Fr_z hF e (by decide)
            exact hk _ hF h
          · replace h := h.2 c
            refine fm_marks_b _ _ _ _ (fun S33 hG h => ?_) h
            replace hF := Fr_t hF hG (by decide) (by decide) (by decide)
            intro S34 e
            replace h := h S34 e
            replace hF := Fr_z hF e (by decide)
            exact hk _ hF h
    · replace h := h.2 c
      refine fm_wrong _ _ _ _ (fun S35 hG h => ?_) h
      replace hF := Fr_t hF hG (by decide) (by decide) (by decide)
      exact hk _ hF h
