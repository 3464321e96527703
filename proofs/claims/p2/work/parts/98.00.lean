
def fTy (f : Nat) : Nat × cK := match f with
  | 0 => (0, Sum.inr (300, 0))
  | 1 => (0, Sum.inr (300, 0))
  | 2 => (1, Sum.inl 5)
  | 3 => (1, Sum.inr (200, 2))
  | 4 => (1, Sum.inr (200, 0))
  | 5 => (1, Sum.inr (400, 0))
  | 6 => (1, Sum.inr (8, 0))
  | 7 => (1, Sum.inr (8, 4))
  | 8 => (1, Sum.inl 2)
  | 9 => (1, Sum.inl 0)
  | 10 => (1, Sum.inr (416, 0))
  | 11 => (1, Sum.inl 4)
  | 12 => (2, Sum.inl 4)
  | 13 => (2, Sum.inl 4)
  | 14 => (3, Sum.inl 10)
  | 15 => (3, Sum.inl 5)
  | 16 => (3, Sum.inl 7)
  | 17 => (3, Sum.inr (460, 0))
  | 18 => (3, Sum.inr (460, 0))
  | 19 => (3, Sum.inr (460, 0))
  | 20 => (3, Sum.inr (460, 1))
  | 21 => (4, Sum.inl 9)
  | 22 => (4, Sum.inl 9)
  | 23 => (4, Sum.inl 4)
  | 24 => (4, Sum.inl 4)
  | 25 => (4, Sum.inl 2)
  | 26 => (4, Sum.inl 4)
  | 27 => (4, Sum.inl 4)
  | 28 => (5, Sum.inr (8064, 0))
  | 29 => (5, Sum.inr (8064, 0))
  | 30 => (5, Sum.inr (8064, 0))
  | 31 => (5, Sum.inl 7)
  | 32 => (5, Sum.inr (12, 0))
  | 33 => (5, Sum.inr (12, 0))
  | 34 => (5, Sum.inr (12, 0))
  | 35 => (5, Sum.inr (12, 0))
  | 36 => (5, Sum.inr (12, 0))
  | 37 => (5, Sum.inr (192, 0))
  | 38 => (5, Sum.inr (12, 1))
  | 39 => (5, Sum.inr (144, 1))
  | 40 => (6, Sum.inl 0)
  | 41 => (6, Sum.inl 1)
  | 42 => (6, Sum.inr (64, 0))
  | 43 => (7, Sum.inr (460, 0))
  | 44 => (7, Sum.inr (460, 0))
  | 45 => (7, Sum.inr (460, 0))
  | 46 => (7, Sum.inr (460, 0))
  | 47 => (7, Sum.inr (460, 0))
  | 48 => (7, Sum.inr (460, 0))
  | 49 => (7, Sum.inr (460, 0))
  | 50 => (7, Sum.inr (460, 0))
  | 51 => (7, Sum.inr (460, 0))
  | 52 => (7, Sum.inr (460, 0))
  | 53 => (8, Sum.inr (8064, 0))
  | 54 => (8, Sum.inr (8064, 0))
  | 55 => (8, Sum.inl 5)
  | 56 => (9, Sum.inl 9)
  | 57 => (9, Sum.inl 4)
  | 58 => (9, Sum.inr (12, 0))
  | 59 => (9, Sum.inr (10, 0))
  | 60 => (9, Sum.inr (10, 0))
  | 61 => (9, Sum.inl 4)
  | 62 => (9, Sum.inl 4)
  | 63 => (9, Sum.inl 4)
  | 64 => (10, Sum.inr (4002, 0))
  | 65 => (10, Sum.inr (4002, 0))
  | 66 => (10, Sum.inr (4002, 1))
  | 67 => (10, Sum.inr (4000, 3))
  | 68 => (10, Sum.inr (21, 1))
  | 69 => (11, Sum.inl 10)
  | 70 => (11, Sum.inl 3)
  | 71 => (11, Sum.inl 8)
  | 72 => (11, Sum.inl 1)
  | 73 => (11, Sum.inl 6)
  | 74 => (11, Sum.inl 5)
  | 75 => (11, Sum.inl 5)
  | _ => (99, Sum.inl 99)
def finL : List Nat := [0, 1, 3, 4, 5, 6, 7, 8, 9, 10, 14, 17, 18, 19, 20, 28, 29, 30, 31, 32, 33, 34, 35, 36, 37, 38, 39, 40, 41, 42, 43, 44, 45, 46, 47, 48, 49, 50, 51, 52, 53, 54, 58, 59, 60, 64, 65, 66, 67, 68, 69, 70, 71, 72, 73]
def WT (d : List (Nat × cK)) (S : kS) : Prop := S.2.2.2.2.2 = d ∧ (∀ f a b, (a, Sum.inl (fTy f).1) ∈ d → S.2.1 f a = some b → (b, (fTy f).2) ∈ d) ∧ (∀ f a, f ∈ finL → (a, Sum.inl (fTy f).1) ∈ d → S.2.1 f a ≠ none) ∧ (∀ a i b, (a, Sum.inr (200, 2)) ∈ d → S.2.2.2.2.1 a i = some b → (b, Sum.inl 9) ∈ d) ∧ (∀ a i, (a, Sum.inr (8, 4)) ∈ d → i < 8 → ∃ b, S.2.2.2.2.1 a i = some b ∧ (b, Sum.inl 2) ∈ d) ∧ (∀ (a : Nat) (k k' : cK), (a, k) ∈ d → (a, k') ∈ d → k = k')
section WTs
variable {d : List (Nat × cK)} {S S1 : kS}
theorem hasO_of {a ci : Nat} (hW : WT d S) (h : (a, Sum.inl ci) ∈ d) : hasO S a ci := by unfold hasO; rw [hW.1]; exact h
theorem hasA_of {a n k : Nat} (hW : WT d S) (h : (a, Sum.inr (n, k)) ∈ d) : hasA S a n k := by unfold hasA; rw [hW.1]; exact h
theorem WT_i {f a : Nat} {v : Int32} (hW : WT d S) (e : S1 = cI S f a v) : WT d S1 := by subst e; exact hW
theorem WT_a {a i : Nat} {v : Int32} (hW : WT d S) (e : S1 = cA S a i v) : WT d S1 := by subst e; exact hW
theorem WT_l {a i : Nat} {v : Int64} (hW : WT d S) (e : S1 = cL S a i v) : WT d S1 := by subst e; exact hW
theorem WT_r {f a : Nat} {v : Option Nat} (hW : WT d S) (e : S1 = cR S f a v) (hv : ∀ b, v = some b → (b, (fTy f).2) ∈ d) (hf : f ∉ finL) : WT d S1 := by
  subst e
  have key : ∀ g x, (cR S f a v).2.1 g x = if x = a then (if g = f then v else S.2.1 g a) else S.2.1 g x := fun g x => rfl
  refine ⟨hW.1, fun g x b hx h => ?_, fun g x hg hx h => ?_, hW.2.2.2⟩
  · rw [key] at h
    split at h
    · rename_i hxa
      split at h
      · rename_i hgf; subst hgf; exact hv b h
      · subst hxa; exact hW.2.1 g x b hx h
    · exact hW.2.1 g x b hx h
  · rw [key] at h
    split at h
    · rename_i hxa
      split at h
      · rename_i hgf; subst hgf; exact hf hg
      · subst hxa; exact hW.2.2.1 g x hg hx h
    · exact hW.2.2.1 g x hg hx h
theorem WT_q {a i b : Nat} (hW : WT d S) (e : S1 = cQ S a i (some b)) (ha : (a, Sum.inr (200, 2)) ∈ d) (hb : (b, Sum.inl 9) ∈ d) : WT d S1 := by
  subst e
  have key : ∀ x j, (cQ S a i (some b)).2.2.2.2.1 x j = if x = a then (if j = i then some b else S.2.2.2.2.1 a j) else S.2.2.2.2.1 x j := fun x j => by
    show va_up S.2.2.2.2.1 a (va_up (S.2.2.2.2.1 a) i (some b)) x j = _
    unfold va_up
    split <;> rfl
  refine ⟨hW.1, hW.2.1, hW.2.2.1, fun x j b' hx h => ?_, fun x j hx hj => ?_, hW.2.2.2.2.2⟩
  · rw [key] at h
    split at h
    · split at h
      · cases h; exact hb
      · exact hW.2.2.2.1 a j b' ha h
    · exact hW.2.2.2.1 x j b' hx h
  · rw [key]
    split
    · rename_i hxa
      subst hxa
      exact absurd (hW.2.2.2.2.2 x _ _ ha hx) (by decide)
    · exact hW.2.2.2.2.1 x j hx hj
theorem wt_nn {f a : Nat} {z : Option Nat} (hW : WT d S) (hf : f ∈ finL) (ha : (a, Sum.inl (fTy f).1) ∈ d) (e : z = S.2.1 f a) : ∃ q, z = some q := by
  cases hz : z with
  | some q => exact ⟨q, rfl⟩
  | none => exact absurd (e.symm.trans hz) (hW.2.2.1 f a hf ha)
theorem wt_ln {a i : Nat} {z : Option Nat} (hW : WT d S) (ha : (a, Sum.inr (8, 4)) ∈ d) (hi : i < 8) (e : z = S.2.2.2.2.1 a i) : ∃ q, z = some q ∧ (q, Sum.inl 2) ∈ d := by
  obtain ⟨b, h1, h2⟩ := hW.2.2.2.2.1 a i ha hi
  exact ⟨b, e.trans h1, h2⟩
end WTs
def wT_X0_clear (t0 : Nat) (S : kS) (K : kS → Prop) : Prop := ∀ S1 : kS, S1 = cI S 0 t0 0 → K S1
theorem ty_X0_clear {d : List (Nat × cK)} {t0 : Nat} (t_t0 : (t0, Sum.inl 0) ∈ d) {S : kS} {K K' : kS → Prop} (hW : WT d S) (hk : ∀ S1, WT d S1 → K S1 → K' S1) (h : wT_X0_clear t0 S K) : wp_X0_clear t0 S K' := by
  unfold wT_X0_clear at h
  unfold wp_X0_clear
  refine ⟨hasO_of hW t_t0, ?_⟩
  intro S1 e_S1
  replace h := h S1 e_S1
  replace hW := WT_i hW e_S1
  exact hk _ hW h
def wT_X0_note_30 (K : kS → Prop) (x0 : Nat) (S : kS) : Prop := ∀ z11 : Int32, z11 = S.1 0 x0 → ∀ z12 : Int32, z12 = z11 + 1 → ∀ S13 : kS, S13 = cI S 0 x0 z12 → K S13
def wT_X0_note (t0 : Nat) (a0 : Int32) (a1 : Int32) (S : kS) (K : kS → Prop) : Prop := ∀ z1 : Int32, z1 = S.1 0 t0 → ((300 ≤ z1 → wT_X0_note_30 K t0 S) ∧ (¬ 300 ≤ z1 → ∀ z3 : Option Nat, z3 = S.2.1 0 t0 → ∀ z4 : Int32, z4 = S.1 0 t0 → ∀ q5 : Nat, z3 = some q5 → inR z4 300 ∧ ∀ S6 : kS, S6 = cA S q5 (ix z4) a0 → ∀ z7 : Option Nat, z7 = S6.2.1 1 t0 → ∀ z8 : Int32, z8 = S6.1 0 t0 → ∀ q9 : Nat, z7 = some q9 → inR z8 300 ∧ ∀ S10 : kS, S10 = cA S6 q9 (ix z8) a1 → wT_X0_note_30 K t0 S10))
theorem ty_X0_note_30 {d : List (Nat × cK)} {K K' : kS → Prop} (hk : ∀ S1, WT d S1 → K S1 → K' S1) {x0 : Nat} (t_x0 : (x0, Sum.inl 0) ∈ d) {S : kS} (hW : WT d S) (h : wT_X0_note_30 K x0 S) : wp_X0_note_30 K' x0 S := by
  unfold wT_X0_note_30 at h
  unfold wp_X0_note_30
  refine ⟨hasO_of hW t_x0, ?_⟩
  intro z11 e_z11
  replace h := h z11 e_z11
  intro z12 e_z12
  replace h := h z12 e_z12
  refine ⟨hasO_of hW t_x0, ?_⟩
  intro S13 e_S13
  replace h := h S13 e_S13
  replace hW := WT_i hW e_S13
  exact hk _ hW h
theorem ty_X0_note {d : List (Nat × cK)} {t0 : Nat} {a0 : Int32} {a1 : Int32} (t_t0 : (t0, Sum.inl 0) ∈ d) {S : kS} {K K' : kS → Prop} (hW : WT d S) (hk : ∀ S1, WT d S1 → K S1 → K' S1) (h : wT_X0_note t0 a0 a1 S K) : wp_X0_note t0 a0 a1 S K' := by
  unfold wT_X0_note at h
  unfold wp_X0_note
  refine ⟨hasO_of hW t_t0, ?_⟩
  intro z1 e_z1
  replace h := h z1 e_z1
  refine ⟨fun c => ?_, fun c => ?_⟩
  · replace h := h.1 c
    exact ty_X0_note_30 hk t_t0 hW h
  · replace h := h.2 c
    refine ⟨hasO_of hW t_t0, ?_⟩
    intro z3 e_z3
    replace h := h z3 e_z3
    have t_z3 : ∀ b, z3 = some b → (b, Sum.inr (300, 0)) ∈ d := fun b hb => hW.2.1 0 _ b t_t0 (by rw [← e_z3]; exact hb)
    have n_z3 := wt_nn (f := 0) hW (by decide) t_t0 e_z3
    refine ⟨hasO_of hW t_t0, ?_⟩
    intro z4 e_z4
    replace h := h z4 e_z4
    obtain ⟨q5, e_q5⟩ := n_z3
    refine ⟨q5, e_q5, ?_⟩
    replace h := h q5 e_q5
    have t_q5 := t_z3 q5 e_q5
    refine ⟨hasA_of hW t_q5, ?_⟩
    have hin := h.1
    refine ⟨h.1, ?_⟩
    replace h := h.2
    intro S6 e_S6
    replace h := h S6 e_S6
    replace hW := WT_a hW e_S6
    refine ⟨hasO_of hW t_t0, ?_⟩
    intro z7 e_z7
    replace h := h z7 e_z7
    have t_z7 : ∀ b, z7 = some b → (b, Sum.inr (300, 0)) ∈ d := fun b hb => hW.2.1 1 _ b t_t0 (by rw [← e_z7]; exact hb)
    have n_z7 := wt_nn (f := 1) hW (by decide) t_t0 e_z7
    refine ⟨hasO_of hW t_t0, ?_⟩
    intro z8 e_z8
    replace h := h z8 e_z8
    obtain ⟨q9, e_q9⟩ := n_z7
    refine ⟨q9, e_q9, ?_⟩
    replace h := h q9 e_q9
    have t_q9 := t_z7 q9 e_q9
    refine ⟨hasA_of hW t_q9, ?_⟩
    have hin := h.1
    refine ⟨h.1, ?_⟩
    replace h := h.2
    intro S10 e_S10
    replace h := h S10 e_S10
    replace hW := WT_a hW e_S10
    exact ty_X0_note_30 hk t_t0 hW h
def wT_X0_tell (t0 : Nat) (a0 : Int32) (a1 : Int32) (S : kS) (K : kS → Int32 → Prop) : Prop := ((a0 < 0 → K S (-1)) ∧ (¬ a0 < 0 → ∀ z2 : Int32, z2 = S.1 0 t0 → ((z2 ≤ a0 → K S (-1)) ∧ (¬ z2 ≤ a0 → ((300 ≤ a0 → K S (-1)) ∧ (¬ 300 ≤ a0 → ((a1 < 0 → K S (-1)) ∧ (¬ a1 < 0 → ((a1 ≤ 1 → ((¬ a1 = 0 → ∀ z8 : Option Nat, z8 = S.2.1 1 t0 → ∀ q9 : Nat, z8 = some q9 → inR a0 300 ∧ ∀ z10 : Int32, z10 = S.2.2.1 q9 (ix a0) → K S z10) ∧ (a1 = 0 → ∀ z11 : Option Nat, z11 = S.2.1 0 t0 → ∀ q12 : Nat, z11 = some q12 → inR a0 300 ∧ ∀ z13 : Int32, z13 = S.2.2.1 q12 (ix a0) → K S z13))) ∧ (¬ a1 ≤ 1 → K S (-1)))))))))))
theorem ty_X0_tell {d : List (Nat × cK)} {t0 : Nat} {a0 : Int32} {a1 : Int32} (t_t0 : (t0, Sum.inl 0) ∈ d) {S : kS} {K K' : kS → Int32 → Prop} (hW : WT d S) (hk : ∀ S1 r1, WT d S1 → K S1 r1 → K' S1 r1) (h : wT_X0_tell t0 a0 a1 S K) : wp_X0_tell t0 a0 a1 S K' := by
  unfold wT_X0_tell at h
  unfold wp_X0_tell
  refine ⟨fun c => ?_, fun c => ?_⟩
  · replace h := h.1 c
    exact hk _ _ hW h
  · replace h := h.2 c
    refine ⟨hasO_of hW t_t0, ?_⟩
    intro z2 e_z2
    replace h := h z2 e_z2
    refine ⟨fun c => ?_, fun c => ?_⟩
    · replace h := h.1 c
      exact hk _ _ hW h
    · replace h := h.2 c
      refine ⟨fun c => ?_, fun c => ?_⟩
      · replace h := h.1 c
        exact hk _ _ hW h
      · replace h := h.2 c
        refine ⟨fun c => ?_, fun c => ?_⟩
        · replace h := h.1 c
          exact hk _ _ hW h
        · replace h := h.2 c
          refine ⟨fun c => ?_, fun c => ?_⟩
          · replace h := h.1 c
            refine ⟨fun c => ?_, fun c => ?_⟩
            · replace h := h.1 c
              refine ⟨hasO_of hW t_t0, ?_⟩
              intro z8 e_z8
              replace h := h z8 e_z8
              have t_z8 : ∀ b, z8 = some b → (b, Sum.inr (300, 0)) ∈ d := fun b hb => hW.2.1 1 _ b t_t0 (by rw [← e_z8]; exact hb)
              have n_z8 := wt_nn (f := 1) hW (by decide) t_t0 e_z8
              obtain ⟨q9, e_q9⟩ := n_z8
              refine ⟨q9, e_q9, ?_⟩
              replace h := h q9 e_q9
              have t_q9 := t_z8 q9 e_q9
              refine ⟨hasA_of hW t_q9, ?_⟩
              have hin := h.1
              refine ⟨h.1, ?_⟩
              replace h := h.2
              intro z10 e_z10
              replace h := h z10 e_z10
              exact hk _ _ hW h
            · replace h := h.2 c
              refine ⟨hasO_of hW t_t0, ?_⟩
              intro z11 e_z11
              replace h := h z11 e_z11
              have t_z11 : ∀ b, z11 = some b → (b, Sum.inr (300, 0)) ∈ d := fun b hb => hW.2.1 0 _ b t_t0 (by rw [← e_z11]; exact hb)
              have n_z11 := wt_nn (f := 0) hW (by decide) t_t0 e_z11
              obtain ⟨q12, e_q12⟩ := n_z11
              refine ⟨q12, e_q12, ?_⟩
              replace h := h q12 e_q12
              have t_q12 := t_z11 q12 e_q12
              refine ⟨hasA_of hW t_q12, ?_⟩
              have hin := h.1
              refine ⟨h.1, ?_⟩
              replace h := h.2
              intro z13 e_z13
              replace h := h z13 e_z13
              exact hk _ _ hW h
          · replace h := h.2 c
            exact hk _ _ hW h
def wT_X10_add_70 (K : kS → Prop) (k3 : Nat × Int64 × Int32 × kS → Prop) (x0 : Nat) (x1 : Int64) (x3 : Int32) (S : kS) : Prop := ∀ z8 : Int32, z8 = x3 + (-8) → k3 (x0, x1, z8, S)
def wT_X10_add_38 (K : kS → Prop) (k3 : Nat × Int64 × Int32 × kS → Prop) (x0 : Nat) (x1 : Int64) (x3 : Int32) (x4 : Int32) (S : kS) : Prop := ∀ z9 : Int32, z9 = S.1 41 x0 → ((4000 ≤ z9 → wT_X10_add_70 K k3 x0 x1 x3 S) ∧ (¬ 4000 ≤ z9 → ∀ z11 : Option Nat, z11 = S.2.1 67 x0 → ∀ z12 : Int32, z12 = S.1 41 x0 → ∀ z13 : Int32, z13 = (Int32.toUInt32 x4 % 65536).toInt32 → ∀ q14 : Nat, z11 = some q14 → inR z12 4000 ∧ ∀ S15 : kS, S15 = cA S q14 (ix z12) (vp_nar .char z13) → ∀ z16 : Int32, z16 = S15.1 41 x0 → ∀ z17 : Int32, z17 = z16 + 1 → ∀ S18 : kS, S18 = cI S15 41 x0 z17 → wT_X10_add_70 K k3 x0 x1 x3 S18))
def wT_X10_add_3 (K : kS → Prop) (k3 : Nat × Int64 × Int32 × kS → Prop) (x0 : Nat) (x1 : Int64) (x3 : Int32) (S : kS) : Prop := ((x3 < 0 → K S) ∧ (¬ x3 < 0 → ∀ z2 : Int64, z2 = (Int64.toUInt64 x1 >>> ((Int32.toInt64 x3).toUInt64 &&& Int64.toUInt64 63)).toInt64 → ∀ z3 : Int32, z3 = Int64.toInt32 z2 → ∀ z4 : Int32, z4 = z3 &&& 255 → ((z4 = 10 → wT_X10_add_38 K k3 x0 x1 x3 z4 S) ∧ (¬ z4 = 10 → ((z4 < 32 → wT_X10_add_70 K k3 x0 x1 x3 S) ∧ (¬ z4 < 32 → ((126 < z4 → wT_X10_add_70 K k3 x0 x1 x3 S) ∧ (¬ 126 < z4 → wT_X10_add_38 K k3 x0 x1 x3 z4 S))))))))
def lT_X10_add_3 (K : kS → Prop) (k3 : Nat × Int64 × Int32 × kS → Prop) (u : Nat × Int64 × Int32 × kS) : Prop := wT_X10_add_3 K k3 u.1 u.2.1 u.2.2.1 u.2.2.2
def wT_X10_add (t0 : Nat) (a0 : Int64) (S : kS) (K : kS → Prop) : Prop := (∃ n9, it (lT_X10_add_3 K) n9 (t0, a0, 56, S))
theorem ty_X10_add_70 {d : List (Nat × cK)} {K K' : kS → Prop} {k3 k3' : Nat × Int64 × Int32 × kS → Prop} (hk : ∀ S1, WT d S1 → K S1 → K' S1) (hk3 : ∀ (x0 : Nat) (x1 : Int64) (x3 : Int32), ((x0, Sum.inl 10) ∈ d) → ∀ S : kS, WT d S → k3 (x0, x1, x3, S) → k3' (x0, x1, x3, S)) {x0 : Nat} {x1 : Int64} {x3 : Int32} (t_x0 : (x0, Sum.inl 10) ∈ d) {S : kS} (hW : WT d S) (h : wT_X10_add_70 K k3 x0 x1 x3 S) : wp_X10_add_70 K' k3' x0 x1 x3 S := by
  unfold wT_X10_add_70 at h
  unfold wp_X10_add_70
  intro z8 e_z8
  replace h := h z8 e_z8
  exact hk3 _ _ _ t_x0 _ hW h
theorem ty_X10_add_38 {d : List (Nat × cK)} {K K' : kS → Prop} {k3 k3' : Nat × Int64 × Int32 × kS → Prop} (hk : ∀ S1, WT d S1 → K S1 → K' S1) (hk3 : ∀ (x0 : Nat) (x1 : Int64) (x3 : Int32), ((x0, Sum.inl 10) ∈ d) → ∀ S : kS, WT d S → k3 (x0, x1, x3, S) → k3' (x0, x1, x3, S)) {x0 : Nat} {x1 : Int64} {x3 : Int32} {x4 : Int32} (t_x0 : (x0, Sum.inl 10) ∈ d) {S : kS} (hW : WT d S) (h : wT_X10_add_38 K k3 x0 x1 x3 x4 S) : wp_X10_add_38 K' k3' x0 x1 x3 x4 S := by
  unfold wT_X10_add_38 at h
  unfold wp_X10_add_38
  refine ⟨hasO_of hW t_x0, ?_⟩
  intro z9 e_z9
  replace h := h z9 e_z9
  refine ⟨fun c => ?_, fun c => ?_⟩
  · replace h := h.1 c
    exact ty_X10_add_70 hk hk3 t_x0 hW h
  · replace h := h.2 c
    refine ⟨hasO_of hW t_x0, ?_⟩
    intro z11 e_z11
    replace h := h z11 e_z11
    have t_z11 : ∀ b, z11 = some b → (b, Sum.inr (4000, 3)) ∈ d := fun b hb => hW.2.1 67 _ b t_x0 (by rw [← e_z11]; exact hb)
    have n_z11 := wt_nn (f := 67) hW (by decide) t_x0 e_z11
    refine ⟨hasO_of hW t_x0, ?_⟩
    intro z12 e_z12
    replace h := h z12 e_z12
    intro z13 e_z13
    replace h := h z13 e_z13
    obtain ⟨q14, e_q14⟩ := n_z11
    refine ⟨q14, e_q14, ?_⟩
    replace h := h q14 e_q14
    have t_q14 := t_z11 q14 e_q14
    refine ⟨hasA_of hW t_q14, ?_⟩
    have hin := h.1
    refine ⟨h.1, ?_⟩
    replace h := h.2
    intro S15 e_S15
    replace h := h S15 e_S15
    replace hW := WT_a hW e_S15
    refine ⟨hasO_of hW t_x0, ?_⟩
    intro z16 e_z16
    replace h := h z16 e_z16
    intro z17 e_z17
    replace h := h z17 e_z17
    refine ⟨hasO_of hW t_x0, ?_⟩
    intro S18 e_S18
    replace h := h S18 e_S18
    replace hW := WT_i hW e_S18
    exact ty_X10_add_70 hk hk3 t_x0 hW h
theorem ty_X10_add_3 {d : List (Nat × cK)} {K K' : kS → Prop} {k3 k3' : Nat × Int64 × Int32 × kS → Prop} (hk : ∀ S1, WT d S1 → K S1 → K' S1) (hk3 : ∀ (x0 : Nat) (x1 : Int64) (x3 : Int32), ((x0, Sum.inl 10) ∈ d) → ∀ S : kS, WT d S → k3 (x0, x1, x3, S) → k3' (x0, x1, x3, S)) {x0 : Nat} {x1 : Int64} {x3 : Int32} (t_x0 : (x0, Sum.inl 10) ∈ d) {S : kS} (hW : WT d S) (h : wT_X10_add_3 K k3 x0 x1 x3 S) : wp_X10_add_3 K' k3' x0 x1 x3 S := by
  unfold wT_X10_add_3 at h
  unfold wp_X10_add_3
  refine ⟨fun c => ?_, fun c => ?_⟩
  · replace h := h.1 c
    exact hk _ hW h
  · replace h := h.2 c
    intro z2 e_z2
    replace h := h z2 e_z2
    intro z3 e_z3
    replace h := h z3 e_z3
    intro z4 e_z4
    replace h := h z4 e_z4
    refine ⟨fun c => ?_, fun c => ?_⟩
    · replace h := h.1 c
      exact ty_X10_add_38 hk hk3 t_x0 hW h
    · replace h := h.2 c
      refine ⟨fun c => ?_, fun c => ?_⟩
      · replace h := h.1 c
        exact ty_X10_add_70 hk hk3 t_x0 hW h
      · replace h := h.2 c
        refine ⟨fun c => ?_, fun c => ?_⟩
        · replace h := h.1 c
          exact ty_X10_add_70 hk hk3 t_x0 hW h
        · replace h := h.2 c
          exact ty_X10_add_38 hk hk3 t_x0 hW h
theorem tyl_X10_add_3 {d : List (Nat × cK)} {K K' : kS → Prop} (hk : ∀ S1, WT d S1 → K S1 → K' S1) : ∀ (n : Nat) (x0 : Nat) (x1 : Int64) (x3 : Int32), ((x0, Sum.inl 10) ∈ d) → ∀ S : kS, WT d S → it (lT_X10_add_3 K) n (x0, x1, x3, S) → it (ls_X10_add_3 K') n (x0, x1, x3, S) := by
  intro n
  induction n with
  | zero => exact fun _ _ _ _ _ _ h => h
  | succ n ih => exact fun x0 x1 x3 t_x0 S hW h => ty_X10_add_3 hk ih t_x0 hW h
theorem ty_X10_add {d : List (Nat × cK)} {t0 : Nat} {a0 : Int64} (t_t0 : (t0, Sum.inl 10) ∈ d) {S : kS} {K K' : kS → Prop} (hW : WT d S) (hk : ∀ S1, WT d S1 → K S1 → K' S1) (h : wT_X10_add t0 a0 S K) : wp_X10_add t0 a0 S K' := by
  unfold wT_X10_add at h
  unfold wp_X10_add
  obtain ⟨n9, h⟩ := h
  exact ⟨n9, tyl_X10_add_3 hk n9 _ _ _ t_t0 _ hW h⟩
def wT_X10_isDigit (a0 : Int32) (S : kS) (K : kS → Int32 → Prop) : Prop := ((a0 < 48 → K S 0) ∧ (¬ a0 < 48 → ((57 < a0 → K S 0) ∧ (¬ 57 < a0 → K S 1))))
theorem ty_X10_isDigit {d : List (Nat × cK)} {a0 : Int32} {S : kS} {K K' : kS → Int32 → Prop} (hW : WT d S) (hk : ∀ S1 r1, WT d S1 → K S1 r1 → K' S1 r1) (h : wT_X10_isDigit a0 S K) : wp_X10_isDigit a0 S K' := by
  unfold wT_X10_isDigit at h
  unfold wp_X10_isDigit
  refine ⟨fun c => ?_, fun c => ?_⟩
  · replace h := h.1 c
    exact hk _ _ hW h
  · replace h := h.2 c
    refine ⟨fun c => ?_, fun c => ?_⟩
    · replace h := h.1 c
      exact hk _ _ hW h
    · replace h := h.2 c
      exact hk _ _ hW h
def wT_X10_isLetter (a0 : Int32) (S : kS) (K : kS → Int32 → Prop) : Prop := ((a0 < 97 → K S 0) ∧ (¬ a0 < 97 → ((122 < a0 → K S 0) ∧ (¬ 122 < a0 → K S 1))))
theorem ty_X10_isLetter {d : List (Nat × cK)} {a0 : Int32} {S : kS} {K K' : kS → Int32 → Prop} (hW : WT d S) (hk : ∀ S1 r1, WT d S1 → K S1 r1 → K' S1 r1) (h : wT_X10_isLetter a0 S K) : wp_X10_isLetter a0 S K' := by
  unfold wT_X10_isLetter at h
  unfold wp_X10_isLetter
  refine ⟨fun c => ?_, fun c => ?_⟩
  · replace h := h.1 c
    exact hk _ _ hW h
  · replace h := h.2 c
    refine ⟨fun c => ?_, fun c => ?_⟩
    · replace h := h.1 c
      exact hk _ _ hW h
    · replace h := h.2 c
      exact hk _ _ hW h
def wT_X10_keep (t0 : Nat) (a0 : Int32) (a1 : Int32) (a2 : Int64) (S : kS) (K : kS → Prop) : Prop := ∀ z1 : Int32, z1 = S.1 40 t0 → ((4001 ≤ z1 → K S) ∧ (¬ 4001 ≤ z1 → ∀ z3 : Option Nat, z3 = S.2.1 64 t0 → ∀ z4 : Int32, z4 = S.1 40 t0 → ∀ q5 : Nat, z3 = some q5 → inR z4 4002 ∧ ∀ S6 : kS, S6 = cA S q5 (ix z4) a0 → ∀ z7 : Option Nat, z7 = S6.2.1 65 t0 → ∀ z8 : Int32, z8 = S6.1 40 t0 → ∀ q9 : Nat, z7 = some q9 → inR z8 4002 ∧ ∀ S10 : kS, S10 = cA S6 q9 (ix z8) a1 → ∀ z11 : Option Nat, z11 = S10.2.1 66 t0 → ∀ z12 : Int32, z12 = S10.1 40 t0 → ∀ q13 : Nat, z11 = some q13 → inR z12 4002 ∧ ∀ S14 : kS, S14 = cL S10 q13 (ix z12) a2 → ∀ z15 : Int32, z15 = S14.1 40 t0 → ∀ z16 : Int32, z16 = z15 + 1 → ∀ S17 : kS, S17 = cI S14 40 t0 z16 → K S17))
theorem ty_X10_keep {d : List (Nat × cK)} {t0 : Nat} {a0 : Int32} {a1 : Int32} {a2 : Int64} (t_t0 : (t0, Sum.inl 10) ∈ d) {S : kS} {K K' : kS → Prop} (hW : WT d S) (hk : ∀ S1, WT d S1 → K S1 → K' S1) (h : wT_X10_keep t0 a0 a1 a2 S K) : wp_X10_keep t0 a0 a1 a2 S K' := by
  unfold wT_X10_keep at h
  unfold wp_X10_keep
  refine ⟨hasO_of hW t_t0, ?_⟩
  intro z1 e_z1
  replace h := h z1 e_z1
  refine ⟨fun c => ?_, fun c => ?_⟩
  · replace h := h.1 c
    exact hk _ hW h
  · replace h := h.2 c
    refine ⟨hasO_of hW t_t0, ?_⟩
    intro z3 e_z3
    replace h := h z3 e_z3
    have t_z3 : ∀ b, z3 = some b → (b, Sum.inr (4002, 0)) ∈ d := fun b hb => hW.2.1 64 _ b t_t0 (by rw [← e_z3]; exact hb)
    have n_z3 := wt_nn (f := 64) hW (by decide) t_t0 e_z3
    refine ⟨hasO_of hW t_t0, ?_⟩
    intro z4 e_z4
    replace h := h z4 e_z4
    obtain ⟨q5, e_q5⟩ := n_z3
    refine ⟨q5, e_q5, ?_⟩
    replace h := h q5 e_q5
    have t_q5 := t_z3 q5 e_q5
    refine ⟨hasA_of hW t_q5, ?_⟩
    have hin := h.1
    refine ⟨h.1, ?_⟩
    replace h := h.2
    intro S6 e_S6
    replace h := h S6 e_S6
    replace hW := WT_a hW e_S6
    refine ⟨hasO_of hW t_t0, ?_⟩
    intro z7 e_z7
    replace h := h z7 e_z7
    have t_z7 : ∀ b, z7 = some b → (b, Sum.inr (4002, 0)) ∈ d := fun b hb => hW.2.1 65 _ b t_t0 (by rw [← e_z7]; exact hb)
    have n_z7 := wt_nn (f := 65) hW (by decide) t_t0 e_z7
    refine ⟨hasO_of hW t_t0, ?_⟩
    intro z8 e_z8
    replace h := h z8 e_z8
    obtain ⟨q9, e_q9⟩ := n_z7
    refine ⟨q9, e_q9, ?_⟩
    replace h := h q9 e_q9
    have t_q9 := t_z7 q9 e_q9
    refine ⟨hasA_of hW t_q9, ?_⟩
    have hin := h.1
    refine ⟨h.1, ?_⟩
    replace h := h.2
    intro S10 e_S10
    replace h := h S10 e_S10
    replace hW := WT_a hW e_S10
    refine ⟨hasO_of hW t_t0, ?_⟩
    intro z11 e_z11
    replace h := h z11 e_z11
    have t_z11 : ∀ b, z11 = some b → (b, Sum.inr (4002, 1)) ∈ d := fun b hb => hW.2.1 66 _ b t_t0 (by rw [← e_z11]; exact hb)
    have n_z11 := wt_nn (f := 66) hW (by decide) t_t0 e_z11
    refine ⟨hasO_of hW t_t0, ?_⟩
    intro z12 e_z12
    replace h := h z12 e_z12
    obtain ⟨q13, e_q13⟩ := n_z11
    refine ⟨q13, e_q13, ?_⟩
    replace h := h q13 e_q13
    have t_q13 := t_z11 q13 e_q13
    refine ⟨hasA_of hW t_q13, ?_⟩
    have hin := h.1
    refine ⟨h.1, ?_⟩
    replace h := h.2
    intro S14 e_S14
    replace h := h S14 e_S14
    replace hW := WT_l hW e_S14
    refine ⟨hasO_of hW t_t0, ?_⟩
    intro z15 e_z15
    replace h := h z15 e_z15
    intro z16 e_z16
    replace h := h z16 e_z16
    refine ⟨hasO_of hW t_t0, ?_⟩
    intro S17 e_S17
    replace h := h S17 e_S17
    replace hW := WT_i hW e_S17
    exact hk _ hW h
def wT_X10_kindOf_2 (K : kS → Int32 → Prop) (k2 : Nat × Int64 × Int32 × kS → Prop) (x0 : Nat) (x1 : Int64) (x3 : Int32) (S : kS) : Prop := ((21 ≤ x3 → K S 3) ∧ (¬ 21 ≤ x3 → ∀ z2 : Option Nat, z2 = S.2.1 68 x0 → ∀ q3 : Nat, z2 = some q3 → inR x3 21 ∧ ∀ z4 : Int64, z4 = S.2.2.2.1 q3 (ix x3) → ∀ z5 : Int32, z5 = lg_cmp z4 x1 → ((¬ z5 = 0 → ∀ z7 : Int32, z7 = x3 + 1 → k2 (x0, x1, z7, S)) ∧ (z5 = 0 → ∀ z8 : Int32, z8 = 200 + x3 → K S z8))))
def lT_X10_kindOf_2 (K : kS → Int32 → Prop) (k2 : Nat × Int64 × Int32 × kS → Prop) (u : Nat × Int64 × Int32 × kS) : Prop := wT_X10_kindOf_2 K k2 u.1 u.2.1 u.2.2.1 u.2.2.2
def wT_X10_kindOf (t0 : Nat) (a0 : Int64) (S : kS) (K : kS → Int32 → Prop) : Prop := (∃ n9, it (lT_X10_kindOf_2 K) n9 (t0, a0, 0, S))
theorem ty_X10_kindOf_2 {d : List (Nat × cK)} {K K' : kS → Int32 → Prop} {k2 k2' : Nat × Int64 × Int32 × kS → Prop} (hk : ∀ S1 r1, WT d S1 → K S1 r1 → K' S1 r1) (hk2 : ∀ (x0 : Nat) (x1 : Int64) (x3 : Int32), ((x0, Sum.inl 10) ∈ d) → ∀ S : kS, WT d S → k2 (x0, x1, x3, S) → k2' (x0, x1, x3, S)) {x0 : Nat} {x1 : Int64} {x3 : Int32} (t_x0 : (x0, Sum.inl 10) ∈ d) {S : kS} (hW : WT d S) (h : wT_X10_kindOf_2 K k2 x0 x1 x3 S) : wp_X10_kindOf_2 K' k2' x0 x1 x3 S := by
  unfold wT_X10_kindOf_2 at h
  unfold wp_X10_kindOf_2
  refine ⟨fun c => ?_, fun c => ?_⟩
  · replace h := h.1 c
    exact hk _ _ hW h
  · replace h := h.2 c
    refine ⟨hasO_of hW t_x0, ?_⟩
    intro z2 e_z2
    replace h := h z2 e_z2
    have t_z2 : ∀ b, z2 = some b → (b, Sum.inr (21, 1)) ∈ d := fun b hb => hW.2.1 68 _ b t_x0 (by rw [← e_z2]; exact hb)
    have n_z2 := wt_nn (f := 68) hW (by decide) t_x0 e_z2
    obtain ⟨q3, e_q3⟩ := n_z2
    refine ⟨q3, e_q3, ?_⟩
    replace h := h q3 e_q3
    have t_q3 := t_z2 q3 e_q3
    refine ⟨hasA_of hW t_q3, ?_⟩
    have hin := h.1
    refine ⟨h.1, ?_⟩
    replace h := h.2
    intro z4 e_z4
    replace h := h z4 e_z4
    intro z5 e_z5
    replace h := h z5 e_z5
    refine ⟨fun c => ?_, fun c => ?_⟩
    · replace h := h.1 c
      intro z7 e_z7
      replace h := h z7 e_z7
      exact hk2 _ _ _ t_x0 _ hW h
    · replace h := h.2 c
      intro z8 e_z8
      replace h := h z8 e_z8
      exact hk _ _ hW h
theorem tyl_X10_kindOf_2 {d : List (Nat × cK)} {K K' : kS → Int32 → Prop} (hk : ∀ S1 r1, WT d S1 → K S1 r1 → K' S1 r1) : ∀ (n : Nat) (x0 : Nat) (x1 : Int64) (x3 : Int32), ((x0, Sum.inl 10) ∈ d) → ∀ S : kS, WT d S → it (lT_X10_kindOf_2 K) n (x0, x1, x3, S) → it (ls_X10_kindOf_2 K') n (x0, x1, x3, S) := by
  intro n
  induction n with
  | zero => exact fun _ _ _ _ _ _ h => h
  | succ n ih => exact fun x0 x1 x3 t_x0 S hW h => ty_X10_kindOf_2 hk ih t_x0 hW h
theorem ty_X10_kindOf {d : List (Nat × cK)} {t0 : Nat} {a0 : Int64} (t_t0 : (t0, Sum.inl 10) ∈ d) {S : kS} {K K' : kS → Int32 → Prop} (hW : WT d S) (hk : ∀ S1 r1, WT d S1 → K S1 r1 → K' S1 r1) (h : wT_X10_kindOf t0 a0 S K) : wp_X10_kindOf t0 a0 S K' := by
  unfold wT_X10_kindOf at h
  unfold wp_X10_kindOf
  obtain ⟨n9, h⟩ := h
  exact ⟨n9, tyl_X10_kindOf_2 hk n9 _ _ _ t_t0 _ hW h⟩
def wT_X10_longer_28 (K : kS → Int64 → Prop) (y0 : Int64) (y1 : Int32) (S : kS) : Prop := ∀ z8 : Int64, z8 = Int32.toInt64 y1 → ∀ z9 : Int64, z9 = y0 + z8 → K S z9
def wT_X10_longer (a0 : Int64) (a1 : Int32) (S : kS) (K : kS → Int64 → Prop) : Prop := ∀ z1 : Int64, z1 = a0 * 37 → wT_X10_isDigit a1 S (fun (S2 : kS) (r2 : Int32) => ((r2 = 0 → ∀ z4 : Int32, z4 = a1 - 97 → ∀ z5 : Int32, z5 = 1 + z4 → wT_X10_longer_28 K z1 z5 S2) ∧ (¬ r2 = 0 → ∀ z6 : Int32, z6 = a1 - 48 → ∀ z7 : Int32, z7 = 27 + z6 → wT_X10_longer_28 K z1 z7 S2)))
theorem ty_X10_longer_28 {d : List (Nat × cK)} {K K' : kS → Int64 → Prop} (hk : ∀ S1 r1, WT d S1 → K S1 r1 → K' S1 r1) {y0 : Int64} {y1 : Int32} {S : kS} (hW : WT d S) (h : wT_X10_longer_28 K y0 y1 S) : wp_X10_longer_28 K' y0 y1 S := by
  unfold wT_X10_longer_28 at h
  unfold wp_X10_longer_28
  intro z8 e_z8
  replace h := h z8 e_z8
  intro z9 e_z9
  replace h := h z9 e_z9
  exact hk _ _ hW h
theorem ty_X10_longer {d : List (Nat × cK)} {a0 : Int64} {a1 : Int32} {S : kS} {K K' : kS → Int64 → Prop} (hW : WT d S) (hk : ∀ S1 r1, WT d S1 → K S1 r1 → K' S1 r1) (h : wT_X10_longer a0 a1 S K) : wp_X10_longer a0 a1 S K' := by
  unfold wT_X10_longer at h
  unfold wp_X10_longer
  intro z1 e_z1
  replace h := h z1 e_z1
  refine ty_X10_isDigit  hW (fun S2 r2 hW h => ?_) h
  refine ⟨fun c => ?_, fun c => ?_⟩
  · replace h := h.1 c
    intro z4 e_z4
    replace h := h z4 e_z4
    intro z5 e_z5
    replace h := h z5 e_z5
    exact ty_X10_longer_28 hk hW h
  · replace h := h.2 c
    intro z6 e_z6
    replace h := h z6 e_z6
    intro z7 e_z7
    replace h := h z7 e_z7
    exact ty_X10_longer_28 hk hW h
def wT_X10_onlyWord_28 (K : kS → Int64 → Prop) (y0 : Int64) (S : kS) : Prop := K S y0
def wT_X10_onlyWord_27 (K : kS → Int64 → Prop) (S : kS) : Prop := wT_X10_onlyWord_28 K 0 S
def wT_X10_onlyWord (t0 : Nat) (S : kS) (K : kS → Int64 → Prop) : Prop := ∀ z1 : Int32, z1 = S.1 40 t0 → ((¬ z1 = 2 → wT_X10_onlyWord_27 K S) ∧ (z1 = 2 → ∀ z3 : Option Nat, z3 = S.2.1 64 t0 → ∀ q4 : Nat, z3 = some q4 → inR 0 4002 ∧ ∀ z5 : Int32, z5 = S.2.2.1 q4 (ix 0) → ((¬ z5 = 3 → wT_X10_onlyWord_27 K S) ∧ (z5 = 3 → ∀ z7 : Option Nat, z7 = S.2.1 66 t0 → ∀ q8 : Nat, z7 = some q8 → inR 0 4002 ∧ ∀ z9 : Int64, z9 = S.2.2.2.1 q8 (ix 0) → wT_X10_onlyWord_28 K z9 S))))
theorem ty_X10_onlyWord_28 {d : List (Nat × cK)} {K K' : kS → Int64 → Prop} (hk : ∀ S1 r1, WT d S1 → K S1 r1 → K' S1 r1) {y0 : Int64} {S : kS} (hW : WT d S) (h : wT_X10_onlyWord_28 K y0 S) : wp_X10_onlyWord_28 K' y0 S := by
  unfold wT_X10_onlyWord_28 at h
  unfold wp_X10_onlyWord_28
  exact hk _ _ hW h
theorem ty_X10_onlyWord_27 {d : List (Nat × cK)} {K K' : kS → Int64 → Prop} (hk : ∀ S1 r1, WT d S1 → K S1 r1 → K' S1 r1) {S : kS} (hW : WT d S) (h : wT_X10_onlyWord_27 K S) : wp_X10_onlyWord_27 K' S := by
  unfold wT_X10_onlyWord_27 at h
  unfold wp_X10_onlyWord_27
  exact ty_X10_onlyWord_28 hk hW h
theorem ty_X10_onlyWord {d : List (Nat × cK)} {t0 : Nat} (t_t0 : (t0, Sum.inl 10) ∈ d) {S : kS} {K K' : kS → Int64 → Prop} (hW : WT d S) (hk : ∀ S1 r1, WT d S1 → K S1 r1 → K' S1 r1) (h : wT_X10_onlyWord t0 S K) : wp_X10_onlyWord t0 S K' := by
  unfold wT_X10_onlyWord at h
  unfold wp_X10_onlyWord
  refine ⟨hasO_of hW t_t0, ?_⟩
  intro z1 e_z1
  replace h := h z1 e_z1
  refine ⟨fun c => ?_, fun c => ?_⟩
  · replace h := h.1 c
    exact ty_X10_onlyWord_27 hk hW h
  · replace h := h.2 c
    refine ⟨hasO_of hW t_t0, ?_⟩
    intro z3 e_z3
    replace h := h z3 e_z3
    have t_z3 : ∀ b, z3 = some b → (b, Sum.inr (4002, 0)) ∈ d := fun b hb => hW.2.1 64 _ b t_t0 (by rw [← e_z3]; exact hb)
    have n_z3 := wt_nn (f := 64) hW (by decide) t_t0 e_z3
    obtain ⟨q4, e_q4⟩ := n_z3
    refine ⟨q4, e_q4, ?_⟩
    replace h := h q4 e_q4
    have t_q4 := t_z3 q4 e_q4
    refine ⟨hasA_of hW t_q4, ?_⟩
    have hin := h.1
    refine ⟨h.1, ?_⟩
    replace h := h.2
    intro z5 e_z5
    replace h := h z5 e_z5
    refine ⟨fun c => ?_, fun c => ?_⟩
    · replace h := h.1 c
      exact ty_X10_onlyWord_27 hk hW h
    · replace h := h.2 c
      refine ⟨hasO_of hW t_t0, ?_⟩
      intro z7 e_z7
      replace h := h z7 e_z7
      have t_z7 : ∀ b, z7 = some b → (b, Sum.inr (4002, 1)) ∈ d := fun b hb => hW.2.1 66 _ b t_t0 (by rw [← e_z7]; exact hb)
      have n_z7 := wt_nn (f := 66) hW (by decide) t_t0 e_z7
      obtain ⟨q8, e_q8⟩ := n_z7
      refine ⟨q8, e_q8, ?_⟩
      replace h := h q8 e_q8
      have t_q8 := t_z7 q8 e_q8
      refine ⟨hasA_of hW t_q8, ?_⟩
      have hin := h.1
      refine ⟨h.1, ?_⟩
      replace h := h.2
      intro z9 e_z9
      replace h := h z9 e_z9
      exact ty_X10_onlyWord_28 hk hW h
def wT_X10_readNumber_61 (K : kS → Int32 → Prop) (x1 : Int32) (x2 : Int32) (x3 : Int64) (y0 : Nat) (y1 : Int32) (S : kS) : Prop := wT_X10_keep y0 y1 x1 x3 S (fun (S18 : kS) => K S18 x2)
def wT_X10_readNumber_47 (K : kS → Int32 → Prop) (x0 : Nat) (x1 : Int32) (x2 : Int32) (x3 : Int64) (S : kS) : Prop := ∀ z16 : Int32, z16 = x2 - x1 → ((z16 ≤ 9 → wT_X10_readNumber_61 K x1 x2 x3 x0 2 S) ∧ (¬ z16 ≤ 9 → wT_X10_readNumber_61 K x1 x2 x3 x0 1 S))
def wT_X10_readNumber_4 (K : kS → Int32 → Prop) (k4 : Nat × Int32 × Int32 × Int64 × kS → Prop) (x0 : Nat) (x1 : Int32) (x2 : Int32) (x3 : Int64) (S : kS) : Prop := ∀ z1 : Int32, z1 = S.1 41 x0 → ((z1 ≤ x2 → wT_X10_readNumber_47 K x0 x1 x2 x3 S) ∧ (¬ z1 ≤ x2 → ∀ z3 : Option Nat, z3 = S.2.1 67 x0 → ∀ q4 : Nat, z3 = some q4 → inR x2 4000 ∧ ∀ z5 : Int32, z5 = S.2.2.1 q4 (ix x2) → wT_X10_isDigit z5 S (fun (S6 : kS) (r6 : Int32) => ((r6 = 0 → wT_X10_readNumber_47 K x0 x1 x2 x3 S6) ∧ (¬ r6 = 0 → ∀ z8 : Int64, z8 = x3 * 10 → ∀ z9 : Option Nat, z9 = S6.2.1 67 x0 → ∀ q10 : Nat, z9 = some q10 → inR x2 4000 ∧ ∀ z11 : Int32, z11 = S6.2.2.1 q10 (ix x2) → ∀ z12 : Int32, z12 = z11 - 48 → ∀ z13 : Int64, z13 = Int32.toInt64 z12 → ∀ z14 : Int64, z14 = z8 + z13 → ∀ z15 : Int32, z15 = x2 + 1 → k4 (x0, x1, z15, z14, S6))))))
def lT_X10_readNumber_4 (K : kS → Int32 → Prop) (k4 : Nat × Int32 × Int32 × Int64 × kS → Prop) (u : Nat × Int32 × Int32 × Int64 × kS) : Prop := wT_X10_readNumber_4 K k4 u.1 u.2.1 u.2.2.1 u.2.2.2.1 u.2.2.2.2
def wT_X10_readNumber (t0 : Nat) (a0 : Int32) (S : kS) (K : kS → Int32 → Prop) : Prop := (∃ n9, it (lT_X10_readNumber_4 K) n9 (t0, a0, a0, 0, S))
theorem ty_X10_readNumber_61 {d : List (Nat × cK)} {K K' : kS → Int32 → Prop} (hk : ∀ S1 r1, WT d S1 → K S1 r1 → K' S1 r1) {x1 : Int32} {x2 : Int32} {x3 : Int64} {y0 : Nat} {y1 : Int32} (t_y0 : (y0, Sum.inl 10) ∈ d) {S : kS} (hW : WT d S) (h : wT_X10_readNumber_61 K x1 x2 x3 y0 y1 S) : wp_X10_readNumber_61 K' x1 x2 x3 y0 y1 S := by
  unfold wT_X10_readNumber_61 at h
  unfold wp_X10_readNumber_61
  refine ⟨hasO_of hW t_y0, ?_⟩
  refine ty_X10_keep t_y0 hW (fun S18 hW h => ?_) h
  exact hk _ _ hW h
theorem ty_X10_readNumber_47 {d : List (Nat × cK)} {K K' : kS → Int32 → Prop} (hk : ∀ S1 r1, WT d S1 → K S1 r1 → K' S1 r1) {x0 : Nat} {x1 : Int32} {x2 : Int32} {x3 : Int64} (t_x0 : (x0, Sum.inl 10) ∈ d) {S : kS} (hW : WT d S) (h : wT_X10_readNumber_47 K x0 x1 x2 x3 S) : wp_X10_readNumber_47 K' x0 x1 x2 x3 S := by
  unfold wT_X10_readNumber_47 at h
  unfold wp_X10_readNumber_47
  intro z16 e_z16
  replace h := h z16 e_z16
  refine ⟨fun c => ?_, fun c => ?_⟩
  · replace h := h.1 c
    exact ty_X10_readNumber_61 hk t_x0 hW h
  · replace h := h.2 c
    exact ty_X10_readNumber_61 hk t_x0 hW h
theorem ty_X10_readNumber_4 {d : List (Nat × cK)} {K K' : kS → Int32 → Prop} {k4 k4' : Nat × Int32 × Int32 × Int64 × kS → Prop} (hk : ∀ S1 r1, WT d S1 → K S1 r1 → K' S1 r1) (hk4 : ∀ (x0 : Nat) (x1 : Int32) (x2 : Int32) (x3 : Int64), ((x0, Sum.inl 10) ∈ d) → ∀ S : kS, WT d S → k4 (x0, x1, x2, x3, S) → k4' (x0, x1, x2, x3, S)) {x0 : Nat} {x1 : Int32} {x2 : Int32} {x3 : Int64} (t_x0 : (x0, Sum.inl 10) ∈ d) {S : kS} (hW : WT d S) (h : wT_X10_readNumber_4 K k4 x0 x1 x2 x3 S) : wp_X10_readNumber_4 K' k4' x0 x1 x2 x3 S := by
  unfold wT_X10_readNumber_4 at h
  unfold wp_X10_readNumber_4
  refine ⟨hasO_of hW t_x0, ?_⟩
  intro z1 e_z1
  replace h := h z1 e_z1
  refine ⟨fun c => ?_, fun c => ?_⟩
  · replace h := h.1 c
    exact ty_X10_readNumber_47 hk t_x0 hW h
  · replace h := h.2 c
    refine ⟨hasO_of hW t_x0, ?_⟩
    intro z3 e_z3
    replace h := h z3 e_z3
    have t_z3 : ∀ b, z3 = some b → (b, Sum.inr (4000, 3)) ∈ d := fun b hb => hW.2.1 67 _ b t_x0 (by rw [← e_z3]; exact hb)
    have n_z3 := wt_nn (f := 67) hW (by decide) t_x0 e_z3
    obtain ⟨q4, e_q4⟩ := n_z3
    refine ⟨q4, e_q4, ?_⟩
    replace h := h q4 e_q4
    have t_q4 := t_z3 q4 e_q4
    refine ⟨hasA_of hW t_q4, ?_⟩
    have hin := h.1
    refine ⟨h.1, ?_⟩
    replace h := h.2
    intro z5 e_z5
    replace h := h z5 e_z5
    refine ty_X10_isDigit  hW (fun S6 r6 hW h => ?_) h
    refine ⟨fun c => ?_, fun c => ?_⟩
    · replace h := h.1 c
      exact ty_X10_readNumber_47 hk t_x0 hW h
    · replace h := h.2 c
      intro z8 e_z8
      replace h := h z8 e_z8
      refine ⟨hasO_of hW t_x0, ?_⟩
      intro z9 e_z9
      replace h := h z9 e_z9
      have t_z9 : ∀ b, z9 = some b → (b, Sum.inr (4000, 3)) ∈ d := fun b hb => hW.2.1 67 _ b t_x0 (by rw [← e_z9]; exact hb)
      have n_z9 := wt_nn (f := 67) hW (by decide) t_x0 e_z9
      obtain ⟨q10, e_q10⟩ := n_z9
      refine ⟨q10, e_q10, ?_⟩
      replace h := h q10 e_q10
      have t_q10 := t_z9 q10 e_q10
      refine ⟨hasA_of hW t_q10, ?_⟩
      have hin := h.1
      refine ⟨h.1, ?_⟩
      replace h := h.2
      intro z11 e_z11
      replace h := h z11 e_z11
      intro z12 e_z12
      replace h := h z12 e_z12
      intro z13 e_z13
      replace h := h z13 e_z13
      intro z14 e_z14
      replace h := h z14 e_z14
      intro z15 e_z15
      replace h := h z15 e_z15
      exact hk4 _ _ _ _ t_x0 _ hW h
theorem tyl_X10_readNumber_4 {d : List (Nat × cK)} {K K' : kS → Int32 → Prop} (hk : ∀ S1 r1, WT d S1 → K S1 r1 → K' S1 r1) : ∀ (n : Nat) (x0 : Nat) (x1 : Int32) (x2 : Int32) (x3 : Int64), ((x0, Sum.inl 10) ∈ d) → ∀ S : kS, WT d S → it (lT_X10_readNumber_4 K) n (x0, x1, x2, x3, S) → it (ls_X10_readNumber_4 K') n (x0, x1, x2, x3, S) := by
  intro n
  induction n with
  | zero => exact fun _ _ _ _ _ _ _ h => h
  | succ n ih => exact fun x0 x1 x2 x3 t_x0 S hW h => ty_X10_readNumber_4 hk ih t_x0 hW h
theorem ty_X10_readNumber {d : List (Nat × cK)} {t0 : Nat} {a0 : Int32} (t_t0 : (t0, Sum.inl 10) ∈ d) {S : kS} {K K' : kS → Int32 → Prop} (hW : WT d S) (hk : ∀ S1 r1, WT d S1 → K S1 r1 → K' S1 r1) (h : wT_X10_readNumber t0 a0 S K) : wp_X10_readNumber t0 a0 S K' := by
  unfold wT_X10_readNumber at h
  unfold wp_X10_readNumber
  obtain ⟨n9, h⟩ := h
  exact ⟨n9, tyl_X10_readNumber_4 hk n9 _ _ _ _ t_t0 _ hW h⟩
def wT_X10_readWord_71 (K : kS → Int32 → Prop) (x1 : Int32) (x2 : Int32) (x3 : Int64) (y0 : Nat) (y1 : Int32) (S : kS) : Prop := wT_X10_keep y0 y1 x1 x3 S (fun (S21 : kS) => K S21 x2)
def wT_X10_readWord_53 (K : kS → Int32 → Prop) (x0 : Nat) (x1 : Int32) (x2 : Int32) (x3 : Int64) (S : kS) : Prop := ∀ z18 : Int32, z18 = x2 - x1 → ((z18 ≤ 12 → wT_X10_kindOf x0 x3 S (fun (S20 : kS) (r20 : Int32) => wT_X10_readWord_71 K x1 x2 x3 x0 r20 S20)) ∧ (¬ z18 ≤ 12 → wT_X10_readWord_71 K x1 x2 x3 x0 1 S))
def wT_X10_readWord_36 (K : kS → Int32 → Prop) (k4 : Nat × Int32 × Int32 × Int64 × kS → Prop) (x0 : Nat) (x1 : Int32) (x2 : Int32) (x3 : Int64) (S : kS) : Prop := ∀ z13 : Option Nat, z13 = S.2.1 67 x0 → ∀ q14 : Nat, z13 = some q14 → inR x2 4000 ∧ ∀ z15 : Int32, z15 = S.2.2.1 q14 (ix x2) → wT_X10_longer x3 z15 S (fun (S16 : kS) (r16 : Int64) => ∀ z17 : Int32, z17 = x2 + 1 → k4 (x0, x1, z17, r16, S16))
def wT_X10_readWord_4 (K : kS → Int32 → Prop) (k4 : Nat × Int32 × Int32 × Int64 × kS → Prop) (x0 : Nat) (x1 : Int32) (x2 : Int32) (x3 : Int64) (S : kS) : Prop := ∀ z1 : Int32, z1 = S.1 41 x0 → ((z1 ≤ x2 → wT_X10_readWord_53 K x0 x1 x2 x3 S) ∧ (¬ z1 ≤ x2 → ∀ z3 : Option Nat, z3 = S.2.1 67 x0 → ∀ q4 : Nat, z3 = some q4 → inR x2 4000 ∧ ∀ z5 : Int32, z5 = S.2.2.1 q4 (ix x2) → wT_X10_isLetter z5 S (fun (S6 : kS) (r6 : Int32) => ((¬ r6 = 0 → wT_X10_readWord_36 K k4 x0 x1 x2 x3 S6) ∧ (r6 = 0 → ∀ z8 : Option Nat, z8 = S6.2.1 67 x0 → ∀ q9 : Nat, z8 = some q9 → inR x2 4000 ∧ ∀ z10 : Int32, z10 = S6.2.2.1 q9 (ix x2) → wT_X10_isDigit z10 S6 (fun (S11 : kS) (r11 : Int32) => ((r11 = 0 → wT_X10_readWord_53 K x0 x1 x2 x3 S11) ∧ (¬ r11 = 0 → wT_X10_readWord_36 K k4 x0 x1 x2 x3 S11))))))))
def lT_X10_readWord_4 (K : kS → Int32 → Prop) (k4 : Nat × Int32 × Int32 × Int64 × kS → Prop) (u : Nat × Int32 × Int32 × Int64 × kS) : Prop := wT_X10_readWord_4 K k4 u.1 u.2.1 u.2.2.1 u.2.2.2.1 u.2.2.2.2
def wT_X10_readWord (t0 : Nat) (a0 : Int32) (S : kS) (K : kS → Int32 → Prop) : Prop := (∃ n9, it (lT_X10_readWord_4 K) n9 (t0, a0, a0, 0, S))
theorem ty_X10_readWord_71 {d : List (Nat × cK)} {K K' : kS → Int32 → Prop} (hk : ∀ S1 r1, WT d S1 → K S1 r1 → K' S1 r1) {x1 : Int32} {x2 : Int32} {x3 : Int64} {y0 : Nat} {y1 : Int32} (t_y0 : (y0, Sum.inl 10) ∈ d) {S : kS} (hW : WT d S) (h : wT_X10_readWord_71 K x1 x2 x3 y0 y1 S) : wp_X10_readWord_71 K' x1 x2 x3 y0 y1 S := by
  unfold wT_X10_readWord_71 at h
  unfold wp_X10_readWord_71
  refine ⟨hasO_of hW t_y0, ?_⟩
  refine ty_X10_keep t_y0 hW (fun S21 hW h => ?_) h
  exact hk _ _ hW h
theorem ty_X10_readWord_53 {d : List (Nat × cK)} {K K' : kS → Int32 → Prop} (hk : ∀ S1 r1, WT d S1 → K S1 r1 → K' S1 r1) {x0 : Nat} {x1 : Int32} {x2 : Int32} {x3 : Int64} (t_x0 : (x0, Sum.inl 10) ∈ d) {S : kS} (hW : WT d S) (h : wT_X10_readWord_53 K x0 x1 x2 x3 S) : wp_X10_readWord_53 K' x0 x1 x2 x3 S := by
  unfold wT_X10_readWord_53 at h
  unfold wp_X10_readWord_53
  intro z18 e_z18
  replace h := h z18 e_z18
  refine ⟨fun c => ?_, fun c => ?_⟩
  · replace h := h.1 c
    refine ⟨hasO_of hW t_x0, ?_⟩
    refine ty_X10_kindOf t_x0 hW (fun S20 r20 hW h => ?_) h
    exact ty_X10_readWord_71 hk t_x0 hW h
  · replace h := h.2 c
    exact ty_X10_readWord_71 hk t_x0 hW h
theorem ty_X10_readWord_36 {d : List (Nat × cK)} {K K' : kS → Int32 → Prop} {k4 k4' : Nat × Int32 × Int32 × Int64 × kS → Prop} (hk : ∀ S1 r1, WT d S1 → K S1 r1 → K' S1 r1) (hk4 : ∀ (x0 : Nat) (x1 : Int32) (x2 : Int32) (x3 : Int64), ((x0, Sum.inl 10) ∈ d) → ∀ S : kS, WT d S → k4 (x0, x1, x2, x3, S) → k4' (x0, x1, x2, x3, S)) {x0 : Nat} {x1 : Int32} {x2 : Int32} {x3 : Int64} (t_x0 : (x0, Sum.inl 10) ∈ d) {S : kS} (hW : WT d S) (h : wT_X10_readWord_36 K k4 x0 x1 x2 x3 S) : wp_X10_readWord_36 K' k4' x0 x1 x2 x3 S := by
  unfold wT_X10_readWord_36 at h
  unfold wp_X10_readWord_36
  refine ⟨hasO_of hW t_x0, ?_⟩
  intro z13 e_z13
  replace h := h z13 e_z13
  have t_z13 : ∀ b, z13 = some b → (b, Sum.inr (4000, 3)) ∈ d := fun b hb => hW.2.1 67 _ b t_x0 (by rw [← e_z13]; exact hb)
  have n_z13 := wt_nn (f := 67) hW (by decide) t_x0 e_z13
  obtain ⟨q14, e_q14⟩ := n_z13
  refine ⟨q14, e_q14, ?_⟩
  replace h := h q14 e_q14
  have t_q14 := t_z13 q14 e_q14
  refine ⟨hasA_of hW t_q14, ?_⟩
  have hin := h.1
  refine ⟨h.1, ?_⟩
  replace h := h.2
  intro z15 e_z15
  replace h := h z15 e_z15
  refine ty_X10_longer  hW (fun S16 r16 hW h => ?_) h
  intro z17 e_z17
  replace h := h z17 e_z17
  exact hk4 _ _ _ _ t_x0 _ hW h
theorem ty_X10_readWord_4 {d : List (Nat × cK)} {K K' : kS → Int32 → Prop} {k4 k4' : Nat × Int32 × Int32 × Int64 × kS → Prop} (hk : ∀ S1 r1, WT d S1 → K S1 r1 → K' S1 r1) (hk4 : ∀ (x0 : Nat) (x1 : Int32) (x2 : Int32) (x3 : Int64), ((x0, Sum.inl 10) ∈ d) → ∀ S : kS, WT d S → k4 (x0, x1, x2, x3, S) → k4' (x0, x1, x2, x3, S)) {x0 : Nat} {x1 : Int32} {x2 : Int32} {x3 : Int64} (t_x0 : (x0, Sum.inl 10) ∈ d) {S : kS} (hW : WT d S) (h : wT_X10_readWord_4 K k4 x0 x1 x2 x3 S) : wp_X10_readWord_4 K' k4' x0 x1 x2 x3 S := by
  unfold wT_X10_readWord_4 at h
  unfold wp_X10_readWord_4
  refine ⟨hasO_of hW t_x0, ?_⟩
  intro z1 e_z1
  replace h := h z1 e_z1
  refine ⟨fun c => ?_, fun c => ?_⟩
  · replace h := h.1 c
    exact ty_X10_readWord_53 hk t_x0 hW h
  · replace h := h.2 c
    refine ⟨hasO_of hW t_x0, ?_⟩
    intro z3 e_z3
    replace h := h z3 e_z3
    have t_z3 : ∀ b, z3 = some b → (b, Sum.inr (4000, 3)) ∈ d := fun b hb => hW.2.1 67 _ b t_x0 (by rw [← e_z3]; exact hb)
    have n_z3 := wt_nn (f := 67) hW (by decide) t_x0 e_z3
    obtain ⟨q4, e_q4⟩ := n_z3
    refine ⟨q4, e_q4, ?_⟩
    replace h := h q4 e_q4
    have t_q4 := t_z3 q4 e_q4
    refine ⟨hasA_of hW t_q4, ?_⟩
    have hin := h.1
    refine ⟨h.1, ?_⟩
    replace h := h.2
    intro z5 e_z5
    replace h := h z5 e_z5
    refine ty_X10_isLetter  hW (fun S6 r6 hW h => ?_) h
    refine ⟨fun c => ?_, fun c => ?_⟩
    · replace h := h.1 c
      exact ty_X10_readWord_36 hk hk4 t_x0 hW h
    · replace h := h.2 c
      refine ⟨hasO_of hW t_x0, ?_⟩
      intro z8 e_z8
      replace h := h z8 e_z8
      have t_z8 : ∀ b, z8 = some b → (b, Sum.inr (4000, 3)) ∈ d := fun b hb => hW.2.1 67 _ b t_x0 (by rw [← e_z8]; exact hb)
      have n_z8 := wt_nn (f := 67) hW (by decide) t_x0 e_z8
      obtain ⟨q9, e_q9⟩ := n_z8
      refine ⟨q9, e_q9, ?_⟩
      replace h := h q9 e_q9
      have t_q9 := t_z8 q9 e_q9
      refine ⟨hasA_of hW t_q9, ?_⟩
      have hin := h.1
      refine ⟨h.1, ?_⟩
      replace h := h.2
      intro z10 e_z10
      replace h := h z10 e_z10
      refine ty_X10_isDigit  hW (fun S11 r11 hW h => ?_) h
      refine ⟨fun c => ?_, fun c => ?_⟩
      · replace h := h.1 c
        exact ty_X10_readWord_53 hk t_x0 hW h
      · replace h := h.2 c
        exact ty_X10_readWord_36 hk hk4 t_x0 hW h
theorem tyl_X10_readWord_4 {d : List (Nat × cK)} {K K' : kS → Int32 → Prop} (hk : ∀ S1 r1, WT d S1 → K S1 r1 → K' S1 r1) : ∀ (n : Nat) (x0 : Nat) (x1 : Int32) (x2 : Int32) (x3 : Int64), ((x0, Sum.inl 10) ∈ d) → ∀ S : kS, WT d S → it (lT_X10_readWord_4 K) n (x0, x1, x2, x3, S) → it (ls_X10_readWord_4 K') n (x0, x1, x2, x3, S) := by
  intro n
  induction n with
  | zero => exact fun _ _ _ _ _ _ _ h => h
  | succ n ih => exact fun x0 x1 x2 x3 t_x0 S hW h => ty_X10_readWord_4 hk ih t_x0 hW h
theorem ty_X10_readWord {d : List (Nat × cK)} {t0 : Nat} {a0 : Int32} (t_t0 : (t0, Sum.inl 10) ∈ d) {S : kS} {K K' : kS → Int32 → Prop} (hW : WT d S) (hk : ∀ S1 r1, WT d S1 → K S1 r1 → K' S1 r1) (h : wT_X10_readWord t0 a0 S K) : wp_X10_readWord t0 a0 S K' := by
  unfold wT_X10_readWord at h
  unfold wp_X10_readWord
  obtain ⟨n9, h⟩ := h
  exact ⟨n9, tyl_X10_readWord_4 hk n9 _ _ _ _ t_t0 _ hW h⟩
def wT_X11_box (t0 : Nat) (a0 : Int32) (a1 : Int32) (S : kS) (K : kS → Int32 → Prop) : Prop := ((a0 < 0 → K S 0) ∧ (¬ a0 < 0 → ((8 ≤ a0 → K S 0) ∧ (¬ 8 ≤ a0 → ((a1 < 0 → K S 0) ∧ (¬ a1 < 0 → ∀ z4 : Option Nat, z4 = S.2.1 72 t0 → ∀ q5 : Nat, z4 = some q5 → ∀ z6 : Option Nat, z6 = S.2.1 6 q5 → ∀ q7 : Nat, z6 = some q7 → inR a0 8 ∧ ∀ z8 : Int32, z8 = S.2.2.1 q7 (ix a0) → ((a1 < z8 → ∀ z10 : Option Nat, z10 = S.2.1 72 t0 → ∀ q11 : Nat, z10 = some q11 → ∀ z12 : Option Nat, z12 = S.2.1 5 q11 → ∀ z13 : Int32, z13 = a0 * 50 → ∀ z14 : Int32, z14 = z13 + a1 → ∀ q15 : Nat, z12 = some q15 → inR z14 400 ∧ ∀ z16 : Int32, z16 = S.2.2.1 q15 (ix z14) → K S z16) ∧ (¬ a1 < z8 → K S 0))))))))
theorem ty_X11_box {d : List (Nat × cK)} {t0 : Nat} {a0 : Int32} {a1 : Int32} (t_t0 : (t0, Sum.inl 11) ∈ d) {S : kS} {K K' : kS → Int32 → Prop} (hW : WT d S) (hk : ∀ S1 r1, WT d S1 → K S1 r1 → K' S1 r1) (h : wT_X11_box t0 a0 a1 S K) : wp_X11_box t0 a0 a1 S K' := by
  unfold wT_X11_box at h
  unfold wp_X11_box
  refine ⟨fun c => ?_, fun c => ?_⟩
  · replace h := h.1 c
    exact hk _ _ hW h
  · replace h := h.2 c
    refine ⟨fun c => ?_, fun c => ?_⟩
    · replace h := h.1 c
      exact hk _ _ hW h
    · replace h := h.2 c
      refine ⟨fun c => ?_, fun c => ?_⟩
      · replace h := h.1 c
        exact hk _ _ hW h
      · replace h := h.2 c
        refine ⟨hasO_of hW t_t0, ?_⟩
        intro z4 e_z4
        replace h := h z4 e_z4
        have t_z4 : ∀ b, z4 = some b → (b, Sum.inl 1) ∈ d := fun b hb => hW.2.1 72 _ b t_t0 (by rw [← e_z4]; exact hb)
        have n_z4 := wt_nn (f := 72) hW (by decide) t_t0 e_z4
        obtain ⟨q5, e_q5⟩ := n_z4
        refine ⟨q5, e_q5, ?_⟩
        replace h := h q5 e_q5
        have t_q5 := t_z4 q5 e_q5
        refine ⟨hasO_of hW t_q5, ?_⟩
        intro z6 e_z6
        replace h := h z6 e_z6
        have t_z6 : ∀ b, z6 = some b → (b, Sum.inr (8, 0)) ∈ d := fun b hb => hW.2.1 6 _ b t_q5 (by rw [← e_z6]; exact hb)
        have n_z6 := wt_nn (f := 6) hW (by decide) t_q5 e_z6
        obtain ⟨q7, e_q7⟩ := n_z6
        refine ⟨q7, e_q7, ?_⟩
        replace h := h q7 e_q7
        have t_q7 := t_z6 q7 e_q7
        refine ⟨hasA_of hW t_q7, ?_⟩
        have hin := h.1
        refine ⟨h.1, ?_⟩
        replace h := h.2
        intro z8 e_z8
        replace h := h z8 e_z8
        refine ⟨fun c => ?_, fun c => ?_⟩
        · replace h := h.1 c
          refine ⟨hasO_of hW t_t0, ?_⟩
          intro z10 e_z10
          replace h := h z10 e_z10
          have t_z10 : ∀ b, z10 = some b → (b, Sum.inl 1) ∈ d := fun b hb => hW.2.1 72 _ b t_t0 (by rw [← e_z10]; exact hb)
          have n_z10 := wt_nn (f := 72) hW (by decide) t_t0 e_z10
          obtain ⟨q11, e_q11⟩ := n_z10
          refine ⟨q11, e_q11, ?_⟩
          replace h := h q11 e_q11
          have t_q11 := t_z10 q11 e_q11
          refine ⟨hasO_of hW t_q11, ?_⟩
          intro z12 e_z12
          replace h := h z12 e_z12
          have t_z12 : ∀ b, z12 = some b → (b, Sum.inr (400, 0)) ∈ d := fun b hb => hW.2.1 5 _ b t_q11 (by rw [← e_z12]; exact hb)
          have n_z12 := wt_nn (f := 5) hW (by decide) t_q11 e_z12
          intro z13 e_z13
          replace h := h z13 e_z13
          intro z14 e_z14
          replace h := h z14 e_z14
          obtain ⟨q15, e_q15⟩ := n_z12
          refine ⟨q15, e_q15, ?_⟩
          replace h := h q15 e_q15
          have t_q15 := t_z12 q15 e_q15
          refine ⟨hasA_of hW t_q15, ?_⟩
          have hin := h.1
          refine ⟨h.1, ?_⟩
          replace h := h.2
          intro z16 e_z16
          replace h := h z16 e_z16
          exact hk _ _ hW h
        · replace h := h.2 c
          exact hk _ _ hW h
def wT_X1_has (t0 : Nat) (a0 : Int32) (S : kS) (K : kS → Int32 → Prop) : Prop := ((a0 < 0 → K S 0) ∧ (¬ a0 < 0 → ∀ z2 : Int32, z2 = S.1 1 t0 → ((z2 ≤ a0 → K S 0) ∧ (¬ z2 ≤ a0 → K S 1))))
theorem ty_X1_has {d : List (Nat × cK)} {t0 : Nat} {a0 : Int32} (t_t0 : (t0, Sum.inl 1) ∈ d) {S : kS} {K K' : kS → Int32 → Prop} (hW : WT d S) (hk : ∀ S1 r1, WT d S1 → K S1 r1 → K' S1 r1) (h : wT_X1_has t0 a0 S K) : wp_X1_has t0 a0 S K' := by
  unfold wT_X1_has at h
  unfold wp_X1_has
  refine ⟨fun c => ?_, fun c => ?_⟩
  · replace h := h.1 c
    exact hk _ _ hW h
  · replace h := h.2 c
    refine ⟨hasO_of hW t_t0, ?_⟩
    intro z2 e_z2
    replace h := h z2 e_z2
    refine ⟨fun c => ?_, fun c => ?_⟩
    · replace h := h.1 c
      exact hk _ _ hW h
    · replace h := h.2 c
      exact hk _ _ hW h
def wT_X1_plan (t0 : Nat) (a0 : Int32) (S : kS) (K : kS → Prop) : Prop := ∀ z1 : Int32, z1 = S.1 5 t0 → ((416 ≤ z1 → K S) ∧ (¬ 416 ≤ z1 → ∀ z3 : Option Nat, z3 = S.2.1 10 t0 → ∀ z4 : Int32, z4 = S.1 5 t0 → ∀ q5 : Nat, z3 = some q5 → inR z4 416 ∧ ∀ S6 : kS, S6 = cA S q5 (ix z4) a0 → ∀ z7 : Int32, z7 = S6.1 5 t0 → ∀ z8 : Int32, z8 = z7 + 1 → ∀ S9 : kS, S9 = cI S6 5 t0 z8 → K S9))
theorem ty_X1_plan {d : List (Nat × cK)} {t0 : Nat} {a0 : Int32} (t_t0 : (t0, Sum.inl 1) ∈ d) {S : kS} {K K' : kS → Prop} (hW : WT d S) (hk : ∀ S1, WT d S1 → K S1 → K' S1) (h : wT_X1_plan t0 a0 S K) : wp_X1_plan t0 a0 S K' := by
  unfold wT_X1_plan at h
  unfold wp_X1_plan
  refine ⟨hasO_of hW t_t0, ?_⟩
  intro z1 e_z1
  replace h := h z1 e_z1
  refine ⟨fun c => ?_, fun c => ?_⟩
  · replace h := h.1 c
    exact hk _ hW h
  · replace h := h.2 c
    refine ⟨hasO_of hW t_t0, ?_⟩
    intro z3 e_z3
    replace h := h z3 e_z3
    have t_z3 : ∀ b, z3 = some b → (b, Sum.inr (416, 0)) ∈ d := fun b hb => hW.2.1 10 _ b t_t0 (by rw [← e_z3]; exact hb)
    have n_z3 := wt_nn (f := 10) hW (by decide) t_t0 e_z3
    refine ⟨hasO_of hW t_t0, ?_⟩
    intro z4 e_z4
    replace h := h z4 e_z4
    obtain ⟨q5, e_q5⟩ := n_z3
    refine ⟨q5, e_q5, ?_⟩
    replace h := h q5 e_q5
    have t_q5 := t_z3 q5 e_q5
    refine ⟨hasA_of hW t_q5, ?_⟩
    have hin := h.1
    refine ⟨h.1, ?_⟩
    replace h := h.2
    intro S6 e_S6
    replace h := h S6 e_S6
    replace hW := WT_a hW e_S6
    refine ⟨hasO_of hW t_t0, ?_⟩
    intro z7 e_z7
    replace h := h z7 e_z7
    intro z8 e_z8
    replace h := h z8 e_z8
    refine ⟨hasO_of hW t_t0, ?_⟩
    intro S9 e_S9
    replace h := h S9 e_S9
    replace hW := WT_i hW e_S9
    exact hk _ hW h
def wT_X2_remove_58 (K : kS → Prop) (x1 : Nat) (S : kS) : Prop := ∀ S17 : kS, S17 = cR S 25 x1 none → ∀ S18 : kS, S18 = cR S17 26 x1 none → ∀ S19 : kS, S19 = cR S18 27 x1 none → K S19
def wT_X2_remove_29 (K : kS → Prop) (x0 : Nat) (x1 : Nat) (S : kS) : Prop := ∀ z9 : Option Nat, z9 = S.2.1 27 x1 → ((z9 = none → ∀ z11 : Option Nat, z11 = S.2.1 26 x1 → ∀ S12 : kS, S12 = cR S 13 x0 z11 → wT_X2_remove_58 K x1 S12) ∧ (∀ q10 : Nat, z9 = some q10 → ∀ z13 : Option Nat, z13 = S.2.1 27 x1 → ∀ z14 : Option Nat, z14 = S.2.1 26 x1 → ∃ q15 : Nat, z13 = some q15 ∧ ∀ S16 : kS, S16 = cR S 26 q15 z14 → wT_X2_remove_58 K x1 S16))
def wT_X2_remove (t0 : Nat) (a0 : Nat) (S : kS) (K : kS → Prop) : Prop := ∀ z1 : Option Nat, z1 = S.2.1 26 a0 → ((z1 = none → ∀ z3 : Option Nat, z3 = S.2.1 27 a0 → ∀ S4 : kS, S4 = cR S 12 t0 z3 → wT_X2_remove_29 K t0 a0 S4) ∧ (∀ q2 : Nat, z1 = some q2 → ∀ z5 : Option Nat, z5 = S.2.1 26 a0 → ∀ z6 : Option Nat, z6 = S.2.1 27 a0 → ∃ q7 : Nat, z5 = some q7 ∧ ∀ S8 : kS, S8 = cR S 27 q7 z6 → wT_X2_remove_29 K t0 a0 S8))
theorem ty_X2_remove_58 {d : List (Nat × cK)} {K K' : kS → Prop} (hk : ∀ S1, WT d S1 → K S1 → K' S1) {x1 : Nat} (t_x1 : (x1, Sum.inl 4) ∈ d) {S : kS} (hW : WT d S) (h : wT_X2_remove_58 K x1 S) : wp_X2_remove_58 K' x1 S := by
  unfold wT_X2_remove_58 at h
  unfold wp_X2_remove_58
  refine ⟨hasO_of hW t_x1, ?_⟩
  intro S17 e_S17
  replace h := h S17 e_S17
  replace hW := WT_r hW e_S17 (fun b hb => by cases hb) (by decide)
  refine ⟨hasO_of hW t_x1, ?_⟩
  intro S18 e_S18
  replace h := h S18 e_S18
  replace hW := WT_r hW e_S18 (fun b hb => by cases hb) (by decide)
  refine ⟨hasO_of hW t_x1, ?_⟩
  intro S19 e_S19
  replace h := h S19 e_S19
  replace hW := WT_r hW e_S19 (fun b hb => by cases hb) (by decide)
  exact hk _ hW h
theorem ty_X2_remove_29 {d : List (Nat × cK)} {K K' : kS → Prop} (hk : ∀ S1, WT d S1 → K S1 → K' S1) {x0 : Nat} {x1 : Nat} (t_x0 : (x0, Sum.inl 2) ∈ d) (t_x1 : (x1, Sum.inl 4) ∈ d) {S : kS} (hW : WT d S) (h : wT_X2_remove_29 K x0 x1 S) : wp_X2_remove_29 K' x0 x1 S := by
  unfold wT_X2_remove_29 at h
  unfold wp_X2_remove_29
  refine ⟨hasO_of hW t_x1, ?_⟩
  intro z9 e_z9
  replace h := h z9 e_z9
  have t_z9 : ∀ b, z9 = some b → (b, Sum.inl 4) ∈ d := fun b hb => hW.2.1 27 _ b t_x1 (by rw [← e_z9]; exact hb)
  refine ⟨fun c => ?_, fun q10 c => ?_⟩
  · replace h := h.1 c
    refine ⟨hasO_of hW t_x1, ?_⟩
    intro z11 e_z11
    replace h := h z11 e_z11
    have t_z11 : ∀ b, z11 = some b → (b, Sum.inl 4) ∈ d := fun b hb => hW.2.1 26 _ b t_x1 (by rw [← e_z11]; exact hb)
    refine ⟨hasO_of hW t_x0, ?_⟩
    intro S12 e_S12
    replace h := h S12 e_S12
    replace hW := WT_r hW e_S12 t_z11 (by decide)
    exact ty_X2_remove_58 hk t_x1 hW h
  · replace h := h.2 q10 c
    have t_q10 := t_z9 q10 c
    refine ⟨hasO_of hW t_x1, ?_⟩
    intro z13 e_z13
    replace h := h z13 e_z13
    have t_z13 : ∀ b, z13 = some b → (b, Sum.inl 4) ∈ d := fun b hb => hW.2.1 27 _ b t_x1 (by rw [← e_z13]; exact hb)
    refine ⟨hasO_of hW t_x1, ?_⟩
    intro z14 e_z14
    replace h := h z14 e_z14
    have t_z14 : ∀ b, z14 = some b → (b, Sum.inl 4) ∈ d := fun b hb => hW.2.1 26 _ b t_x1 (by rw [← e_z14]; exact hb)
    obtain ⟨q15, e_q15, h9⟩ := h
    replace h := h9
    clear h9
    refine ⟨q15, e_q15, ?_⟩
    have t_q15 := t_z13 q15 e_q15
    refine ⟨hasO_of hW t_q15, ?_⟩
    intro S16 e_S16
    replace h := h S16 e_S16
    replace hW := WT_r hW e_S16 t_z14 (by decide)
    exact ty_X2_remove_58 hk t_x1 hW h
theorem ty_X2_remove {d : List (Nat × cK)} {t0 : Nat} {a0 : Nat} (t_t0 : (t0, Sum.inl 2) ∈ d) (t_a0 : (a0, Sum.inl 4) ∈ d) {S : kS} {K K' : kS → Prop} (hW : WT d S) (hk : ∀ S1, WT d S1 → K S1 → K' S1) (h : wT_X2_remove t0 a0 S K) : wp_X2_remove t0 a0 S K' := by
  unfold wT_X2_remove at h
  unfold wp_X2_remove
  refine ⟨hasO_of hW t_a0, ?_⟩
  intro z1 e_z1
  replace h := h z1 e_z1
  have t_z1 : ∀ b, z1 = some b → (b, Sum.inl 4) ∈ d := fun b hb => hW.2.1 26 _ b t_a0 (by rw [← e_z1]; exact hb)
  refine ⟨fun c => ?_, fun q2 c => ?_⟩
  · replace h := h.1 c
    refine ⟨hasO_of hW t_a0, ?_⟩
    intro z3 e_z3
    replace h := h z3 e_z3
    have t_z3 : ∀ b, z3 = some b → (b, Sum.inl 4) ∈ d := fun b hb => hW.2.1 27 _ b t_a0 (by rw [← e_z3]; exact hb)
    refine ⟨hasO_of hW t_t0, ?_⟩
    intro S4 e_S4
    replace h := h S4 e_S4
    replace hW := WT_r hW e_S4 t_z3 (by decide)
    exact ty_X2_remove_29 hk t_t0 t_a0 hW h
  · replace h := h.2 q2 c
    have t_q2 := t_z1 q2 c
    refine ⟨hasO_of hW t_a0, ?_⟩
    intro z5 e_z5
    replace h := h z5 e_z5
    have t_z5 : ∀ b, z5 = some b → (b, Sum.inl 4) ∈ d := fun b hb => hW.2.1 26 _ b t_a0 (by rw [← e_z5]; exact hb)
    refine ⟨hasO_of hW t_a0, ?_⟩
    intro z6 e_z6
    replace h := h z6 e_z6
    have t_z6 : ∀ b, z6 = some b → (b, Sum.inl 4) ∈ d := fun b hb => hW.2.1 27 _ b t_a0 (by rw [← e_z6]; exact hb)
    obtain ⟨q7, e_q7, h9⟩ := h
    replace h := h9
    clear h9
    refine ⟨q7, e_q7, ?_⟩
    have t_q7 := t_z5 q7 e_q7
    refine ⟨hasO_of hW t_q7, ?_⟩
    intro S8 e_S8
    replace h := h S8 e_S8
    replace hW := WT_r hW e_S8 t_z6 (by decide)
    exact ty_X2_remove_29 hk t_t0 t_a0 hW h
def wT_X4_isAdrift_5 (K : kS → Int32 → Prop) (k5 : Option Nat × kS → Prop) (x1 : Option Nat) (S : kS) : Prop := ((x1 = none → K S 0) ∧ (∀ q2 : Nat, x1 = some q2 → ∀ z3 : Int32, z3 = S.1 13 q2 → ((z3 = 0 → ∀ z5 : Option Nat, z5 = S.2.1 23 q2 → k5 (z5, S)) ∧ (¬ z3 = 0 → K S 1))))
def lT_X4_isAdrift_5 (K : kS → Int32 → Prop) (k5 : Option Nat × kS → Prop) (u : Option Nat × kS) : Prop := wT_X4_isAdrift_5 K k5 u.1 u.2
def wT_X4_isAdrift (t0 : Nat) (S : kS) (K : kS → Int32 → Prop) : Prop := ∀ z1 : Option Nat, z1 = S.2.1 23 t0 → (∃ n9, it (lT_X4_isAdrift_5 K) n9 (z1, S))
theorem ty_X4_isAdrift_5 {d : List (Nat × cK)} {K K' : kS → Int32 → Prop} {k5 k5' : Option Nat × kS → Prop} (hk : ∀ S1 r1, WT d S1 → K S1 r1 → K' S1 r1) (hk5 : ∀ (x1 : Option Nat), (∀ b, x1 = some b → (b, Sum.inl 4) ∈ d) → ∀ S : kS, WT d S → k5 (x1, S) → k5' (x1, S)) {x1 : Option Nat} (t_x1 : ∀ b, x1 = some b → (b, Sum.inl 4) ∈ d) {S : kS} (hW : WT d S) (h : wT_X4_isAdrift_5 K k5 x1 S) : wp_X4_isAdrift_5 K' k5' x1 S := by
  unfold wT_X4_isAdrift_5 at h
  unfold wp_X4_isAdrift_5
  refine ⟨fun c => ?_, fun q2 c => ?_⟩
  · replace h := h.1 c
    exact hk _ _ hW h
  · replace h := h.2 q2 c
    have t_q2 := t_x1 q2 c
    refine ⟨hasO_of hW t_q2, ?_⟩
    intro z3 e_z3
    replace h := h z3 e_z3
    refine ⟨fun c => ?_, fun c => ?_⟩
    · replace h := h.1 c
      refine ⟨hasO_of hW t_q2, ?_⟩
      intro z5 e_z5
      replace h := h z5 e_z5
      have t_z5 : ∀ b, z5 = some b → (b, Sum.inl 4) ∈ d := fun b hb => hW.2.1 23 _ b t_q2 (by rw [← e_z5]; exact hb)
      exact hk5 _ t_z5 _ hW h
    · replace h := h.2 c
      exact hk _ _ hW h
theorem tyl_X4_isAdrift_5 {d : List (Nat × cK)} {K K' : kS → Int32 → Prop} (hk : ∀ S1 r1, WT d S1 → K S1 r1 → K' S1 r1) : ∀ (n : Nat) (x1 : Option Nat), (∀ b, x1 = some b → (b, Sum.inl 4) ∈ d) → ∀ S : kS, WT d S → it (lT_X4_isAdrift_5 K) n (x1, S) → it (ls_X4_isAdrift_5 K') n (x1, S) := by
  intro n
  induction n with
  | zero => exact fun _ _ _ _ h => h
  | succ n ih => exact fun x1 t_x1 S hW h => ty_X4_isAdrift_5 hk ih t_x1 hW h
theorem ty_X4_isAdrift {d : List (Nat × cK)} {t0 : Nat} (t_t0 : (t0, Sum.inl 4) ∈ d) {S : kS} {K K' : kS → Int32 → Prop} (hW : WT d S) (hk : ∀ S1 r1, WT d S1 → K S1 r1 → K' S1 r1) (h : wT_X4_isAdrift t0 S K) : wp_X4_isAdrift t0 S K' := by
  unfold wT_X4_isAdrift at h
  unfold wp_X4_isAdrift
  refine ⟨hasO_of hW t_t0, ?_⟩
  intro z1 e_z1
  replace h := h z1 e_z1
  have t_z1 : ∀ b, z1 = some b → (b, Sum.inl 4) ∈ d := fun b hb => hW.2.1 23 _ b t_t0 (by rw [← e_z1]; exact hb)
  obtain ⟨n9, h⟩ := h
  exact ⟨n9, tyl_X4_isAdrift_5 hk n9 _ t_z1 _ hW h⟩
def wT_X1_drop_65 (K : kS → Prop) (k5 : Nat × Int32 × Option Nat × kS → Prop) (x0 : Nat) (x2 : Int32) (x3 : Nat) (S : kS) : Prop := ∀ z20 : Option Nat, z20 = S.2.1 24 x3 → k5 (x0, x2, z20, S)
def wT_X1_drop_47 (K : kS → Prop) (k5 : Nat × Int32 × Option Nat × kS → Prop) (x0 : Nat) (x2 : Int32) (x3 : Nat) (S : kS) : Prop := ∀ z14 : Option Nat, z14 = S.2.1 22 x3 → ((z14 = none → wT_X1_drop_65 K k5 x0 x2 x3 S) ∧ (∀ q15 : Nat, z14 = some q15 → ∀ z16 : Option Nat, z16 = S.2.1 22 x3 → ∃ q17 : Nat, z16 = some q17 ∧ ∀ z18 : Int32, z18 = S.1 28 q17 → wT_X1_plan x0 z18 S (fun (S19 : kS) => wT_X1_drop_65 K k5 x0 x2 x3 S19)))
def wT_X1_drop_27 (K : kS → Prop) (k5 : Nat × Int32 × Option Nat × kS → Prop) (x0 : Nat) (x2 : Int32) (x3 : Nat) (S : kS) : Prop := ∀ S8 : kS, S8 = cI S 13 x3 3 → ∀ z9 : Option Nat, z9 = S8.2.1 25 x3 → ((z9 = none → wT_X1_drop_47 K k5 x0 x2 x3 S8) ∧ (∀ q10 : Nat, z9 = some q10 → ∀ z11 : Option Nat, z11 = S8.2.1 25 x3 → ∃ q12 : Nat, z11 = some q12 ∧ wT_X2_remove q12 x3 S8 (fun (S13 : kS) => wT_X1_drop_47 K k5 x0 x2 x3 S13)))
def wT_X1_drop_5 (K : kS → Prop) (k5 : Nat × Int32 × Option Nat × kS → Prop) (x0 : Nat) (x2 : Int32) (x3 : Option Nat) (S : kS) : Prop := ((x3 = none → K S) ∧ (∀ q2 : Nat, x3 = some q2 → ∀ z3 : Int32, z3 = S.1 13 q2 → ((¬ z3 = 0 → wT_X1_drop_65 K k5 x0 x2 q2 S) ∧ (z3 = 0 → ((¬ x2 = 0 → wT_X1_drop_27 K k5 x0 x2 q2 S) ∧ (x2 = 0 → wT_X4_isAdrift q2 S (fun (S6 : kS) (r6 : Int32) => ((r6 = 0 → wT_X1_drop_65 K k5 x0 x2 q2 S6) ∧ (¬ r6 = 0 → wT_X1_drop_27 K k5 x0 x2 q2 S6)))))))))
def lT_X1_drop_5 (K : kS → Prop) (k5 : Nat × Int32 × Option Nat × kS → Prop) (u : Nat × Int32 × Option Nat × kS) : Prop := wT_X1_drop_5 K k5 u.1 u.2.1 u.2.2.1 u.2.2.2
def wT_X1_drop (t0 : Nat) (a0 : Nat) (a1 : Int32) (S : kS) (K : kS → Prop) : Prop := ∀ z1 : Option Nat, z1 = S.2.1 61 a0 → (∃ n9, it (lT_X1_drop_5 K) n9 (t0, a1, z1, S))
theorem ty_X1_drop_65 {d : List (Nat × cK)} {K K' : kS → Prop} {k5 k5' : Nat × Int32 × Option Nat × kS → Prop} (hk : ∀ S1, WT d S1 → K S1 → K' S1) (hk5 : ∀ (x0 : Nat) (x2 : Int32) (x3 : Option Nat), ((x0, Sum.inl 1) ∈ d) → (∀ b, x3 = some b → (b, Sum.inl 4) ∈ d) → ∀ S : kS, WT d S → k5 (x0, x2, x3, S) → k5' (x0, x2, x3, S)) {x0 : Nat} {x2 : Int32} {x3 : Nat} (t_x0 : (x0, Sum.inl 1) ∈ d) (t_x3 : (x3, Sum.inl 4) ∈ d) {S : kS} (hW : WT d S) (h : wT_X1_drop_65 K k5 x0 x2 x3 S) : wp_X1_drop_65 K' k5' x0 x2 x3 S := by
  unfold wT_X1_drop_65 at h
  unfold wp_X1_drop_65
  refine ⟨hasO_of hW t_x3, ?_⟩
  intro z20 e_z20
  replace h := h z20 e_z20
  have t_z20 : ∀ b, z20 = some b → (b, Sum.inl 4) ∈ d := fun b hb => hW.2.1 24 _ b t_x3 (by rw [← e_z20]; exact hb)
  exact hk5 _ _ _ t_x0 t_z20 _ hW h
theorem ty_X1_drop_47 {d : List (Nat × cK)} {K K' : kS → Prop} {k5 k5' : Nat × Int32 × Option Nat × kS → Prop} (hk : ∀ S1, WT d S1 → K S1 → K' S1) (hk5 : ∀ (x0 : Nat) (x2 : Int32) (x3 : Option Nat), ((x0, Sum.inl 1) ∈ d) → (∀ b, x3 = some b → (b, Sum.inl 4) ∈ d) → ∀ S : kS, WT d S → k5 (x0, x2, x3, S) → k5' (x0, x2, x3, S)) {x0 : Nat} {x2 : Int32} {x3 : Nat} (t_x0 : (x0, Sum.inl 1) ∈ d) (t_x3 : (x3, Sum.inl 4) ∈ d) {S : kS} (hW : WT d S) (h : wT_X1_drop_47 K k5 x0 x2 x3 S) : wp_X1_drop_47 K' k5' x0 x2 x3 S := by
  unfold wT_X1_drop_47 at h
  unfold wp_X1_drop_47
  refine ⟨hasO_of hW t_x3, ?_⟩
  intro z14 e_z14
  replace h := h z14 e_z14
  have t_z14 : ∀ b, z14 = some b → (b, Sum.inl 9) ∈ d := fun b hb => hW.2.1 22 _ b t_x3 (by rw [← e_z14]; exact hb)
  refine ⟨fun c => ?_, fun q15 c => ?_⟩
  · replace h := h.1 c
    exact ty_X1_drop_65 hk hk5 t_x0 t_x3 hW h
  · replace h := h.2 q15 c
    have t_q15 := t_z14 q15 c
    refine ⟨hasO_of hW t_x3, ?_⟩
    intro z16 e_z16
    replace h := h z16 e_z16
    have t_z16 : ∀ b, z16 = some b → (b, Sum.inl 9) ∈ d := fun b hb => hW.2.1 22 _ b t_x3 (by rw [← e_z16]; exact hb)
    obtain ⟨q17, e_q17, h9⟩ := h
    replace h := h9
    clear h9
    refine ⟨q17, e_q17, ?_⟩
    have t_q17 := t_z16 q17 e_q17
    refine ⟨hasO_of hW t_q17, ?_⟩
    intro z18 e_z18
    replace h := h z18 e_z18
    refine ⟨hasO_of hW t_x0, ?_⟩
    refine ty_X1_plan t_x0 hW (fun S19 hW h => ?_) h
    exact ty_X1_drop_65 hk hk5 t_x0 t_x3 hW h
theorem ty_X1_drop_27 {d : List (Nat × cK)} {K K' : kS → Prop} {k5 k5' : Nat × Int32 × Option Nat × kS → Prop} (hk : ∀ S1, WT d S1 → K S1 → K' S1) (hk5 : ∀ (x0 : Nat) (x2 : Int32) (x3 : Option Nat), ((x0, Sum.inl 1) ∈ d) → (∀ b, x3 = some b → (b, Sum.inl 4) ∈ d) → ∀ S : kS, WT d S → k5 (x0, x2, x3, S) → k5' (x0, x2, x3, S)) {x0 : Nat} {x2 : Int32} {x3 : Nat} (t_x0 : (x0, Sum.inl 1) ∈ d) (t_x3 : (x3, Sum.inl 4) ∈ d) {S : kS} (hW : WT d S) (h : wT_X1_drop_27 K k5 x0 x2 x3 S) : wp_X1_drop_27 K' k5' x0 x2 x3 S := by
  unfold wT_X1_drop_27 at h
  unfold wp_X1_drop_27
  refine ⟨hasO_of hW t_x3, ?_⟩
  intro S8 e_S8
  replace h := h S8 e_S8
  replace hW := WT_i hW e_S8
  refine ⟨hasO_of hW t_x3, ?_⟩
  intro z9 e_z9
  replace h := h z9 e_z9
  have t_z9 : ∀ b, z9 = some b → (b, Sum.inl 2) ∈ d := fun b hb => hW.2.1 25 _ b t_x3 (by rw [← e_z9]; exact hb)
  refine ⟨fun c => ?_, fun q10 c => ?_⟩
  · replace h := h.1 c
    exact ty_X1_drop_47 hk hk5 t_x0 t_x3 hW h
  · replace h := h.2 q10 c
    have t_q10 := t_z9 q10 c
    refine ⟨hasO_of hW t_x3, ?_⟩
    intro z11 e_z11
    replace h := h z11 e_z11
    have t_z11 : ∀ b, z11 = some b → (b, Sum.inl 2) ∈ d := fun b hb => hW.2.1 25 _ b t_x3 (by rw [← e_z11]; exact hb)
    obtain ⟨q12, e_q12, h9⟩ := h
    replace h := h9
    clear h9
    refine ⟨q12, e_q12, ?_⟩
    have t_q12 := t_z11 q12 e_q12
    refine ⟨hasO_of hW t_q12, ?_⟩
    refine ty_X2_remove t_q12 t_x3 hW (fun S13 hW h => ?_) h
    exact ty_X1_drop_47 hk hk5 t_x0 t_x3 hW h
theorem ty_X1_drop_5 {d : List (Nat × cK)} {K K' : kS → Prop} {k5 k5' : Nat × Int32 × Option Nat × kS → Prop} (hk : ∀ S1, WT d S1 → K S1 → K' S1) (hk5 : ∀ (x0 : Nat) (x2 : Int32) (x3 : Option Nat), ((x0, Sum.inl 1) ∈ d) → (∀ b, x3 = some b → (b, Sum.inl 4) ∈ d) → ∀ S : kS, WT d S → k5 (x0, x2, x3, S) → k5' (x0, x2, x3, S)) {x0 : Nat} {x2 : Int32} {x3 : Option Nat} (t_x0 : (x0, Sum.inl 1) ∈ d) (t_x3 : ∀ b, x3 = some b → (b, Sum.inl 4) ∈ d) {S : kS} (hW : WT d S) (h : wT_X1_drop_5 K k5 x0 x2 x3 S) : wp_X1_drop_5 K' k5' x0 x2 x3 S := by
  unfold wT_X1_drop_5 at h
  unfold wp_X1_drop_5
  refine ⟨fun c => ?_, fun q2 c => ?_⟩
  · replace h := h.1 c
    exact hk _ hW h
  · replace h := h.2 q2 c
    have t_q2 := t_x3 q2 c
    refine ⟨hasO_of hW t_q2, ?_⟩
    intro z3 e_z3
    replace h := h z3 e_z3
    refine ⟨fun c => ?_, fun c => ?_⟩
    · replace h := h.1 c
      exact ty_X1_drop_65 hk hk5 t_x0 t_q2 hW h
    · replace h := h.2 c
      refine ⟨fun c => ?_, fun c => ?_⟩
      · replace h := h.1 c
        exact ty_X1_drop_27 hk hk5 t_x0 t_q2 hW h
      · replace h := h.2 c
        refine ⟨hasO_of hW t_q2, ?_⟩
        refine ty_X4_isAdrift t_q2 hW (fun S6 r6 hW h => ?_) h
        refine ⟨fun c => ?_, fun c => ?_⟩
        · replace h := h.1 c
          exact ty_X1_drop_65 hk hk5 t_x0 t_q2 hW h
        · replace h := h.2 c
          exact ty_X1_drop_27 hk hk5 t_x0 t_q2 hW h
theorem tyl_X1_drop_5 {d : List (Nat × cK)} {K K' : kS → Prop} (hk : ∀ S1, WT d S1 → K S1 → K' S1) : ∀ (n : Nat) (x0 : Nat) (x2 : Int32) (x3 : Option Nat), ((x0, Sum.inl 1) ∈ d) → (∀ b, x3 = some b → (b, Sum.inl 4) ∈ d) → ∀ S : kS, WT d S → it (lT_X1_drop_5 K) n (x0, x2, x3, S) → it (ls_X1_drop_5 K') n (x0, x2, x3, S) := by
  intro n
  induction n with
  | zero => exact fun _ _ _ _ _ _ _ h => h
  | succ n ih => exact fun x0 x2 x3 t_x0 t_x3 S hW h => ty_X1_drop_5 hk ih t_x0 t_x3 hW h
theorem ty_X1_drop {d : List (Nat × cK)} {t0 : Nat} {a0 : Nat} {a1 : Int32} (t_t0 : (t0, Sum.inl 1) ∈ d) (t_a0 : (a0, Sum.inl 9) ∈ d) {S : kS} {K K' : kS → Prop} (hW : WT d S) (hk : ∀ S1, WT d S1 → K S1 → K' S1) (h : wT_X1_drop t0 a0 a1 S K) : wp_X1_drop t0 a0 a1 S K' := by
  unfold wT_X1_drop at h
  unfold wp_X1_drop
  refine ⟨hasO_of hW t_a0, ?_⟩
  intro z1 e_z1
  replace h := h z1 e_z1
  have t_z1 : ∀ b, z1 = some b → (b, Sum.inl 4) ∈ d := fun b hb => hW.2.1 61 _ b t_a0 (by rw [← e_z1]; exact hb)
  obtain ⟨n9, h⟩ := h
  exact ⟨n9, tyl_X1_drop_5 hk n9 _ _ _ t_t0 t_z1 _ hW h⟩
