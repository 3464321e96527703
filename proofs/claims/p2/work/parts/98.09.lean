
def wT_X6_wake (t0 : Nat) (a0 : Nat) (S : kS) (K : kS → Prop) : Prop := ∀ z1 : Int32, z1 = S.1 38 a0 → ∀ z2 : Option Nat, z2 = S.2.1 41 t0 → ∀ q3 : Nat, z2 = some q3 → wT_X1_takeBack q3 a0 S (fun (S4 : kS) => ∀ S5 : kS, S5 = cI S4 38 a0 0 → ∀ S6 : kS, S6 = cI S5 30 a0 4 → ∀ z7 : Int32, z7 = S6.1 34 a0 → ∀ z8 : Int32, z8 = z7 + 1 → ∀ S9 : kS, S9 = cI S6 34 a0 z8 → ∀ z10 : Int32, z10 = S9.1 34 a0 → ((¬ z10 = 1 → ∀ z12 : Option Nat, z12 = S9.2.1 41 t0 → ∀ q13 : Nat, z12 = some q13 → ∀ z14 : Option Nat, z14 = S9.2.1 2 q13 → ∀ z15 : Int32, z15 = S9.1 36 a0 → ∃ q16 : Nat, z14 = some q16 ∧ wT_X5_scopeAt q16 z15 S9 (fun (S17 : kS) (r17 : Int32) => ((¬ z1 = 1 → ((¬ z1 = 2 → wT_X6_leave t0 a0 5 0 r17 S17 (fun (S20 : kS) => K S20)) ∧ (z1 = 2 → ∀ z21 : Int32, z21 = S17.1 39 a0 → wT_X6_leave t0 a0 4 z21 r17 S17 (fun (S22 : kS) => K S22)))) ∧ (z1 = 1 → ∀ z23 : Int32, z23 = S17.1 39 a0 → wT_X6_push t0 z23 S17 (fun (S24 : kS) => ∀ z25 : Int32, z25 = S24.1 36 a0 → ∀ z26 : Int32, z26 = z25 + 1 → ∀ S27 : kS, S27 = cI S24 36 a0 z26 → K S27))))) ∧ (z10 = 1 → K S9)))
theorem ty_X6_wake {d : List (Nat × cK)} {t0 : Nat} {a0 : Nat} (t_t0 : (t0, Sum.inl 6) ∈ d) (t_a0 : (a0, Sum.inl 9) ∈ d) {S : kS} {K K' : kS → Prop} (hW : WT d S) (hk : ∀ S1, WT d S1 → K S1 → K' S1) (h : wT_X6_wake t0 a0 S K) : wp_X6_wake t0 a0 S K' := by
  unfold wT_X6_wake at h
  unfold wp_X6_wake
  refine ⟨hasO_of hW t_a0, ?_⟩
  intro z1 e_z1
  replace h := h z1 e_z1
  refine ⟨hasO_of hW t_t0, ?_⟩
  intro z2 e_z2
  replace h := h z2 e_z2
  have t_z2 : ∀ b, z2 = some b → (b, Sum.inl 1) ∈ d := fun b hb => hW.2.1 41 _ b t_t0 (by rw [← e_z2]; exact hb)
  have n_z2 := wt_nn (f := 41) hW (by decide) t_t0 e_z2
  obtain ⟨q3, e_q3⟩ := n_z2
  refine ⟨q3, e_q3, ?_⟩
  replace h := h q3 e_q3
  have t_q3 := t_z2 q3 e_q3
  refine ⟨hasO_of hW t_q3, ?_⟩
  refine ty_X1_takeBack t_q3 t_a0 hW (fun S4 hW h => ?_) h
  refine ⟨hasO_of hW t_a0, ?_⟩
  intro S5 e_S5
  replace h := h S5 e_S5
  replace hW := WT_i hW e_S5
  refine ⟨hasO_of hW t_a0, ?_⟩
  intro S6 e_S6
  replace h := h S6 e_S6
  replace hW := WT_i hW e_S6
  refine ⟨hasO_of hW t_a0, ?_⟩
  intro z7 e_z7
  replace h := h z7 e_z7
  intro z8 e_z8
  replace h := h z8 e_z8
  refine ⟨hasO_of hW t_a0, ?_⟩
  intro S9 e_S9
  replace h := h S9 e_S9
  replace hW := WT_i hW e_S9
  refine ⟨hasO_of hW t_a0, ?_⟩
  intro z10 e_z10
  replace h := h z10 e_z10
  refine ⟨fun c => ?_, fun c => ?_⟩
  · replace h := h.1 c
    refine ⟨hasO_of hW t_t0, ?_⟩
    intro z12 e_z12
    replace h := h z12 e_z12
    have t_z12 : ∀ b, z12 = some b → (b, Sum.inl 1) ∈ d := fun b hb => hW.2.1 41 _ b t_t0 (by rw [← e_z12]; exact hb)
    have n_z12 := wt_nn (f := 41) hW (by decide) t_t0 e_z12
    obtain ⟨q13, e_q13⟩ := n_z12
    refine ⟨q13, e_q13, ?_⟩
    replace h := h q13 e_q13
    have t_q13 := t_z12 q13 e_q13
    refine ⟨hasO_of hW t_q13, ?_⟩
    intro z14 e_z14
    replace h := h z14 e_z14
    have t_z14 : ∀ b, z14 = some b → (b, Sum.inl 5) ∈ d := fun b hb => hW.2.1 2 _ b t_q13 (by rw [← e_z14]; exact hb)
    refine ⟨hasO_of hW t_a0, ?_⟩
    intro z15 e_z15
    replace h := h z15 e_z15
    obtain ⟨q16, e_q16, h9⟩ := h
    replace h := h9
    clear h9
    refine ⟨q16, e_q16, ?_⟩
    have t_q16 := t_z14 q16 e_q16
    refine ⟨hasO_of hW t_q16, ?_⟩
    refine ty_X5_scopeAt t_q16 hW (fun S17 r17 hW h => ?_) h
    refine ⟨fun c => ?_, fun c => ?_⟩
    · replace h := h.1 c
      refine ⟨fun c => ?_, fun c => ?_⟩
      · replace h := h.1 c
        refine ⟨hasO_of hW t_t0, ?_⟩
        refine ty_X6_leave t_t0 t_a0 hW (fun S20 hW h => ?_) h
        exact hk _ hW h
      · replace h := h.2 c
        refine ⟨hasO_of hW t_a0, ?_⟩
        intro z21 e_z21
        replace h := h z21 e_z21
        refine ⟨hasO_of hW t_t0, ?_⟩
        refine ty_X6_leave t_t0 t_a0 hW (fun S22 hW h => ?_) h
        exact hk _ hW h
    · replace h := h.2 c
      refine ⟨hasO_of hW t_a0, ?_⟩
      intro z23 e_z23
      replace h := h z23 e_z23
      refine ⟨hasO_of hW t_t0, ?_⟩
      refine ty_X6_push t_t0 hW (fun S24 hW h => ?_) h
      refine ⟨hasO_of hW t_a0, ?_⟩
      intro z25 e_z25
      replace h := h z25 e_z25
      intro z26 e_z26
      replace h := h z26 e_z26
      refine ⟨hasO_of hW t_a0, ?_⟩
      intro S27 e_S27
      replace h := h S27 e_S27
      replace hW := WT_i hW e_S27
      exact hk _ hW h
  · replace h := h.2 c
    exact hk _ hW h
def wT_X9_tell (t0 : Nat) (a0 : Int32) (S : kS) (K : kS → Int32 → Prop) : Prop := ((a0 = 0 → ∀ z2 : Int32, z2 = S.1 30 t0 → K S z2) ∧ (¬ a0 = 0 → ((a0 = 1 → ∀ z4 : Int32, z4 = S.1 31 t0 → K S z4) ∧ (¬ a0 = 1 → ((a0 = 2 → ∀ z6 : Int32, z6 = S.1 32 t0 → K S z6) ∧ (¬ a0 = 2 → ((a0 = 3 → ∀ z8 : Option Nat, z8 = S.2.1 56 t0 → ((z8 = none → K S (-1)) ∧ (∀ q9 : Nat, z8 = some q9 → ∀ z10 : Option Nat, z10 = S.2.1 56 t0 → ∃ q11 : Nat, z10 = some q11 ∧ ∀ z12 : Int32, z12 = S.1 28 q11 → K S z12))) ∧ (¬ a0 = 3 → ((a0 = 4 → ∀ z14 : Int32, z14 = S.1 29 t0 → K S z14) ∧ (¬ a0 = 4 → ((a0 = 5 → ∀ z16 : Int32, z16 = S.1 33 t0 → K S z16) ∧ (¬ a0 = 5 → ((a0 = 6 → ∀ z18 : Int32, z18 = S.1 34 t0 → K S z18) ∧ (¬ a0 = 6 → ∀ z19 : Int32, z19 = S.1 35 t0 → ((z19 = 0 → K S 0) ∧ (¬ z19 = 0 → K S 1))))))))))))))))
theorem ty_X9_tell {d : List (Nat × cK)} {t0 : Nat} {a0 : Int32} (t_t0 : (t0, Sum.inl 9) ∈ d) {S : kS} {K K' : kS → Int32 → Prop} (hW : WT d S) (hk : ∀ S1 r1, WT d S1 → K S1 r1 → K' S1 r1) (h : wT_X9_tell t0 a0 S K) : wp_X9_tell t0 a0 S K' := by
  unfold wT_X9_tell at h
  unfold wp_X9_tell
  refine ⟨fun c => ?_, fun c => ?_⟩
  · replace h := h.1 c
    refine ⟨hasO_of hW t_t0, ?_⟩
    intro z2 e_z2
    replace h := h z2 e_z2
    exact hk _ _ hW h
  · replace h := h.2 c
    refine ⟨fun c => ?_, fun c => ?_⟩
    · replace h := h.1 c
      refine ⟨hasO_of hW t_t0, ?_⟩
      intro z4 e_z4
      replace h := h z4 e_z4
      exact hk _ _ hW h
    · replace h := h.2 c
      refine ⟨fun c => ?_, fun c => ?_⟩
      · replace h := h.1 c
        refine ⟨hasO_of hW t_t0, ?_⟩
        intro z6 e_z6
        replace h := h z6 e_z6
        exact hk _ _ hW h
      · replace h := h.2 c
        refine ⟨fun c => ?_, fun c => ?_⟩
        · replace h := h.1 c
          refine ⟨hasO_of hW t_t0, ?_⟩
          intro z8 e_z8
          replace h := h z8 e_z8
          have t_z8 : ∀ b, z8 = some b → (b, Sum.inl 9) ∈ d := fun b hb => hW.2.1 56 _ b t_t0 (by rw [← e_z8]; exact hb)
          refine ⟨fun c => ?_, fun q9 c => ?_⟩
          · replace h := h.1 c
            exact hk _ _ hW h
          · replace h := h.2 q9 c
            have t_q9 := t_z8 q9 c
            refine ⟨hasO_of hW t_t0, ?_⟩
            intro z10 e_z10
            replace h := h z10 e_z10
            have t_z10 : ∀ b, z10 = some b → (b, Sum.inl 9) ∈ d := fun b hb => hW.2.1 56 _ b t_t0 (by rw [← e_z10]; exact hb)
            obtain ⟨q11, e_q11, h9⟩ := h
            replace h := h9
            clear h9
            refine ⟨q11, e_q11, ?_⟩
            have t_q11 := t_z10 q11 e_q11
            refine ⟨hasO_of hW t_q11, ?_⟩
            intro z12 e_z12
            replace h := h z12 e_z12
            exact hk _ _ hW h
        · replace h := h.2 c
          refine ⟨fun c => ?_, fun c => ?_⟩
          · replace h := h.1 c
            refine ⟨hasO_of hW t_t0, ?_⟩
            intro z14 e_z14
            replace h := h z14 e_z14
            exact hk _ _ hW h
          · replace h := h.2 c
            refine ⟨fun c => ?_, fun c => ?_⟩
            · replace h := h.1 c
              refine ⟨hasO_of hW t_t0, ?_⟩
              intro z16 e_z16
              replace h := h z16 e_z16
              exact hk _ _ hW h
            · replace h := h.2 c
              refine ⟨fun c => ?_, fun c => ?_⟩
              · replace h := h.1 c
                refine ⟨hasO_of hW t_t0, ?_⟩
                intro z18 e_z18
                replace h := h z18 e_z18
                exact hk _ _ hW h
              · replace h := h.2 c
                refine ⟨hasO_of hW t_t0, ?_⟩
                intro z19 e_z19
                replace h := h z19 e_z19
                refine ⟨fun c => ?_, fun c => ?_⟩
                · replace h := h.1 c
                  exact hk _ _ hW h
                · replace h := h.2 c
                  exact hk _ _ hW h
def wT_X10_read_104 (K : kS → Prop) (x0 : Nat) (S : kS) : Prop := ∀ z21 : Int32, z21 = S.1 41 x0 → wT_X10_keep x0 0 z21 0 S (fun (S22 : kS) => ∀ S23 : kS, S23 = cI S22 41 x0 0 → K S23)
def wT_X10_read_98 (K : kS → Prop) (k9 : Nat × Int32 × Int32 × kS → Prop) (x0 : Nat) (x1 : Int32) (x2 : Int32) (S : kS) : Prop := ∀ z18 : Int32, z18 = x2 + 1 → k9 (x0, x1, z18, S)
def wT_X10_read_95 (K : kS → Prop) (k9 : Nat × Int32 × Int32 × kS → Prop) (x0 : Nat) (x1 : Int32) (x2 : Int32) (S : kS) : Prop := ∀ z20 : Int32, z20 = x1 + 1 → wT_X10_read_98 K k9 x0 z20 x2 S
def wT_X10_read_90 (K : kS → Prop) (k9 : Nat × Int32 × Int32 × kS → Prop) (x0 : Nat) (x1 : Int32) (x2 : Int32) (y0 : Nat) (y1 : Int32) (S : kS) : Prop := wT_X10_keep y0 y1 x1 0 S (fun (S19 : kS) => wT_X10_read_95 K k9 x0 x1 x2 S19)
def wT_X10_read_9 (K : kS → Prop) (k9 : Nat × Int32 × Int32 × kS → Prop) (x0 : Nat) (x1 : Int32) (x2 : Int32) (S : kS) : Prop := ((4000 ≤ x2 → wT_X10_read_104 K x0 S) ∧ (¬ 4000 ≤ x2 → ∀ z3 : Int32, z3 = S.1 41 x0 → ((z3 ≤ x1 → wT_X10_read_104 K x0 S) ∧ (¬ z3 ≤ x1 → ∀ z5 : Option Nat, z5 = S.2.1 67 x0 → ∀ q6 : Nat, z5 = some q6 → inR x1 4000 ∧ ∀ z7 : Int32, z7 = S.2.2.1 q6 (ix x1) → wT_X10_isLetter z7 S (fun (S8 : kS) (r8 : Int32) => ((r8 = 0 → wT_X10_isDigit z7 S8 (fun (S10 : kS) (r10 : Int32) => ((r10 = 0 → ((z7 = 32 → wT_X10_read_95 K k9 x0 x1 x2 S10) ∧ (¬ z7 = 32 → ((z7 = 10 → wT_X10_read_95 K k9 x0 x1 x2 S10) ∧ (¬ z7 = 10 → ∀ r14 : Int32, ((0 ≤ r14 → wT_X10_read_90 K k9 x0 x1 x2 x0 z7 S10) ∧ (¬ 0 ≤ r14 → wT_X10_read_90 K k9 x0 x1 x2 x0 1 S10))))))) ∧ (¬ r10 = 0 → wT_X10_readNumber x0 x1 S10 (fun (S16 : kS) (r16 : Int32) => wT_X10_read_98 K k9 x0 r16 x2 S16))))) ∧ (¬ r8 = 0 → wT_X10_readWord x0 x1 S8 (fun (S17 : kS) (r17 : Int32) => wT_X10_read_98 K k9 x0 r17 x2 S17))))))))
def lT_X10_read_9 (K : kS → Prop) (k9 : Nat × Int32 × Int32 × kS → Prop) (u : Nat × Int32 × Int32 × kS) : Prop := wT_X10_read_9 K k9 u.1 u.2.1 u.2.2.1 u.2.2.2
def wT_X10_read (t0 : Nat) (S : kS) (K : kS → Prop) : Prop := ∀ S1 : kS, S1 = cI S 40 t0 0 → (∃ n9, it (lT_X10_read_9 K) n9 (t0, 0, 0, S1))
theorem ty_X10_read_104 {d : List (Nat × cK)} {K K' : kS → Prop} (hk : ∀ S1, WT d S1 → K S1 → K' S1) {x0 : Nat} (t_x0 : (x0, Sum.inl 10) ∈ d) {S : kS} (hW : WT d S) (h : wT_X10_read_104 K x0 S) : wp_X10_read_104 K' x0 S := by
  unfold wT_X10_read_104 at h
  unfold wp_X10_read_104
  refine ⟨hasO_of hW t_x0, ?_⟩
  intro z21 e_z21
  replace h := h z21 e_z21
  refine ⟨hasO_of hW t_x0, ?_⟩
  refine ty_X10_keep t_x0 hW (fun S22 hW h => ?_) h
  refine ⟨hasO_of hW t_x0, ?_⟩
  intro S23 e_S23
  replace h := h S23 e_S23
  replace hW := WT_i hW e_S23
  exact hk _ hW h
theorem ty_X10_read_98 {d : List (Nat × cK)} {K K' : kS → Prop} {k9 k9' : Nat × Int32 × Int32 × kS → Prop} (hk : ∀ S1, WT d S1 → K S1 → K' S1) (hk9 : ∀ (x0 : Nat) (x1 : Int32) (x2 : Int32), ((x0, Sum.inl 10) ∈ d) → ∀ S : kS, WT d S → k9 (x0, x1, x2, S) → k9' (x0, x1, x2, S)) {x0 : Nat} {x1 : Int32} {x2 : Int32} (t_x0 : (x0, Sum.inl 10) ∈ d) {S : kS} (hW : WT d S) (h : wT_X10_read_98 K k9 x0 x1 x2 S) : wp_X10_read_98 K' k9' x0 x1 x2 S := by
  unfold wT_X10_read_98 at h
  unfold wp_X10_read_98
  intro z18 e_z18
  replace h := h z18 e_z18
  exact hk9 _ _ _ t_x0 _ hW h
theorem ty_X10_read_95 {d : List (Nat × cK)} {K K' : kS → Prop} {k9 k9' : Nat × Int32 × Int32 × kS → Prop} (hk : ∀ S1, WT d S1 → K S1 → K' S1) (hk9 : ∀ (x0 : Nat) (x1 : Int32) (x2 : Int32), ((x0, Sum.inl 10) ∈ d) → ∀ S : kS, WT d S → k9 (x0, x1, x2, S) → k9' (x0, x1, x2, S)) {x0 : Nat} {x1 : Int32} {x2 : Int32} (t_x0 : (x0, Sum.inl 10) ∈ d) {S : kS} (hW : WT d S) (h : wT_X10_read_95 K k9 x0 x1 x2 S) : wp_X10_read_95 K' k9' x0 x1 x2 S := by
  unfold wT_X10_read_95 at h
  unfold wp_X10_read_95
  intro z20 e_z20
  replace h := h z20 e_z20
  exact ty_X10_read_98 hk hk9 t_x0 hW h
theorem ty_X10_read_90 {d : List (Nat × cK)} {K K' : kS → Prop} {k9 k9' : Nat × Int32 × Int32 × kS → Prop} (hk : ∀ S1, WT d S1 → K S1 → K' S1) (hk9 : ∀ (x0 : Nat) (x1 : Int32) (x2 : Int32), ((x0, Sum.inl 10) ∈ d) → ∀ S : kS, WT d S → k9 (x0, x1, x2, S) → k9' (x0, x1, x2, S)) {x0 : Nat} {x1 : Int32} {x2 : Int32} {y0 : Nat} {y1 : Int32} (t_x0 : (x0, Sum.inl 10) ∈ d) (t_y0 : (y0, Sum.inl 10) ∈ d) {S : kS} (hW : WT d S) (h : wT_X10_read_90 K k9 x0 x1 x2 y0 y1 S) : wp_X10_read_90 K' k9' x0 x1 x2 y0 y1 S := by
  unfold wT_X10_read_90 at h
  unfold wp_X10_read_90
  refine ⟨hasO_of hW t_y0, ?_⟩
  refine ty_X10_keep t_y0 hW (fun S19 hW h => ?_) h
  exact ty_X10_read_95 hk hk9 t_x0 hW h
theorem ty_X10_read_9 {d : List (Nat × cK)} {K K' : kS → Prop} {k9 k9' : Nat × Int32 × Int32 × kS → Prop} (hk : ∀ S1, WT d S1 → K S1 → K' S1) (hk9 : ∀ (x0 : Nat) (x1 : Int32) (x2 : Int32), ((x0, Sum.inl 10) ∈ d) → ∀ S : kS, WT d S → k9 (x0, x1, x2, S) → k9' (x0, x1, x2, S)) {x0 : Nat} {x1 : Int32} {x2 : Int32} (t_x0 : (x0, Sum.inl 10) ∈ d) {S : kS} (hW : WT d S) (h : wT_X10_read_9 K k9 x0 x1 x2 S) : wp_X10_read_9 K' k9' x0 x1 x2 S := by
  unfold wT_X10_read_9 at h
  unfold wp_X10_read_9
  refine ⟨fun c => ?_, fun c => ?_⟩
  · replace h := h.1 c
    exact ty_X10_read_104 hk t_x0 hW h
  · replace h := h.2 c
    refine ⟨hasO_of hW t_x0, ?_⟩
    intro z3 e_z3
    replace h := h z3 e_z3
    refine ⟨fun c => ?_, fun c => ?_⟩
    · replace h := h.1 c
      exact ty_X10_read_104 hk t_x0 hW h
    · replace h := h.2 c
      refine ⟨hasO_of hW t_x0, ?_⟩
      intro z5 e_z5
      replace h := h z5 e_z5
      have t_z5 : ∀ b, z5 = some b → (b, Sum.inr (4000, 3)) ∈ d := fun b hb => hW.2.1 67 _ b t_x0 (by rw [← e_z5]; exact hb)
      have n_z5 := wt_nn (f := 67) hW (by decide) t_x0 e_z5
      obtain ⟨q6, e_q6⟩ := n_z5
      refine ⟨q6, e_q6, ?_⟩
      replace h := h q6 e_q6
      have t_q6 := t_z5 q6 e_q6
      refine ⟨hasA_of hW t_q6, ?_⟩
      have hin := h.1
      refine ⟨h.1, ?_⟩
      replace h := h.2
      intro z7 e_z7
      replace h := h z7 e_z7
      refine ty_X10_isLetter  hW (fun S8 r8 hW h => ?_) h
      refine ⟨fun c => ?_, fun c => ?_⟩
      · replace h := h.1 c
        refine ty_X10_isDigit  hW (fun S10 r10 hW h => ?_) h
        refine ⟨fun c => ?_, fun c => ?_⟩
        · replace h := h.1 c
          refine ⟨fun c => ?_, fun c => ?_⟩
          · replace h := h.1 c
            exact ty_X10_read_95 hk hk9 t_x0 hW h
          · replace h := h.2 c
            refine ⟨fun c => ?_, fun c => ?_⟩
            · replace h := h.1 c
              exact ty_X10_read_95 hk hk9 t_x0 hW h
            · replace h := h.2 c
              intro r14
              replace h := h r14
              refine ⟨fun c => ?_, fun c => ?_⟩
              · replace h := h.1 c
                exact ty_X10_read_90 hk hk9 t_x0 t_x0 hW h
              · replace h := h.2 c
                exact ty_X10_read_90 hk hk9 t_x0 t_x0 hW h
        · replace h := h.2 c
          refine ⟨hasO_of hW t_x0, ?_⟩
          refine ty_X10_readNumber t_x0 hW (fun S16 r16 hW h => ?_) h
          exact ty_X10_read_98 hk hk9 t_x0 hW h
      · replace h := h.2 c
        refine ⟨hasO_of hW t_x0, ?_⟩
        refine ty_X10_readWord t_x0 hW (fun S17 r17 hW h => ?_) h
        exact ty_X10_read_98 hk hk9 t_x0 hW h
theorem tyl_X10_read_9 {d : List (Nat × cK)} {K K' : kS → Prop} (hk : ∀ S1, WT d S1 → K S1 → K' S1) : ∀ (n : Nat) (x0 : Nat) (x1 : Int32) (x2 : Int32), ((x0, Sum.inl 10) ∈ d) → ∀ S : kS, WT d S → it (lT_X10_read_9 K) n (x0, x1, x2, S) → it (ls_X10_read_9 K') n (x0, x1, x2, S) := by
  intro n
  induction n with
  | zero => exact fun _ _ _ _ _ _ h => h
  | succ n ih => exact fun x0 x1 x2 t_x0 S hW h => ty_X10_read_9 hk ih t_x0 hW h
theorem ty_X10_read {d : List (Nat × cK)} {t0 : Nat} (t_t0 : (t0, Sum.inl 10) ∈ d) {S : kS} {K K' : kS → Prop} (hW : WT d S) (hk : ∀ S1, WT d S1 → K S1 → K' S1) (h : wT_X10_read t0 S K) : wp_X10_read t0 S K' := by
  unfold wT_X10_read at h
  unfold wp_X10_read
  refine ⟨hasO_of hW t_t0, ?_⟩
  intro S1 e_S1
  replace h := h S1 e_S1
  replace hW := WT_i hW e_S1
  obtain ⟨n9, h⟩ := h
  exact ⟨n9, tyl_X10_read_9 hk n9 _ _ _ t_t0 _ hW h⟩
def wT_X11_named (t0 : Nat) (a0 : Int32) (S : kS) (K : kS → Int32 → Prop) : Prop := ∀ z1 : Option Nat, z1 = S.2.1 69 t0 → ∀ q2 : Nat, z1 = some q2 → wT_X10_read q2 S (fun (S3 : kS) => ∀ z4 : Option Nat, z4 = S3.2.1 69 t0 → ∀ q5 : Nat, z4 = some q5 → wT_X10_onlyWord q5 S3 (fun (S6 : kS) (r6 : Int64) => ∀ z7 : Int32, z7 = lg_cmp r6 0 → ((¬ z7 = 0 → ((¬ a0 = (-1) → ∀ z10 : Option Nat, z10 = S6.2.1 74 t0 → ∃ q11 : Nat, z10 = some q11 ∧ wT_X5_cellNamed q11 a0 r6 S6 (fun (S12 : kS) (r12 : Int32) => K S12 r12)) ∧ (a0 = (-1) → ∀ z13 : Option Nat, z13 = S6.2.1 74 t0 → ∃ q14 : Nat, z13 = some q14 ∧ wT_X5_routineNamed q14 r6 S6 (fun (S15 : kS) (r15 : Int32) => K S15 r15)))) ∧ (z7 = 0 → K S6 (-1)))))
theorem ty_X11_named {d : List (Nat × cK)} {t0 : Nat} {a0 : Int32} (t_t0 : (t0, Sum.inl 11) ∈ d) {S : kS} {K K' : kS → Int32 → Prop} (hW : WT d S) (hk : ∀ S1 r1, WT d S1 → K S1 r1 → K' S1 r1) (h : wT_X11_named t0 a0 S K) : wp_X11_named t0 a0 S K' := by
  unfold wT_X11_named at h
  unfold wp_X11_named
  refine ⟨hasO_of hW t_t0, ?_⟩
  intro z1 e_z1
  replace h := h z1 e_z1
  have t_z1 : ∀ b, z1 = some b → (b, Sum.inl 10) ∈ d := fun b hb => hW.2.1 69 _ b t_t0 (by rw [← e_z1]; exact hb)
  have n_z1 := wt_nn (f := 69) hW (by decide) t_t0 e_z1
  obtain ⟨q2, e_q2⟩ := n_z1
  refine ⟨q2, e_q2, ?_⟩
  replace h := h q2 e_q2
  have t_q2 := t_z1 q2 e_q2
  refine ⟨hasO_of hW t_q2, ?_⟩
  refine ty_X10_read t_q2 hW (fun S3 hW h => ?_) h
  refine ⟨hasO_of hW t_t0, ?_⟩
  intro z4 e_z4
  replace h := h z4 e_z4
  have t_z4 : ∀ b, z4 = some b → (b, Sum.inl 10) ∈ d := fun b hb => hW.2.1 69 _ b t_t0 (by rw [← e_z4]; exact hb)
  have n_z4 := wt_nn (f := 69) hW (by decide) t_t0 e_z4
  obtain ⟨q5, e_q5⟩ := n_z4
  refine ⟨q5, e_q5, ?_⟩
  replace h := h q5 e_q5
  have t_q5 := t_z4 q5 e_q5
  refine ⟨hasO_of hW t_q5, ?_⟩
  refine ty_X10_onlyWord t_q5 hW (fun S6 r6 hW h => ?_) h
  intro z7 e_z7
  replace h := h z7 e_z7
  refine ⟨fun c => ?_, fun c => ?_⟩
  · replace h := h.1 c
    refine ⟨fun c => ?_, fun c => ?_⟩
    · replace h := h.1 c
      refine ⟨hasO_of hW t_t0, ?_⟩
      intro z10 e_z10
      replace h := h z10 e_z10
      have t_z10 : ∀ b, z10 = some b → (b, Sum.inl 5) ∈ d := fun b hb => hW.2.1 74 _ b t_t0 (by rw [← e_z10]; exact hb)
      obtain ⟨q11, e_q11, h9⟩ := h
      replace h := h9
      clear h9
      refine ⟨q11, e_q11, ?_⟩
      have t_q11 := t_z10 q11 e_q11
      refine ⟨hasO_of hW t_q11, ?_⟩
      refine ty_X5_cellNamed t_q11 hW (fun S12 r12 hW h => ?_) h
      exact hk _ _ hW h
    · replace h := h.2 c
      refine ⟨hasO_of hW t_t0, ?_⟩
      intro z13 e_z13
      replace h := h z13 e_z13
      have t_z13 : ∀ b, z13 = some b → (b, Sum.inl 5) ∈ d := fun b hb => hW.2.1 74 _ b t_t0 (by rw [← e_z13]; exact hb)
      obtain ⟨q14, e_q14, h9⟩ := h
      replace h := h9
      clear h9
      refine ⟨q14, e_q14, ?_⟩
      have t_q14 := t_z13 q14 e_q14
      refine ⟨hasO_of hW t_q14, ?_⟩
      refine ty_X5_routineNamed t_q14 hW (fun S15 r15 hW h => ?_) h
      exact hk _ _ hW h
  · replace h := h.2 c
    exact hk _ _ hW h
def wT_X11_program (t0 : Nat) (S : kS) (K : kS → Int32 → Prop) : Prop := ∀ z1 : Option Nat, z1 = S.2.1 69 t0 → ∀ q2 : Nat, z1 = some q2 → wT_X10_read q2 S (fun (S3 : kS) => ∀ z4 : Option Nat, z4 = S3.2.1 70 t0 → ∀ z5 : Option Nat, z5 = S3.2.1 75 t0 → ∀ q6 : Nat, z4 = some q6 → ∃ q7 : Nat, z5 = some q7 ∧ wT_X3_read q6 q7 S3 (fun (S8 : kS) (r8 : Int32) => ((¬ r8 = 0 → K S8 r8) ∧ (r8 = 0 → ∀ z10 : Option Nat, z10 = S8.2.1 74 t0 → ∀ z11 : Option Nat, z11 = S8.2.1 75 t0 → ∀ S12 : kS, S12 = cR S8 74 t0 z11 → ∀ S13 : kS, S13 = cR S12 75 t0 z10 → ∀ z14 : Option Nat, z14 = S13.2.1 72 t0 → ∀ z15 : Option Nat, z15 = S13.2.1 74 t0 → ∀ q16 : Nat, z14 = some q16 → ∃ q17 : Nat, z15 = some q17 ∧ wT_X1_open q16 q17 S13 (fun (S18 : kS) => ∀ z19 : Option Nat, z19 = S18.2.1 73 t0 → ∀ q20 : Nat, z19 = some q20 → ∀ z21 : Option Nat, z21 = S18.2.1 40 q20 → ∀ q22 : Nat, z21 = some q22 → wT_X0_clear q22 S18 (fun (S23 : kS) => K S23 r8))))))
theorem ty_X11_program {d : List (Nat × cK)} {t0 : Nat} (t_t0 : (t0, Sum.inl 11) ∈ d) {S : kS} {K K' : kS → Int32 → Prop} (hW : WT d S) (hk : ∀ S1 r1, WT d S1 → K S1 r1 → K' S1 r1) (h : wT_X11_program t0 S K) : wp_X11_program t0 S K' := by
  unfold wT_X11_program at h
  unfold wp_X11_program
  refine ⟨hasO_of hW t_t0, ?_⟩
  intro z1 e_z1
  replace h := h z1 e_z1
  have t_z1 : ∀ b, z1 = some b → (b, Sum.inl 10) ∈ d := fun b hb => hW.2.1 69 _ b t_t0 (by rw [← e_z1]; exact hb)
  have n_z1 := wt_nn (f := 69) hW (by decide) t_t0 e_z1
  obtain ⟨q2, e_q2⟩ := n_z1
  refine ⟨q2, e_q2, ?_⟩
  replace h := h q2 e_q2
  have t_q2 := t_z1 q2 e_q2
  refine ⟨hasO_of hW t_q2, ?_⟩
  refine ty_X10_read t_q2 hW (fun S3 hW h => ?_) h
  refine ⟨hasO_of hW t_t0, ?_⟩
  intro z4 e_z4
  replace h := h z4 e_z4
  have t_z4 : ∀ b, z4 = some b → (b, Sum.inl 3) ∈ d := fun b hb => hW.2.1 70 _ b t_t0 (by rw [← e_z4]; exact hb)
  have n_z4 := wt_nn (f := 70) hW (by decide) t_t0 e_z4
  refine ⟨hasO_of hW t_t0, ?_⟩
  intro z5 e_z5
  replace h := h z5 e_z5
  have t_z5 : ∀ b, z5 = some b → (b, Sum.inl 5) ∈ d := fun b hb => hW.2.1 75 _ b t_t0 (by rw [← e_z5]; exact hb)
  obtain ⟨q6, e_q6⟩ := n_z4
  refine ⟨q6, e_q6, ?_⟩
  replace h := h q6 e_q6
  have t_q6 := t_z4 q6 e_q6
  obtain ⟨q7, e_q7, h9⟩ := h
  replace h := h9
  clear h9
  refine ⟨q7, e_q7, ?_⟩
  have t_q7 := t_z5 q7 e_q7
  refine ⟨hasO_of hW t_q6, ?_⟩
  refine ty_X3_read t_q6 t_q7 hW (fun S8 r8 hW h => ?_) h
  refine ⟨fun c => ?_, fun c => ?_⟩
  · replace h := h.1 c
    exact hk _ _ hW h
  · replace h := h.2 c
    refine ⟨hasO_of hW t_t0, ?_⟩
    intro z10 e_z10
    replace h := h z10 e_z10
    have t_z10 : ∀ b, z10 = some b → (b, Sum.inl 5) ∈ d := fun b hb => hW.2.1 74 _ b t_t0 (by rw [← e_z10]; exact hb)
    refine ⟨hasO_of hW t_t0, ?_⟩
    intro z11 e_z11
    replace h := h z11 e_z11
    have t_z11 : ∀ b, z11 = some b → (b, Sum.inl 5) ∈ d := fun b hb => hW.2.1 75 _ b t_t0 (by rw [← e_z11]; exact hb)
    refine ⟨hasO_of hW t_t0, ?_⟩
    intro S12 e_S12
    replace h := h S12 e_S12
    replace hW := WT_r hW e_S12 t_z11 (by decide)
    refine ⟨hasO_of hW t_t0, ?_⟩
    intro S13 e_S13
    replace h := h S13 e_S13
    replace hW := WT_r hW e_S13 t_z10 (by decide)
    refine ⟨hasO_of hW t_t0, ?_⟩
    intro z14 e_z14
    replace h := h z14 e_z14
    have t_z14 : ∀ b, z14 = some b → (b, Sum.inl 1) ∈ d := fun b hb => hW.2.1 72 _ b t_t0 (by rw [← e_z14]; exact hb)
    have n_z14 := wt_nn (f := 72) hW (by decide) t_t0 e_z14
    refine ⟨hasO_of hW t_t0, ?_⟩
    intro z15 e_z15
    replace h := h z15 e_z15
    have t_z15 : ∀ b, z15 = some b → (b, Sum.inl 5) ∈ d := fun b hb => hW.2.1 74 _ b t_t0 (by rw [← e_z15]; exact hb)
    obtain ⟨q16, e_q16⟩ := n_z14
    refine ⟨q16, e_q16, ?_⟩
    replace h := h q16 e_q16
    have t_q16 := t_z14 q16 e_q16
    obtain ⟨q17, e_q17, h9⟩ := h
    replace h := h9
    clear h9
    refine ⟨q17, e_q17, ?_⟩
    have t_q17 := t_z15 q17 e_q17
    refine ⟨hasO_of hW t_q16, ?_⟩
    refine ty_X1_open t_q16 t_q17 hW (fun S18 hW h => ?_) h
    refine ⟨hasO_of hW t_t0, ?_⟩
    intro z19 e_z19
    replace h := h z19 e_z19
    have t_z19 : ∀ b, z19 = some b → (b, Sum.inl 6) ∈ d := fun b hb => hW.2.1 73 _ b t_t0 (by rw [← e_z19]; exact hb)
    have n_z19 := wt_nn (f := 73) hW (by decide) t_t0 e_z19
    obtain ⟨q20, e_q20⟩ := n_z19
    refine ⟨q20, e_q20, ?_⟩
    replace h := h q20 e_q20
    have t_q20 := t_z19 q20 e_q20
    refine ⟨hasO_of hW t_q20, ?_⟩
    intro z21 e_z21
    replace h := h z21 e_z21
    have t_z21 : ∀ b, z21 = some b → (b, Sum.inl 0) ∈ d := fun b hb => hW.2.1 40 _ b t_q20 (by rw [← e_z21]; exact hb)
    have n_z21 := wt_nn (f := 40) hW (by decide) t_q20 e_z21
    obtain ⟨q22, e_q22⟩ := n_z21
    refine ⟨q22, e_q22, ?_⟩
    replace h := h q22 e_q22
    have t_q22 := t_z21 q22 e_q22
    refine ⟨hasO_of hW t_q22, ?_⟩
    refine ty_X0_clear t_q22 hW (fun S23 hW h => ?_) h
    exact hk _ _ hW h
