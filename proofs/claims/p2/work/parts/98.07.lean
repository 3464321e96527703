
def wT_X5_routineNamed_2 (K : kS → Int32 → Prop) (k2 : Nat × Int64 × Int32 × kS → Prop) (x0 : Nat) (x1 : Int64) (x3 : Int32) (S : kS) : Prop := ∀ z1 : Int32, z1 = S.1 18 x0 → ((z1 ≤ x3 → K S (-1)) ∧ (¬ z1 ≤ x3 → ∀ z3 : Option Nat, z3 = S.2.1 38 x0 → ∀ q4 : Nat, z3 = some q4 → inR x3 12 ∧ ∀ z5 : Int64, z5 = S.2.2.2.1 q4 (ix x3) → ∀ z6 : Int32, z6 = lg_cmp z5 x1 → ((¬ z6 = 0 → ∀ z8 : Int32, z8 = x3 + 1 → k2 (x0, x1, z8, S)) ∧ (z6 = 0 → K S x3))))
def lT_X5_routineNamed_2 (K : kS → Int32 → Prop) (k2 : Nat × Int64 × Int32 × kS → Prop) (u : Nat × Int64 × Int32 × kS) : Prop := wT_X5_routineNamed_2 K k2 u.1 u.2.1 u.2.2.1 u.2.2.2
def wT_X5_routineNamed (t0 : Nat) (a0 : Int64) (S : kS) (K : kS → Int32 → Prop) : Prop := (∃ n9, it (lT_X5_routineNamed_2 K) n9 (t0, a0, 0, S))
theorem ty_X5_routineNamed_2 {d : List (Nat × cK)} {K K' : kS → Int32 → Prop} {k2 k2' : Nat × Int64 × Int32 × kS → Prop} (hk : ∀ S1 r1, WT d S1 → K S1 r1 → K' S1 r1) (hk2 : ∀ (x0 : Nat) (x1 : Int64) (x3 : Int32), ((x0, Sum.inl 5) ∈ d) → ∀ S : kS, WT d S → k2 (x0, x1, x3, S) → k2' (x0, x1, x3, S)) {x0 : Nat} {x1 : Int64} {x3 : Int32} (t_x0 : (x0, Sum.inl 5) ∈ d) {S : kS} (hW : WT d S) (h : wT_X5_routineNamed_2 K k2 x0 x1 x3 S) : wp_X5_routineNamed_2 K' k2' x0 x1 x3 S := by
  unfold wT_X5_routineNamed_2 at h
  unfold wp_X5_routineNamed_2
  refine ⟨hasO_of hW t_x0, ?_⟩
  intro z1 e_z1
  replace h := h z1 e_z1
  refine ⟨fun c => ?_, fun c => ?_⟩
  · replace h := h.1 c
    exact hk _ _ hW h
  · replace h := h.2 c
    refine ⟨hasO_of hW t_x0, ?_⟩
    intro z3 e_z3
    replace h := h z3 e_z3
    have t_z3 : ∀ b, z3 = some b → (b, Sum.inr (12, 1)) ∈ d := fun b hb => hW.2.1 38 _ b t_x0 (by rw [← e_z3]; exact hb)
    have n_z3 := wt_nn (f := 38) hW (by decide) t_x0 e_z3
    obtain ⟨q4, e_q4⟩ := n_z3
    refine ⟨q4, e_q4, ?_⟩
    replace h := h q4 e_q4
    have t_q4 := t_z3 q4 e_q4
    refine ⟨hasA_of hW t_q4, ?_⟩
    have hin := h.1
    refine ⟨h.1, ?_⟩
    replace h := h.2
    intro z5 e_z5
    replace h := h z5 e_z5
    intro z6 e_z6
    replace h := h z6 e_z6
    refine ⟨fun c => ?_, fun c => ?_⟩
    · replace h := h.1 c
      intro z8 e_z8
      replace h := h z8 e_z8
      exact hk2 _ _ _ t_x0 _ hW h
    · replace h := h.2 c
      exact hk _ _ hW h
theorem tyl_X5_routineNamed_2 {d : List (Nat × cK)} {K K' : kS → Int32 → Prop} (hk : ∀ S1 r1, WT d S1 → K S1 r1 → K' S1 r1) : ∀ (n : Nat) (x0 : Nat) (x1 : Int64) (x3 : Int32), ((x0, Sum.inl 5) ∈ d) → ∀ S : kS, WT d S → it (lT_X5_routineNamed_2 K) n (x0, x1, x3, S) → it (ls_X5_routineNamed_2 K') n (x0, x1, x3, S) := by
  intro n
  induction n with
  | zero => exact fun _ _ _ _ _ _ h => h
  | succ n ih => exact fun x0 x1 x3 t_x0 S hW h => ty_X5_routineNamed_2 hk ih t_x0 hW h
theorem ty_X5_routineNamed {d : List (Nat × cK)} {t0 : Nat} {a0 : Int64} (t_t0 : (t0, Sum.inl 5) ∈ d) {S : kS} {K K' : kS → Int32 → Prop} (hW : WT d S) (hk : ∀ S1 r1, WT d S1 → K S1 r1 → K' S1 r1) (h : wT_X5_routineNamed t0 a0 S K) : wp_X5_routineNamed t0 a0 S K' := by
  unfold wT_X5_routineNamed at h
  unfold wp_X5_routineNamed
  obtain ⟨n9, h⟩ := h
  exact ⟨n9, tyl_X5_routineNamed_2 hk n9 _ _ _ t_t0 _ hW h⟩
def wT_X3_findChildren_106 (K : kS → Prop) (k2 : Nat × Int32 × kS → Prop) (x0 : Nat) (x1 : Int32) (S : kS) : Prop := ∀ z41 : Int32, z41 = x1 + 1 → k2 (x0, z41, S)
def wT_X3_findChildren_2 (K : kS → Prop) (k2 : Nat × Int32 × kS → Prop) (x0 : Nat) (x1 : Int32) (S : kS) : Prop := ∀ z1 : Int32, z1 = S.1 11 x0 → ((z1 ≤ x1 → K S) ∧ (¬ z1 ≤ x1 → ∀ z3 : Int32, z3 = S.1 7 x0 → ((¬ z3 = 0 → K S) ∧ (z3 = 0 → ∀ z5 : Option Nat, z5 = S.2.1 15 x0 → ∀ z6 : Option Nat, z6 = S.2.1 20 x0 → ∀ q7 : Nat, z6 = some q7 → inR x1 460 ∧ ∀ z8 : Int64, z8 = S.2.2.2.1 q7 (ix x1) → ∃ q9 : Nat, z5 = some q9 ∧ wT_X5_routineNamed q9 z8 S (fun (S10 : kS) (r10 : Int32) => ((¬ r10 = (-1) → ∀ z12 : Option Nat, z12 = S10.2.1 15 x0 → ∃ q13 : Nat, z12 = some q13 ∧ ∀ z14 : Option Nat, z14 = S10.2.1 34 q13 → ∀ q15 : Nat, z14 = some q15 → inR r10 12 ∧ ∀ z16 : Int32, z16 = S10.2.2.1 q15 (ix r10) → ∀ z17 : Option Nat, z17 = S10.2.1 19 x0 → ∀ q18 : Nat, z17 = some q18 → inR x1 460 ∧ ∀ z19 : Int32, z19 = S10.2.2.1 q18 (ix x1) → ((z16 = z19 → ∀ z21 : Option Nat, z21 = S10.2.1 15 x0 → ∃ q22 : Nat, z21 = some q22 ∧ ∀ z23 : Option Nat, z23 = S10.2.1 29 q22 → ∀ z24 : Option Nat, z24 = S10.2.1 17 x0 → ∀ q25 : Nat, z24 = some q25 → inR x1 460 ∧ ∀ z26 : Int32, z26 = S10.2.2.1 q25 (ix x1) → ∀ q27 : Nat, z23 = some q27 → inR z26 8064 ∧ ∀ S28 : kS, S28 = cA S10 q27 (ix z26) r10 → wT_X3_findChildren_106 K k2 x0 x1 S28) ∧ (¬ z16 = z19 → ∀ z29 : Option Nat, z29 = S10.2.1 18 x0 → ∀ q30 : Nat, z29 = some q30 → inR x1 460 ∧ ∀ z31 : Int32, z31 = S10.2.2.1 q30 (ix x1) → ∀ z32 : Int32, z32 = 16 * z31 → ∀ z33 : Int32, z33 = 6 + z32 → ∀ S34 : kS, S34 = cI S10 7 x0 z33 → wT_X3_findChildren_106 K k2 x0 x1 S34))) ∧ (r10 = (-1) → ∀ z35 : Option Nat, z35 = S10.2.1 18 x0 → ∀ q36 : Nat, z35 = some q36 → inR x1 460 ∧ ∀ z37 : Int32, z37 = S10.2.2.1 q36 (ix x1) → ∀ z38 : Int32, z38 = 16 * z37 → ∀ z39 : Int32, z39 = 2 + z38 → ∀ S40 : kS, S40 = cI S10 7 x0 z39 → wT_X3_findChildren_106 K k2 x0 x1 S40)))))))
def lT_X3_findChildren_2 (K : kS → Prop) (k2 : Nat × Int32 × kS → Prop) (u : Nat × Int32 × kS) : Prop := wT_X3_findChildren_2 K k2 u.1 u.2.1 u.2.2
def wT_X3_findChildren (t0 : Nat) (S : kS) (K : kS → Prop) : Prop := (∃ n9, it (lT_X3_findChildren_2 K) n9 (t0, 0, S))
theorem ty_X3_findChildren_106 {d : List (Nat × cK)} {K K' : kS → Prop} {k2 k2' : Nat × Int32 × kS → Prop} (hk : ∀ S1, WT d S1 → K S1 → K' S1) (hk2 : ∀ (x0 : Nat) (x1 : Int32), ((x0, Sum.inl 3) ∈ d) → ∀ S : kS, WT d S → k2 (x0, x1, S) → k2' (x0, x1, S)) {x0 : Nat} {x1 : Int32} (t_x0 : (x0, Sum.inl 3) ∈ d) {S : kS} (hW : WT d S) (h : wT_X3_findChildren_106 K k2 x0 x1 S) : wp_X3_findChildren_106 K' k2' x0 x1 S := by
  unfold wT_X3_findChildren_106 at h
  unfold wp_X3_findChildren_106
  intro z41 e_z41
  replace h := h z41 e_z41
  exact hk2 _ _ t_x0 _ hW h
theorem ty_X3_findChildren_2 {d : List (Nat × cK)} {K K' : kS → Prop} {k2 k2' : Nat × Int32 × kS → Prop} (hk : ∀ S1, WT d S1 → K S1 → K' S1) (hk2 : ∀ (x0 : Nat) (x1 : Int32), ((x0, Sum.inl 3) ∈ d) → ∀ S : kS, WT d S → k2 (x0, x1, S) → k2' (x0, x1, S)) {x0 : Nat} {x1 : Int32} (t_x0 : (x0, Sum.inl 3) ∈ d) {S : kS} (hW : WT d S) (h : wT_X3_findChildren_2 K k2 x0 x1 S) : wp_X3_findChildren_2 K' k2' x0 x1 S := by
  unfold wT_X3_findChildren_2 at h
  unfold wp_X3_findChildren_2
  refine ⟨hasO_of hW t_x0, ?_⟩
  intro z1 e_z1
  replace h := h z1 e_z1
  refine ⟨fun c => ?_, fun c => ?_⟩
  · replace h := h.1 c
    exact hk _ hW h
  · replace h := h.2 c
    refine ⟨hasO_of hW t_x0, ?_⟩
    intro z3 e_z3
    replace h := h z3 e_z3
    refine ⟨fun c => ?_, fun c => ?_⟩
    · replace h := h.1 c
      exact hk _ hW h
    · replace h := h.2 c
      refine ⟨hasO_of hW t_x0, ?_⟩
      intro z5 e_z5
      replace h := h z5 e_z5
      have t_z5 : ∀ b, z5 = some b → (b, Sum.inl 5) ∈ d := fun b hb => hW.2.1 15 _ b t_x0 (by rw [← e_z5]; exact hb)
      refine ⟨hasO_of hW t_x0, ?_⟩
      intro z6 e_z6
      replace h := h z6 e_z6
      have t_z6 : ∀ b, z6 = some b → (b, Sum.inr (460, 1)) ∈ d := fun b hb => hW.2.1 20 _ b t_x0 (by rw [← e_z6]; exact hb)
      have n_z6 := wt_nn (f := 20) hW (by decide) t_x0 e_z6
      obtain ⟨q7, e_q7⟩ := n_z6
      refine ⟨q7, e_q7, ?_⟩
      replace h := h q7 e_q7
      have t_q7 := t_z6 q7 e_q7
      refine ⟨hasA_of hW t_q7, ?_⟩
      have hin := h.1
      refine ⟨h.1, ?_⟩
      replace h := h.2
      intro z8 e_z8
      replace h := h z8 e_z8
      obtain ⟨q9, e_q9, h9⟩ := h
      replace h := h9
      clear h9
      refine ⟨q9, e_q9, ?_⟩
      have t_q9 := t_z5 q9 e_q9
      refine ⟨hasO_of hW t_q9, ?_⟩
      refine ty_X5_routineNamed t_q9 hW (fun S10 r10 hW h => ?_) h
      refine ⟨fun c => ?_, fun c => ?_⟩
      · replace h := h.1 c
        refine ⟨hasO_of hW t_x0, ?_⟩
        intro z12 e_z12
        replace h := h z12 e_z12
        have t_z12 : ∀ b, z12 = some b → (b, Sum.inl 5) ∈ d := fun b hb => hW.2.1 15 _ b t_x0 (by rw [← e_z12]; exact hb)
        obtain ⟨q13, e_q13, h9⟩ := h
        replace h := h9
        clear h9
        refine ⟨q13, e_q13, ?_⟩
        have t_q13 := t_z12 q13 e_q13
        refine ⟨hasO_of hW t_q13, ?_⟩
        intro z14 e_z14
        replace h := h z14 e_z14
        have t_z14 : ∀ b, z14 = some b → (b, Sum.inr (12, 0)) ∈ d := fun b hb => hW.2.1 34 _ b t_q13 (by rw [← e_z14]; exact hb)
        have n_z14 := wt_nn (f := 34) hW (by decide) t_q13 e_z14
        obtain ⟨q15, e_q15⟩ := n_z14
        refine ⟨q15, e_q15, ?_⟩
        replace h := h q15 e_q15
        have t_q15 := t_z14 q15 e_q15
        refine ⟨hasA_of hW t_q15, ?_⟩
        have hin := h.1
        refine ⟨h.1, ?_⟩
        replace h := h.2
        intro z16 e_z16
        replace h := h z16 e_z16
        refine ⟨hasO_of hW t_x0, ?_⟩
        intro z17 e_z17
        replace h := h z17 e_z17
        have t_z17 : ∀ b, z17 = some b → (b, Sum.inr (460, 0)) ∈ d := fun b hb => hW.2.1 19 _ b t_x0 (by rw [← e_z17]; exact hb)
        have n_z17 := wt_nn (f := 19) hW (by decide) t_x0 e_z17
        obtain ⟨q18, e_q18⟩ := n_z17
        refine ⟨q18, e_q18, ?_⟩
        replace h := h q18 e_q18
        have t_q18 := t_z17 q18 e_q18
        refine ⟨hasA_of hW t_q18, ?_⟩
        have hin := h.1
        refine ⟨h.1, ?_⟩
        replace h := h.2
        intro z19 e_z19
        replace h := h z19 e_z19
        refine ⟨fun c => ?_, fun c => ?_⟩
        · replace h := h.1 c
          refine ⟨hasO_of hW t_x0, ?_⟩
          intro z21 e_z21
          replace h := h z21 e_z21
          have t_z21 : ∀ b, z21 = some b → (b, Sum.inl 5) ∈ d := fun b hb => hW.2.1 15 _ b t_x0 (by rw [← e_z21]; exact hb)
          obtain ⟨q22, e_q22, h9⟩ := h
          replace h := h9
          clear h9
          refine ⟨q22, e_q22, ?_⟩
          have t_q22 := t_z21 q22 e_q22
          refine ⟨hasO_of hW t_q22, ?_⟩
          intro z23 e_z23
          replace h := h z23 e_z23
          have t_z23 : ∀ b, z23 = some b → (b, Sum.inr (8064, 0)) ∈ d := fun b hb => hW.2.1 29 _ b t_q22 (by rw [← e_z23]; exact hb)
          have n_z23 := wt_nn (f := 29) hW (by decide) t_q22 e_z23
          refine ⟨hasO_of hW t_x0, ?_⟩
          intro z24 e_z24
          replace h := h z24 e_z24
          have t_z24 : ∀ b, z24 = some b → (b, Sum.inr (460, 0)) ∈ d := fun b hb => hW.2.1 17 _ b t_x0 (by rw [← e_z24]; exact hb)
          have n_z24 := wt_nn (f := 17) hW (by decide) t_x0 e_z24
          obtain ⟨q25, e_q25⟩ := n_z24
          refine ⟨q25, e_q25, ?_⟩
          replace h := h q25 e_q25
          have t_q25 := t_z24 q25 e_q25
          refine ⟨hasA_of hW t_q25, ?_⟩
          have hin := h.1
          refine ⟨h.1, ?_⟩
          replace h := h.2
          intro z26 e_z26
          replace h := h z26 e_z26
          obtain ⟨q27, e_q27⟩ := n_z23
          refine ⟨q27, e_q27, ?_⟩
          replace h := h q27 e_q27
          have t_q27 := t_z23 q27 e_q27
          refine ⟨hasA_of hW t_q27, ?_⟩
          have hin := h.1
          refine ⟨h.1, ?_⟩
          replace h := h.2
          intro S28 e_S28
          replace h := h S28 e_S28
          replace hW := WT_a hW e_S28
          exact ty_X3_findChildren_106 hk hk2 t_x0 hW h
        · replace h := h.2 c
          refine ⟨hasO_of hW t_x0, ?_⟩
          intro z29 e_z29
          replace h := h z29 e_z29
          have t_z29 : ∀ b, z29 = some b → (b, Sum.inr (460, 0)) ∈ d := fun b hb => hW.2.1 18 _ b t_x0 (by rw [← e_z29]; exact hb)
          have n_z29 := wt_nn (f := 18) hW (by decide) t_x0 e_z29
          obtain ⟨q30, e_q30⟩ := n_z29
          refine ⟨q30, e_q30, ?_⟩
          replace h := h q30 e_q30
          have t_q30 := t_z29 q30 e_q30
          refine ⟨hasA_of hW t_q30, ?_⟩
          have hin := h.1
          refine ⟨h.1, ?_⟩
          replace h := h.2
          intro z31 e_z31
          replace h := h z31 e_z31
          intro z32 e_z32
          replace h := h z32 e_z32
          intro z33 e_z33
          replace h := h z33 e_z33
          refine ⟨hasO_of hW t_x0, ?_⟩
          intro S34 e_S34
          replace h := h S34 e_S34
          replace hW := WT_i hW e_S34
          exact ty_X3_findChildren_106 hk hk2 t_x0 hW h
      · replace h := h.2 c
        refine ⟨hasO_of hW t_x0, ?_⟩
        intro z35 e_z35
        replace h := h z35 e_z35
        have t_z35 : ∀ b, z35 = some b → (b, Sum.inr (460, 0)) ∈ d := fun b hb => hW.2.1 18 _ b t_x0 (by rw [← e_z35]; exact hb)
        have n_z35 := wt_nn (f := 18) hW (by decide) t_x0 e_z35
        obtain ⟨q36, e_q36⟩ := n_z35
        refine ⟨q36, e_q36, ?_⟩
        replace h := h q36 e_q36
        have t_q36 := t_z35 q36 e_q36
        refine ⟨hasA_of hW t_q36, ?_⟩
        have hin := h.1
        refine ⟨h.1, ?_⟩
        replace h := h.2
        intro z37 e_z37
        replace h := h z37 e_z37
        intro z38 e_z38
        replace h := h z38 e_z38
        intro z39 e_z39
        replace h := h z39 e_z39
        refine ⟨hasO_of hW t_x0, ?_⟩
        intro S40 e_S40
        replace h := h S40 e_S40
        replace hW := WT_i hW e_S40
        exact ty_X3_findChildren_106 hk hk2 t_x0 hW h
theorem tyl_X3_findChildren_2 {d : List (Nat × cK)} {K K' : kS → Prop} (hk : ∀ S1, WT d S1 → K S1 → K' S1) : ∀ (n : Nat) (x0 : Nat) (x1 : Int32), ((x0, Sum.inl 3) ∈ d) → ∀ S : kS, WT d S → it (lT_X3_findChildren_2 K) n (x0, x1, S) → it (ls_X3_findChildren_2 K') n (x0, x1, S) := by
  intro n
  induction n with
  | zero => exact fun _ _ _ _ _ h => h
  | succ n ih => exact fun x0 x1 t_x0 S hW h => ty_X3_findChildren_2 hk ih t_x0 hW h
theorem ty_X3_findChildren {d : List (Nat × cK)} {t0 : Nat} (t_t0 : (t0, Sum.inl 3) ∈ d) {S : kS} {K K' : kS → Prop} (hW : WT d S) (hk : ∀ S1, WT d S1 → K S1 → K' S1) (h : wT_X3_findChildren t0 S K) : wp_X3_findChildren t0 S K' := by
  unfold wT_X3_findChildren at h
  unfold wp_X3_findChildren
  obtain ⟨n9, h⟩ := h
  exact ⟨n9, tyl_X3_findChildren_2 hk n9 _ _ t_t0 _ hW h⟩
def wT_X5_cellNamed_23 (K : kS → Int32 → Prop) (k23 : Nat × Int32 × Int64 × Int32 × Int32 × kS → Prop) (x0 : Nat) (x1 : Int32) (x2 : Int64) (x4 : Int32) (x5 : Int32) (S : kS) : Prop := ((x4 ≤ x5 → K S (-1)) ∧ (¬ x4 ≤ x5 → ∀ z7 : Option Nat, z7 = S.2.1 39 x0 → ∀ z8 : Int32, z8 = x1 * 12 → ∀ z9 : Int32, z9 = z8 + x5 → ∀ q10 : Nat, z7 = some q10 → inR z9 144 ∧ ∀ z11 : Int64, z11 = S.2.2.2.1 q10 (ix z9) → ∀ z12 : Int32, z12 = lg_cmp z11 x2 → ((¬ z12 = 0 → ∀ z14 : Int32, z14 = x5 + 1 → k23 (x0, x1, x2, x4, z14, S)) ∧ (z12 = 0 → K S x5))))
def lT_X5_cellNamed_23 (K : kS → Int32 → Prop) (k23 : Nat × Int32 × Int64 × Int32 × Int32 × kS → Prop) (u : Nat × Int32 × Int64 × Int32 × Int32 × kS) : Prop := wT_X5_cellNamed_23 K k23 u.1 u.2.1 u.2.2.1 u.2.2.2.1 u.2.2.2.2.1 u.2.2.2.2.2
def wT_X5_cellNamed_18 (K : kS → Int32 → Prop) (x0 : Nat) (x1 : Int32) (x2 : Int64) (y0 : Int32) (S : kS) : Prop := (∃ n9, it (lT_X5_cellNamed_23 K) n9 (x0, x1, x2, y0, 0, S))
def wT_X5_cellNamed (t0 : Nat) (a0 : Int32) (a1 : Int64) (S : kS) (K : kS → Int32 → Prop) : Prop := wT_X5_has t0 a0 S (fun (S1 : kS) (r1 : Int32) => ((r1 = 0 → wT_X5_cellNamed_18 K t0 a0 a1 0 S1) ∧ (¬ r1 = 0 → ∀ z3 : Option Nat, z3 = S1.2.1 35 t0 → ∀ q4 : Nat, z3 = some q4 → inR a0 12 ∧ ∀ z5 : Int32, z5 = S1.2.2.1 q4 (ix a0) → wT_X5_cellNamed_18 K t0 a0 a1 z5 S1)))
theorem ty_X5_cellNamed_23 {d : List (Nat × cK)} {K K' : kS → Int32 → Prop} {k23 k23' : Nat × Int32 × Int64 × Int32 × Int32 × kS → Prop} (hk : ∀ S1 r1, WT d S1 → K S1 r1 → K' S1 r1) (hk23 : ∀ (x0 : Nat) (x1 : Int32) (x2 : Int64) (x4 : Int32) (x5 : Int32), ((x0, Sum.inl 5) ∈ d) → ∀ S : kS, WT d S → k23 (x0, x1, x2, x4, x5, S) → k23' (x0, x1, x2, x4, x5, S)) {x0 : Nat} {x1 : Int32} {x2 : Int64} {x4 : Int32} {x5 : Int32} (t_x0 : (x0, Sum.inl 5) ∈ d) {S : kS} (hW : WT d S) (h : wT_X5_cellNamed_23 K k23 x0 x1 x2 x4 x5 S) : wp_X5_cellNamed_23 K' k23' x0 x1 x2 x4 x5 S := by
  unfold wT_X5_cellNamed_23 at h
  unfold wp_X5_cellNamed_23
  refine ⟨fun c => ?_, fun c => ?_⟩
  · replace h := h.1 c
    exact hk _ _ hW h
  · replace h := h.2 c
    refine ⟨hasO_of hW t_x0, ?_⟩
    intro z7 e_z7
    replace h := h z7 e_z7
    have t_z7 : ∀ b, z7 = some b → (b, Sum.inr (144, 1)) ∈ d := fun b hb => hW.2.1 39 _ b t_x0 (by rw [← e_z7]; exact hb)
    have n_z7 := wt_nn (f := 39) hW (by decide) t_x0 e_z7
    intro z8 e_z8
    replace h := h z8 e_z8
    intro z9 e_z9
    replace h := h z9 e_z9
    obtain ⟨q10, e_q10⟩ := n_z7
    refine ⟨q10, e_q10, ?_⟩
    replace h := h q10 e_q10
    have t_q10 := t_z7 q10 e_q10
    refine ⟨hasA_of hW t_q10, ?_⟩
    have hin := h.1
    refine ⟨h.1, ?_⟩
    replace h := h.2
    intro z11 e_z11
    replace h := h z11 e_z11
    intro z12 e_z12
    replace h := h z12 e_z12
    refine ⟨fun c => ?_, fun c => ?_⟩
    · replace h := h.1 c
      intro z14 e_z14
      replace h := h z14 e_z14
      exact hk23 _ _ _ _ _ t_x0 _ hW h
    · replace h := h.2 c
      exact hk _ _ hW h
theorem tyl_X5_cellNamed_23 {d : List (Nat × cK)} {K K' : kS → Int32 → Prop} (hk : ∀ S1 r1, WT d S1 → K S1 r1 → K' S1 r1) : ∀ (n : Nat) (x0 : Nat) (x1 : Int32) (x2 : Int64) (x4 : Int32) (x5 : Int32), ((x0, Sum.inl 5) ∈ d) → ∀ S : kS, WT d S → it (lT_X5_cellNamed_23 K) n (x0, x1, x2, x4, x5, S) → it (ls_X5_cellNamed_23 K') n (x0, x1, x2, x4, x5, S) := by
  intro n
  induction n with
  | zero => exact fun _ _ _ _ _ _ _ _ h => h
  | succ n ih => exact fun x0 x1 x2 x4 x5 t_x0 S hW h => ty_X5_cellNamed_23 hk ih t_x0 hW h
theorem ty_X5_cellNamed_18 {d : List (Nat × cK)} {K K' : kS → Int32 → Prop} (hk : ∀ S1 r1, WT d S1 → K S1 r1 → K' S1 r1) {x0 : Nat} {x1 : Int32} {x2 : Int64} {y0 : Int32} (t_x0 : (x0, Sum.inl 5) ∈ d) {S : kS} (hW : WT d S) (h : wT_X5_cellNamed_18 K x0 x1 x2 y0 S) : wp_X5_cellNamed_18 K' x0 x1 x2 y0 S := by
  unfold wT_X5_cellNamed_18 at h
  unfold wp_X5_cellNamed_18
  obtain ⟨n9, h⟩ := h
  exact ⟨n9, tyl_X5_cellNamed_23 hk n9 _ _ _ _ _ t_x0 _ hW h⟩
theorem ty_X5_cellNamed {d : List (Nat × cK)} {t0 : Nat} {a0 : Int32} {a1 : Int64} (t_t0 : (t0, Sum.inl 5) ∈ d) {S : kS} {K K' : kS → Int32 → Prop} (hW : WT d S) (hk : ∀ S1 r1, WT d S1 → K S1 r1 → K' S1 r1) (h : wT_X5_cellNamed t0 a0 a1 S K) : wp_X5_cellNamed t0 a0 a1 S K' := by
  unfold wT_X5_cellNamed at h
  unfold wp_X5_cellNamed
  refine ⟨hasO_of hW t_t0, ?_⟩
  refine ty_X5_has t_t0 hW (fun S1 r1 hW h => ?_) h
  refine ⟨fun c => ?_, fun c => ?_⟩
  · replace h := h.1 c
    exact ty_X5_cellNamed_18 hk t_t0 hW h
  · replace h := h.2 c
    refine ⟨hasO_of hW t_t0, ?_⟩
    intro z3 e_z3
    replace h := h z3 e_z3
    have t_z3 : ∀ b, z3 = some b → (b, Sum.inr (12, 0)) ∈ d := fun b hb => hW.2.1 35 _ b t_t0 (by rw [← e_z3]; exact hb)
    have n_z3 := wt_nn (f := 35) hW (by decide) t_t0 e_z3
    obtain ⟨q4, e_q4⟩ := n_z3
    refine ⟨q4, e_q4, ?_⟩
    replace h := h q4 e_q4
    have t_q4 := t_z3 q4 e_q4
    refine ⟨hasA_of hW t_q4, ?_⟩
    have hin := h.1
    refine ⟨h.1, ?_⟩
    replace h := h.2
    intro z5 e_z5
    replace h := h z5 e_z5
    exact ty_X5_cellNamed_18 hk t_t0 hW h
def wT_X3_givenCell (t0 : Nat) (S : kS) (K : kS → Prop) : Prop := ∀ z1 : Option Nat, z1 = S.2.1 15 t0 → ∃ q2 : Nat, z1 = some q2 ∧ ∀ z3 : Int32, z3 = S.1 18 q2 → ∀ z4 : Int32, z4 = z3 - 1 → wT_X3_kind t0 S (fun (S5 : kS) (r5 : Int32) => ((r5 = 3 → ∀ z7 : Option Nat, z7 = S5.2.1 15 t0 → ∀ z8 : Option Nat, z8 = S5.2.1 14 t0 → ∀ q9 : Nat, z8 = some q9 → ∀ z10 : Option Nat, z10 = S5.2.1 66 q9 → ∀ z11 : Int32, z11 = S5.1 6 t0 → ∀ q12 : Nat, z10 = some q12 → inR z11 4002 ∧ ∀ z13 : Int64, z13 = S5.2.2.2.1 q12 (ix z11) → ∃ q14 : Nat, z7 = some q14 ∧ wT_X5_cellNamed q14 z4 z13 S5 (fun (S15 : kS) (r15 : Int32) => ((r15 = (-1) → ∀ z17 : Option Nat, z17 = S15.2.1 15 t0 → ∀ z18 : Option Nat, z18 = S15.2.1 14 t0 → ∀ q19 : Nat, z18 = some q19 → ∀ z20 : Option Nat, z20 = S15.2.1 66 q19 → ∀ z21 : Int32, z21 = S15.1 6 t0 → ∀ q22 : Nat, z20 = some q22 → inR z21 4002 ∧ ∀ z23 : Int64, z23 = S15.2.2.2.1 q22 (ix z21) → ∃ q24 : Nat, z17 = some q24 ∧ wT_X5_cellOf q24 z23 S15 (fun (S25 : kS) (r25 : Int32) => ((¬ r25 = (-1) → ∀ z27 : Option Nat, z27 = S25.2.1 15 t0 → ∃ q28 : Nat, z27 = some q28 ∧ ∀ z29 : Option Nat, z29 = S25.2.1 34 q28 → ∀ q30 : Nat, z29 = some q30 → inR z4 12 ∧ ∀ z31 : Int32, z31 = S25.2.2.1 q30 (ix z4) → ∀ z32 : Int32, z32 = z31 + 1 → inR z4 12 ∧ ∀ S33 : kS, S33 = cA S25 q30 (ix z4) z32 → wT_X3_step t0 S33 (fun (S34 : kS) => K S34)) ∧ (r25 = (-1) → wT_X3_wrong t0 5 S25 (fun (S35 : kS) => K S35))))) ∧ (¬ r15 = (-1) → wT_X3_wrong t0 3 S15 (fun (S36 : kS) => K S36))))) ∧ (¬ r5 = 3 → wT_X3_wrong t0 1 S5 (fun (S37 : kS) => K S37))))
theorem ty_X3_givenCell {d : List (Nat × cK)} {t0 : Nat} (t_t0 : (t0, Sum.inl 3) ∈ d) {S : kS} {K K' : kS → Prop} (hW : WT d S) (hk : ∀ S1, WT d S1 → K S1 → K' S1) (h : wT_X3_givenCell t0 S K) : wp_X3_givenCell t0 S K' := by
  unfold wT_X3_givenCell at h
  unfold wp_X3_givenCell
  refine ⟨hasO_of hW t_t0, ?_⟩
  intro z1 e_z1
  replace h := h z1 e_z1
  have t_z1 : ∀ b, z1 = some b → (b, Sum.inl 5) ∈ d := fun b hb => hW.2.1 15 _ b t_t0 (by rw [← e_z1]; exact hb)
  obtain ⟨q2, e_q2, h9⟩ := h
  replace h := h9
  clear h9
  refine ⟨q2, e_q2, ?_⟩
  have t_q2 := t_z1 q2 e_q2
  refine ⟨hasO_of hW t_q2, ?_⟩
  intro z3 e_z3
  replace h := h z3 e_z3
  intro z4 e_z4
  replace h := h z4 e_z4
  refine ⟨hasO_of hW t_t0, ?_⟩
  refine ty_X3_kind t_t0 hW (fun S5 r5 hW h => ?_) h
  refine ⟨fun c => ?_, fun c => ?_⟩
  · replace h := h.1 c
    refine ⟨hasO_of hW t_t0, ?_⟩
    intro z7 e_z7
    replace h := h z7 e_z7
    have t_z7 : ∀ b, z7 = some b → (b, Sum.inl 5) ∈ d := fun b hb => hW.2.1 15 _ b t_t0 (by rw [← e_z7]; exact hb)
    refine ⟨hasO_of hW t_t0, ?_⟩
    intro z8 e_z8
    replace h := h z8 e_z8
    have t_z8 : ∀ b, z8 = some b → (b, Sum.inl 10) ∈ d := fun b hb => hW.2.1 14 _ b t_t0 (by rw [← e_z8]; exact hb)
    have n_z8 := wt_nn (f := 14) hW (by decide) t_t0 e_z8
    obtain ⟨q9, e_q9⟩ := n_z8
    refine ⟨q9, e_q9, ?_⟩
    replace h := h q9 e_q9
    have t_q9 := t_z8 q9 e_q9
    refine ⟨hasO_of hW t_q9, ?_⟩
    intro z10 e_z10
    replace h := h z10 e_z10
    have t_z10 : ∀ b, z10 = some b → (b, Sum.inr (4002, 1)) ∈ d := fun b hb => hW.2.1 66 _ b t_q9 (by rw [← e_z10]; exact hb)
    have n_z10 := wt_nn (f := 66) hW (by decide) t_q9 e_z10
    refine ⟨hasO_of hW t_t0, ?_⟩
    intro z11 e_z11
    replace h := h z11 e_z11
    obtain ⟨q12, e_q12⟩ := n_z10
    refine ⟨q12, e_q12, ?_⟩
    replace h := h q12 e_q12
    have t_q12 := t_z10 q12 e_q12
    refine ⟨hasA_of hW t_q12, ?_⟩
    have hin := h.1
    refine ⟨h.1, ?_⟩
    replace h := h.2
    intro z13 e_z13
    replace h := h z13 e_z13
    obtain ⟨q14, e_q14, h9⟩ := h
    replace h := h9
    clear h9
    refine ⟨q14, e_q14, ?_⟩
    have t_q14 := t_z7 q14 e_q14
    refine ⟨hasO_of hW t_q14, ?_⟩
    refine ty_X5_cellNamed t_q14 hW (fun S15 r15 hW h => ?_) h
    refine ⟨fun c => ?_, fun c => ?_⟩
    · replace h := h.1 c
      refine ⟨hasO_of hW t_t0, ?_⟩
      intro z17 e_z17
      replace h := h z17 e_z17
      have t_z17 : ∀ b, z17 = some b → (b, Sum.inl 5) ∈ d := fun b hb => hW.2.1 15 _ b t_t0 (by rw [← e_z17]; exact hb)
      refine ⟨hasO_of hW t_t0, ?_⟩
      intro z18 e_z18
      replace h := h z18 e_z18
      have t_z18 : ∀ b, z18 = some b → (b, Sum.inl 10) ∈ d := fun b hb => hW.2.1 14 _ b t_t0 (by rw [← e_z18]; exact hb)
      have n_z18 := wt_nn (f := 14) hW (by decide) t_t0 e_z18
      obtain ⟨q19, e_q19⟩ := n_z18
      refine ⟨q19, e_q19, ?_⟩
      replace h := h q19 e_q19
      have t_q19 := t_z18 q19 e_q19
      refine ⟨hasO_of hW t_q19, ?_⟩
      intro z20 e_z20
      replace h := h z20 e_z20
      have t_z20 : ∀ b, z20 = some b → (b, Sum.inr (4002, 1)) ∈ d := fun b hb => hW.2.1 66 _ b t_q19 (by rw [← e_z20]; exact hb)
      have n_z20 := wt_nn (f := 66) hW (by decide) t_q19 e_z20
      refine ⟨hasO_of hW t_t0, ?_⟩
      intro z21 e_z21
      replace h := h z21 e_z21
      obtain ⟨q22, e_q22⟩ := n_z20
      refine ⟨q22, e_q22, ?_⟩
      replace h := h q22 e_q22
      have t_q22 := t_z20 q22 e_q22
      refine ⟨hasA_of hW t_q22, ?_⟩
      have hin := h.1
      refine ⟨h.1, ?_⟩
      replace h := h.2
      intro z23 e_z23
      replace h := h z23 e_z23
      obtain ⟨q24, e_q24, h9⟩ := h
      replace h := h9
      clear h9
      refine ⟨q24, e_q24, ?_⟩
      have t_q24 := t_z17 q24 e_q24
      refine ⟨hasO_of hW t_q24, ?_⟩
      refine ty_X5_cellOf t_q24 hW (fun S25 r25 hW h => ?_) h
      refine ⟨fun c => ?_, fun c => ?_⟩
      · replace h := h.1 c
        refine ⟨hasO_of hW t_t0, ?_⟩
        intro z27 e_z27
        replace h := h z27 e_z27
        have t_z27 : ∀ b, z27 = some b → (b, Sum.inl 5) ∈ d := fun b hb => hW.2.1 15 _ b t_t0 (by rw [← e_z27]; exact hb)
        obtain ⟨q28, e_q28, h9⟩ := h
        replace h := h9
        clear h9
        refine ⟨q28, e_q28, ?_⟩
        have t_q28 := t_z27 q28 e_q28
        refine ⟨hasO_of hW t_q28, ?_⟩
        intro z29 e_z29
        replace h := h z29 e_z29
        have t_z29 : ∀ b, z29 = some b → (b, Sum.inr (12, 0)) ∈ d := fun b hb => hW.2.1 34 _ b t_q28 (by rw [← e_z29]; exact hb)
        have n_z29 := wt_nn (f := 34) hW (by decide) t_q28 e_z29
        obtain ⟨q30, e_q30⟩ := n_z29
        refine ⟨q30, e_q30, ?_⟩
        replace h := h q30 e_q30
        have t_q30 := t_z29 q30 e_q30
        refine ⟨hasA_of hW t_q30, ?_⟩
        have hin := h.1
        refine ⟨h.1, ?_⟩
        replace h := h.2
        intro z31 e_z31
        replace h := h z31 e_z31
        intro z32 e_z32
        replace h := h z32 e_z32
        refine ⟨hasA_of hW t_q30, ?_⟩
        have hin := h.1
        refine ⟨h.1, ?_⟩
        replace h := h.2
        intro S33 e_S33
        replace h := h S33 e_S33
        replace hW := WT_a hW e_S33
        refine ⟨hasO_of hW t_t0, ?_⟩
        refine ty_X3_step t_t0 hW (fun S34 hW h => ?_) h
        exact hk _ hW h
      · replace h := h.2 c
        refine ⟨hasO_of hW t_t0, ?_⟩
        refine ty_X3_wrong t_t0 hW (fun S35 hW h => ?_) h
        exact hk _ hW h
    · replace h := h.2 c
      refine ⟨hasO_of hW t_t0, ?_⟩
      refine ty_X3_wrong t_t0 hW (fun S36 hW h => ?_) h
      exact hk _ hW h
  · replace h := h.2 c
    refine ⟨hasO_of hW t_t0, ?_⟩
    refine ty_X3_wrong t_t0 hW (fun S37 hW h => ?_) h
    exact hk _ hW h
def wT_X5_openRoutine (t0 : Nat) (a0 : Int64) (S : kS) (K : kS → Prop) : Prop := ∀ z1 : Int32, z1 = S.1 18 t0 → ((12 ≤ z1 → K S) ∧ (¬ 12 ≤ z1 → ∀ z3 : Option Nat, z3 = S.2.1 38 t0 → ∀ z4 : Int32, z4 = S.1 18 t0 → ∀ q5 : Nat, z3 = some q5 → inR z4 12 ∧ ∀ S6 : kS, S6 = cL S q5 (ix z4) a0 → ∀ z7 : Option Nat, z7 = S6.2.1 32 t0 → ∀ z8 : Int32, z8 = S6.1 18 t0 → ∀ z9 : Int32, z9 = S6.1 17 t0 → ∀ q10 : Nat, z7 = some q10 → inR z8 12 ∧ ∀ S11 : kS, S11 = cA S6 q10 (ix z8) z9 → ∀ z12 : Option Nat, z12 = S11.2.1 34 t0 → ∀ z13 : Int32, z13 = S11.1 18 t0 → ∀ q14 : Nat, z12 = some q14 → inR z13 12 ∧ ∀ S15 : kS, S15 = cA S11 q14 (ix z13) 0 → ∀ z16 : Option Nat, z16 = S15.2.1 35 t0 → ∀ z17 : Int32, z17 = S15.1 18 t0 → ∀ q18 : Nat, z16 = some q18 → inR z17 12 ∧ ∀ S19 : kS, S19 = cA S15 q18 (ix z17) 0 → ∀ z20 : Option Nat, z20 = S19.2.1 36 t0 → ∀ z21 : Int32, z21 = S19.1 18 t0 → ∀ q22 : Nat, z20 = some q22 → inR z21 12 ∧ ∀ S23 : kS, S23 = cA S19 q22 (ix z21) 0 → ∀ z24 : Int32, z24 = S23.1 18 t0 → ∀ z25 : Int32, z25 = z24 + 1 → ∀ S26 : kS, S26 = cI S23 18 t0 z25 → K S26))
theorem ty_X5_openRoutine {d : List (Nat × cK)} {t0 : Nat} {a0 : Int64} (t_t0 : (t0, Sum.inl 5) ∈ d) {S : kS} {K K' : kS → Prop} (hW : WT d S) (hk : ∀ S1, WT d S1 → K S1 → K' S1) (h : wT_X5_openRoutine t0 a0 S K) : wp_X5_openRoutine t0 a0 S K' := by
  unfold wT_X5_openRoutine at h
  unfold wp_X5_openRoutine
  refine ⟨hasO_of hW t_t0, ?_⟩
  intro z1 e_z1
  replace h := h z1 e_z1
  refine ⟨fun c => ?_, fun c => ?_⟩
  · replace h := h.1 c
    exact hk _ hW h
  · replace h := h.2 c
    refine ⟨hasO_of hW t_t0, ?_⟩
    intro z3 e_z3
    replace h := h z3 e_z3
    have t_z3 : ∀ b, z3 = some b → (b, Sum.inr (12, 1)) ∈ d := fun b hb => hW.2.1 38 _ b t_t0 (by rw [← e_z3]; exact hb)
    have n_z3 := wt_nn (f := 38) hW (by decide) t_t0 e_z3
    refine ⟨hasO_of hW t_t0, ?_⟩
    intro z4 e_z4
    replace h := h z4 e_z4
    obtain ⟨q5, e_q5⟩ := n_z3
    refine ⟨q5, e_q5, ?_⟩
    replace h := h q5 e_q5
    have t_q5 := t_z3 q5 e_q5
    refine ⟨hasA_of hW t_q5, ?_⟩
    have hin := h.1
    refine ⟨h.1, ?_⟩
    replace h := h.2
    intro S6 e_S6
    replace h := h S6 e_S6
    replace hW := WT_l hW e_S6
    refine ⟨hasO_of hW t_t0, ?_⟩
    intro z7 e_z7
    replace h := h z7 e_z7
    have t_z7 : ∀ b, z7 = some b → (b, Sum.inr (12, 0)) ∈ d := fun b hb => hW.2.1 32 _ b t_t0 (by rw [← e_z7]; exact hb)
    have n_z7 := wt_nn (f := 32) hW (by decide) t_t0 e_z7
    refine ⟨hasO_of hW t_t0, ?_⟩
    intro z8 e_z8
    replace h := h z8 e_z8
    refine ⟨hasO_of hW t_t0, ?_⟩
    intro z9 e_z9
    replace h := h z9 e_z9
    obtain ⟨q10, e_q10⟩ := n_z7
    refine ⟨q10, e_q10, ?_⟩
    replace h := h q10 e_q10
    have t_q10 := t_z7 q10 e_q10
    refine ⟨hasA_of hW t_q10, ?_⟩
    have hin := h.1
    refine ⟨h.1, ?_⟩
    replace h := h.2
    intro S11 e_S11
    replace h := h S11 e_S11
    replace hW := WT_a hW e_S11
    refine ⟨hasO_of hW t_t0, ?_⟩
    intro z12 e_z12
    replace h := h z12 e_z12
    have t_z12 : ∀ b, z12 = some b → (b, Sum.inr (12, 0)) ∈ d := fun b hb => hW.2.1 34 _ b t_t0 (by rw [← e_z12]; exact hb)
    have n_z12 := wt_nn (f := 34) hW (by decide) t_t0 e_z12
    refine ⟨hasO_of hW t_t0, ?_⟩
    intro z13 e_z13
    replace h := h z13 e_z13
    obtain ⟨q14, e_q14⟩ := n_z12
    refine ⟨q14, e_q14, ?_⟩
    replace h := h q14 e_q14
    have t_q14 := t_z12 q14 e_q14
    refine ⟨hasA_of hW t_q14, ?_⟩
    have hin := h.1
    refine ⟨h.1, ?_⟩
    replace h := h.2
    intro S15 e_S15
    replace h := h S15 e_S15
    replace hW := WT_a hW e_S15
    refine ⟨hasO_of hW t_t0, ?_⟩
    intro z16 e_z16
    replace h := h z16 e_z16
    have t_z16 : ∀ b, z16 = some b → (b, Sum.inr (12, 0)) ∈ d := fun b hb => hW.2.1 35 _ b t_t0 (by rw [← e_z16]; exact hb)
    have n_z16 := wt_nn (f := 35) hW (by decide) t_t0 e_z16
    refine ⟨hasO_of hW t_t0, ?_⟩
    intro z17 e_z17
    replace h := h z17 e_z17
    obtain ⟨q18, e_q18⟩ := n_z16
    refine ⟨q18, e_q18, ?_⟩
    replace h := h q18 e_q18
    have t_q18 := t_z16 q18 e_q18
    refine ⟨hasA_of hW t_q18, ?_⟩
    have hin := h.1
    refine ⟨h.1, ?_⟩
    replace h := h.2
    intro S19 e_S19
    replace h := h S19 e_S19
    replace hW := WT_a hW e_S19
    refine ⟨hasO_of hW t_t0, ?_⟩
    intro z20 e_z20
    replace h := h z20 e_z20
    have t_z20 : ∀ b, z20 = some b → (b, Sum.inr (12, 0)) ∈ d := fun b hb => hW.2.1 36 _ b t_t0 (by rw [← e_z20]; exact hb)
    have n_z20 := wt_nn (f := 36) hW (by decide) t_t0 e_z20
    refine ⟨hasO_of hW t_t0, ?_⟩
    intro z21 e_z21
    replace h := h z21 e_z21
    obtain ⟨q22, e_q22⟩ := n_z20
    refine ⟨q22, e_q22, ?_⟩
    replace h := h q22 e_q22
    have t_q22 := t_z20 q22 e_q22
    refine ⟨hasA_of hW t_q22, ?_⟩
    have hin := h.1
    refine ⟨h.1, ?_⟩
    replace h := h.2
    intro S23 e_S23
    replace h := h S23 e_S23
    replace hW := WT_a hW e_S23
    refine ⟨hasO_of hW t_t0, ?_⟩
    intro z24 e_z24
    replace h := h z24 e_z24
    intro z25 e_z25
    replace h := h z25 e_z25
    refine ⟨hasO_of hW t_t0, ?_⟩
    intro S26 e_S26
    replace h := h S26 e_S26
    replace hW := WT_i hW e_S26
    exact hk _ hW h
def wT_X3_header_137 (K : kS → Prop) (x0 : Nat) (S : kS) : Prop := wT_X3_need x0 41 S (fun (S40 : kS) => K S40)
def wT_X3_header_111 (K : kS → Prop) (k111 : Nat × Int32 × kS → Prop) (x0 : Nat) (x1 : Int32) (S : kS) : Prop := ((4000 ≤ x1 → wT_X3_header_137 K x0 S) ∧ (¬ 4000 ≤ x1 → wT_X3_take x0 44 S (fun (S36 : kS) (r36 : Int32) => ((r36 = 0 → wT_X3_header_137 K x0 S36) ∧ (¬ r36 = 0 → wT_X3_givenCell x0 S36 (fun (S38 : kS) => ∀ z39 : Int32, z39 = x1 + 1 → k111 (x0, z39, S38)))))))
def lT_X3_header_111 (K : kS → Prop) (k111 : Nat × Int32 × kS → Prop) (u : Nat × Int32 × kS) : Prop := wT_X3_header_111 K k111 u.1 u.2.1 u.2.2
def wT_X3_header_91 (K : kS → Prop) (x0 : Nat) (S : kS) : Prop := wT_X3_need x0 40 S (fun (S31 : kS) => wT_X3_kind x0 S31 (fun (S32 : kS) (r32 : Int32) => ((¬ r32 = 3 → wT_X3_header_137 K x0 S32) ∧ (r32 = 3 → wT_X3_givenCell x0 S32 (fun (S34 : kS) => (∃ n9, it (lT_X3_header_111 K) n9 (x0, 0, S34)))))))
def wT_X3_header_17 (K : kS → Prop) (x0 : Nat) (S : kS) : Prop := wT_X3_step x0 S (fun (S6 : kS) => wT_X3_kind x0 S6 (fun (S7 : kS) (r7 : Int32) => ((r7 = 3 → ∀ z9 : Option Nat, z9 = S7.2.1 15 x0 → ∀ z10 : Option Nat, z10 = S7.2.1 14 x0 → ∀ q11 : Nat, z10 = some q11 → ∀ z12 : Option Nat, z12 = S7.2.1 66 q11 → ∀ z13 : Int32, z13 = S7.1 6 x0 → ∀ q14 : Nat, z12 = some q14 → inR z13 4002 ∧ ∀ z15 : Int64, z15 = S7.2.2.2.1 q14 (ix z13) → ∃ q16 : Nat, z9 = some q16 ∧ wT_X5_routineNamed q16 z15 S7 (fun (S17 : kS) (r17 : Int32) => ((r17 = (-1) → ∀ z19 : Option Nat, z19 = S17.2.1 15 x0 → ∀ z20 : Option Nat, z20 = S17.2.1 14 x0 → ∀ q21 : Nat, z20 = some q21 → ∀ z22 : Option Nat, z22 = S17.2.1 66 q21 → ∀ z23 : Int32, z23 = S17.1 6 x0 → ∀ q24 : Nat, z22 = some q24 → inR z23 4002 ∧ ∀ z25 : Int64, z25 = S17.2.2.2.1 q24 (ix z23) → ∃ q26 : Nat, z19 = some q26 ∧ wT_X5_openRoutine q26 z25 S17 (fun (S27 : kS) => wT_X3_step x0 S27 (fun (S28 : kS) => wT_X3_header_91 K x0 S28))) ∧ (¬ r17 = (-1) → wT_X3_wrong x0 3 S17 (fun (S29 : kS) => wT_X3_header_91 K x0 S29))))) ∧ (¬ r7 = 3 → wT_X3_wrong x0 1 S7 (fun (S30 : kS) => wT_X3_header_91 K x0 S30)))))
def wT_X3_header (t0 : Nat) (S : kS) (K : kS → Prop) : Prop := ∀ z1 : Option Nat, z1 = S.2.1 15 t0 → ∃ q2 : Nat, z1 = some q2 ∧ ∀ z3 : Int32, z3 = S.1 18 q2 → ((z3 < 12 → wT_X3_header_17 K t0 S) ∧ (¬ z3 < 12 → wT_X3_wrong t0 5 S (fun (S5 : kS) => wT_X3_header_17 K t0 S5)))
theorem ty_X3_header_137 {d : List (Nat × cK)} {K K' : kS → Prop} (hk : ∀ S1, WT d S1 → K S1 → K' S1) {x0 : Nat} (t_x0 : (x0, Sum.inl 3) ∈ d) {S : kS} (hW : WT d S) (h : wT_X3_header_137 K x0 S) : wp_X3_header_137 K' x0 S := by
  unfold wT_X3_header_137 at h
  unfold wp_X3_header_137
  refine ⟨hasO_of hW t_x0, ?_⟩
  refine ty_X3_need t_x0 hW (fun S40 hW h => ?_) h
  exact hk _ hW h
theorem ty_X3_header_111 {d : List (Nat × cK)} {K K' : kS → Prop} {k111 k111' : Nat × Int32 × kS → Prop} (hk : ∀ S1, WT d S1 → K S1 → K' S1) (hk111 : ∀ (x0 : Nat) (x1 : Int32), ((x0, Sum.inl 3) ∈ d) → ∀ S : kS, WT d S → k111 (x0, x1, S) → k111' (x0, x1, S)) {x0 : Nat} {x1 : Int32} (t_x0 : (x0, Sum.inl 3) ∈ d) {S : kS} (hW : WT d S) (h : wT_X3_header_111 K k111 x0 x1 S) : wp_X3_header_111 K' k111' x0 x1 S := by
  unfold wT_X3_header_111 at h
  unfold wp_X3_header_111
  refine ⟨fun c => ?_, fun c => ?_⟩
  · replace h := h.1 c
    exact ty_X3_header_137 hk t_x0 hW h
  · replace h := h.2 c
    refine ⟨hasO_of hW t_x0, ?_⟩
    refine ty_X3_take t_x0 hW (fun S36 r36 hW h => ?_) h
    refine ⟨fun c => ?_, fun c => ?_⟩
    · replace h := h.1 c
      exact ty_X3_header_137 hk t_x0 hW h
    · replace h := h.2 c
      refine ⟨hasO_of hW t_x0, ?_⟩
      refine ty_X3_givenCell t_x0 hW (fun S38 hW h => ?_) h
      intro z39 e_z39
      replace h := h z39 e_z39
      exact hk111 _ _ t_x0 _ hW h
theorem tyl_X3_header_111 {d : List (Nat × cK)} {K K' : kS → Prop} (hk : ∀ S1, WT d S1 → K S1 → K' S1) : ∀ (n : Nat) (x0 : Nat) (x1 : Int32), ((x0, Sum.inl 3) ∈ d) → ∀ S : kS, WT d S → it (lT_X3_header_111 K) n (x0, x1, S) → it (ls_X3_header_111 K') n (x0, x1, S) := by
  intro n
  induction n with
  | zero => exact fun _ _ _ _ _ h => h
  | succ n ih => exact fun x0 x1 t_x0 S hW h => ty_X3_header_111 hk ih t_x0 hW h
theorem ty_X3_header_91 {d : List (Nat × cK)} {K K' : kS → Prop} (hk : ∀ S1, WT d S1 → K S1 → K' S1) {x0 : Nat} (t_x0 : (x0, Sum.inl 3) ∈ d) {S : kS} (hW : WT d S) (h : wT_X3_header_91 K x0 S) : wp_X3_header_91 K' x0 S := by
  unfold wT_X3_header_91 at h
  unfold wp_X3_header_91
  refine ⟨hasO_of hW t_x0, ?_⟩
  refine ty_X3_need t_x0 hW (fun S31 hW h => ?_) h
  refine ⟨hasO_of hW t_x0, ?_⟩
  refine ty_X3_kind t_x0 hW (fun S32 r32 hW h => ?_) h
  refine ⟨fun c => ?_, fun c => ?_⟩
  · replace h := h.1 c
    exact ty_X3_header_137 hk t_x0 hW h
  · replace h := h.2 c
    refine ⟨hasO_of hW t_x0, ?_⟩
    refine ty_X3_givenCell t_x0 hW (fun S34 hW h => ?_) h
    obtain ⟨n9, h⟩ := h
    exact ⟨n9, tyl_X3_header_111 hk n9 _ _ t_x0 _ hW h⟩
theorem ty_X3_header_17 {d : List (Nat × cK)} {K K' : kS → Prop} (hk : ∀ S1, WT d S1 → K S1 → K' S1) {x0 : Nat} (t_x0 : (x0, Sum.inl 3) ∈ d) {S : kS} (hW : WT d S) (h : wT_X3_header_17 K x0 S) : wp_X3_header_17 K' x0 S := by
  unfold wT_X3_header_17 at h
  unfold wp_X3_header_17
  refine ⟨hasO_of hW t_x0, ?_⟩
  refine ty_X3_step t_x0 hW (fun S6 hW h => ?_) h
  refine ⟨hasO_of hW t_x0, ?_⟩
  refine ty_X3_kind t_x0 hW (fun S7 r7 hW h => ?_) h
  refine ⟨fun c => ?_, fun c => ?_⟩
  · replace h := h.1 c
    refine ⟨hasO_of hW t_x0, ?_⟩
    intro z9 e_z9
    replace h := h z9 e_z9
    have t_z9 : ∀ b, z9 = some b → (b, Sum.inl 5) ∈ d := fun b hb => hW.2.1 15 _ b t_x0 (by rw [← e_z9]; exact hb)
    refine ⟨hasO_of hW t_x0, ?_⟩
    intro z10 e_z10
    replace h := h z10 e_z10
    have t_z10 : ∀ b, z10 = some b → (b, Sum.inl 10) ∈ d := fun b hb => hW.2.1 14 _ b t_x0 (by rw [← e_z10]; exact hb)
    have n_z10 := wt_nn (f := 14) hW (by decide) t_x0 e_z10
    obtain ⟨q11, e_q11⟩ := n_z10
    refine ⟨q11, e_q11, ?_⟩
    replace h := h q11 e_q11
    have t_q11 := t_z10 q11 e_q11
    refine ⟨hasO_of hW t_q11, ?_⟩
    intro z12 e_z12
    replace h := h z12 e_z12
    have t_z12 : ∀ b, z12 = some b → (b, Sum.inr (4002, 1)) ∈ d := fun b hb => hW.2.1 66 _ b t_q11 (by rw [← e_z12]; exact hb)
    have n_z12 := wt_nn (f := 66) hW (by decide) t_q11 e_z12
    refine ⟨hasO_of hW t_x0, ?_⟩
    intro z13 e_z13
    replace h := h z13 e_z13
    obtain ⟨q14, e_q14⟩ := n_z12
    refine ⟨q14, e_q14, ?_⟩
    replace h := h q14 e_q14
    have t_q14 := t_z12 q14 e_q14
    refine ⟨hasA_of hW t_q14, ?_⟩
    have hin := h.1
    refine ⟨h.1, ?_⟩
    replace h := h.2
    intro z15 e_z15
    replace h := h z15 e_z15
    obtain ⟨q16, e_q16, h9⟩ := h
    replace h := h9
    clear h9
    refine ⟨q16, e_q16, ?_⟩
    have t_q16 := t_z9 q16 e_q16
    refine ⟨hasO_of hW t_q16, ?_⟩
    refine ty_X5_routineNamed t_q16 hW (fun S17 r17 hW h => ?_) h
    refine ⟨fun c => ?_, fun c => ?_⟩
    · replace h := h.1 c
      refine ⟨hasO_of hW t_x0, ?_⟩
      intro z19 e_z19
      replace h := h z19 e_z19
      have t_z19 : ∀ b, z19 = some b → (b, Sum.inl 5) ∈ d := fun b hb => hW.2.1 15 _ b t_x0 (by rw [← e_z19]; exact hb)
      refine ⟨hasO_of hW t_x0, ?_⟩
      intro z20 e_z20
      replace h := h z20 e_z20
      have t_z20 : ∀ b, z20 = some b → (b, Sum.inl 10) ∈ d := fun b hb => hW.2.1 14 _ b t_x0 (by rw [← e_z20]; exact hb)
      have n_z20 := wt_nn (f := 14) hW (by decide) t_x0 e_z20
      obtain ⟨q21, e_q21⟩ := n_z20
      refine ⟨q21, e_q21, ?_⟩
      replace h := h q21 e_q21
      have t_q21 := t_z20 q21 e_q21
      refine ⟨hasO_of hW t_q21, ?_⟩
      intro z22 e_z22
      replace h := h z22 e_z22
      have t_z22 : ∀ b, z22 = some b → (b, Sum.inr (4002, 1)) ∈ d := fun b hb => hW.2.1 66 _ b t_q21 (by rw [← e_z22]; exact hb)
      have n_z22 := wt_nn (f := 66) hW (by decide) t_q21 e_z22
      refine ⟨hasO_of hW t_x0, ?_⟩
      intro z23 e_z23
      replace h := h z23 e_z23
      obtain ⟨q24, e_q24⟩ := n_z22
      refine ⟨q24, e_q24, ?_⟩
      replace h := h q24 e_q24
      have t_q24 := t_z22 q24 e_q24
      refine ⟨hasA_of hW t_q24, ?_⟩
      have hin := h.1
      refine ⟨h.1, ?_⟩
      replace h := h.2
      intro z25 e_z25
      replace h := h z25 e_z25
      obtain ⟨q26, e_q26, h9⟩ := h
      replace h := h9
      clear h9
      refine ⟨q26, e_q26, ?_⟩
      have t_q26 := t_z19 q26 e_q26
      refine ⟨hasO_of hW t_q26, ?_⟩
      refine ty_X5_openRoutine t_q26 hW (fun S27 hW h => ?_) h
      refine ⟨hasO_of hW t_x0, ?_⟩
      refine ty_X3_step t_x0 hW (fun S28 hW h => ?_) h
      exact ty_X3_header_91 hk t_x0 hW h
    · replace h := h.2 c
      refine ⟨hasO_of hW t_x0, ?_⟩
      refine ty_X3_wrong t_x0 hW (fun S29 hW h => ?_) h
      exact ty_X3_header_91 hk t_x0 hW h
  · replace h := h.2 c
    refine ⟨hasO_of hW t_x0, ?_⟩
    refine ty_X3_wrong t_x0 hW (fun S30 hW h => ?_) h
    exact ty_X3_header_91 hk t_x0 hW h
theorem ty_X3_header {d : List (Nat × cK)} {t0 : Nat} (t_t0 : (t0, Sum.inl 3) ∈ d) {S : kS} {K K' : kS → Prop} (hW : WT d S) (hk : ∀ S1, WT d S1 → K S1 → K' S1) (h : wT_X3_header t0 S K) : wp_X3_header t0 S K' := by
  unfold wT_X3_header at h
  unfold wp_X3_header
  refine ⟨hasO_of hW t_t0, ?_⟩
  intro z1 e_z1
  replace h := h z1 e_z1
  have t_z1 : ∀ b, z1 = some b → (b, Sum.inl 5) ∈ d := fun b hb => hW.2.1 15 _ b t_t0 (by rw [← e_z1]; exact hb)
  obtain ⟨q2, e_q2, h9⟩ := h
  replace h := h9
  clear h9
  refine ⟨q2, e_q2, ?_⟩
  have t_q2 := t_z1 q2 e_q2
  refine ⟨hasO_of hW t_q2, ?_⟩
  intro z3 e_z3
  replace h := h z3 e_z3
  refine ⟨fun c => ?_, fun c => ?_⟩
  · replace h := h.1 c
    exact ty_X3_header_17 hk t_t0 hW h
  · replace h := h.2 c
    refine ⟨hasO_of hW t_t0, ?_⟩
    refine ty_X3_wrong t_t0 hW (fun S5 hW h => ?_) h
    exact ty_X3_header_17 hk t_t0 hW h
def wT_X7_clear (t0 : Nat) (S : kS) (K : kS → Prop) : Prop := ∀ S1 : kS, S1 = cI S 24 t0 0 → ∀ S2 : kS, S2 = cI S1 25 t0 0 → K S2
theorem ty_X7_clear {d : List (Nat × cK)} {t0 : Nat} (t_t0 : (t0, Sum.inl 7) ∈ d) {S : kS} {K K' : kS → Prop} (hW : WT d S) (hk : ∀ S1, WT d S1 → K S1 → K' S1) (h : wT_X7_clear t0 S K) : wp_X7_clear t0 S K' := by
  unfold wT_X7_clear at h
  unfold wp_X7_clear
  refine ⟨hasO_of hW t_t0, ?_⟩
  intro S1 e_S1
  replace h := h S1 e_S1
  replace hW := WT_i hW e_S1
  refine ⟨hasO_of hW t_t0, ?_⟩
  intro S2 e_S2
  replace h := h S2 e_S2
  replace hW := WT_i hW e_S2
  exact hk _ hW h
def wT_X5_clear (t0 : Nat) (S : kS) (K : kS → Prop) : Prop := ∀ S1 : kS, S1 = cI S 17 t0 0 → ∀ S2 : kS, S2 = cI S1 18 t0 0 → ∀ z3 : Option Nat, z3 = S2.2.1 31 t0 → ∀ q4 : Nat, z3 = some q4 → wT_X7_clear q4 S2 (fun (S5 : kS) => K S5)
theorem ty_X5_clear {d : List (Nat × cK)} {t0 : Nat} (t_t0 : (t0, Sum.inl 5) ∈ d) {S : kS} {K K' : kS → Prop} (hW : WT d S) (hk : ∀ S1, WT d S1 → K S1 → K' S1) (h : wT_X5_clear t0 S K) : wp_X5_clear t0 S K' := by
  unfold wT_X5_clear at h
  unfold wp_X5_clear
  refine ⟨hasO_of hW t_t0, ?_⟩
  intro S1 e_S1
  replace h := h S1 e_S1
  replace hW := WT_i hW e_S1
  refine ⟨hasO_of hW t_t0, ?_⟩
  intro S2 e_S2
  replace h := h S2 e_S2
  replace hW := WT_i hW e_S2
  refine ⟨hasO_of hW t_t0, ?_⟩
  intro z3 e_z3
  replace h := h z3 e_z3
  have t_z3 : ∀ b, z3 = some b → (b, Sum.inl 7) ∈ d := fun b hb => hW.2.1 31 _ b t_t0 (by rw [← e_z3]; exact hb)
  have n_z3 := wt_nn (f := 31) hW (by decide) t_t0 e_z3
  obtain ⟨q4, e_q4⟩ := n_z3
  refine ⟨q4, e_q4, ?_⟩
  replace h := h q4 e_q4
  have t_q4 := t_z3 q4 e_q4
  refine ⟨hasO_of hW t_q4, ?_⟩
  refine ty_X7_clear t_q4 hW (fun S5 hW h => ?_) h
  exact hk _ hW h
def wT_X5_closeRoutine (t0 : Nat) (S : kS) (K : kS → Prop) : Prop := ∀ z1 : Int32, z1 = S.1 18 t0 → ((z1 ≤ 0 → K S) ∧ (¬ z1 ≤ 0 → ∀ z3 : Option Nat, z3 = S.2.1 33 t0 → ∀ z4 : Int32, z4 = S.1 18 t0 → ∀ z5 : Int32, z5 = z4 - 1 → wT_X5_emit t0 24 0 (-1) S (fun (S6 : kS) (r6 : Int32) => ∀ q7 : Nat, z3 = some q7 → inR z5 12 ∧ ∀ S8 : kS, S8 = cA S6 q7 (ix z5) r6 → K S8)))
theorem ty_X5_closeRoutine {d : List (Nat × cK)} {t0 : Nat} (t_t0 : (t0, Sum.inl 5) ∈ d) {S : kS} {K K' : kS → Prop} (hW : WT d S) (hk : ∀ S1, WT d S1 → K S1 → K' S1) (h : wT_X5_closeRoutine t0 S K) : wp_X5_closeRoutine t0 S K' := by
  unfold wT_X5_closeRoutine at h
  unfold wp_X5_closeRoutine
  refine ⟨hasO_of hW t_t0, ?_⟩
  intro z1 e_z1
  replace h := h z1 e_z1
  refine ⟨fun c => ?_, fun c => ?_⟩
  · replace h := h.1 c
    exact hk _ hW h
  · replace h := h.2 c
    refine ⟨hasO_of hW t_t0, ?_⟩
    intro z3 e_z3
    replace h := h z3 e_z3
    have t_z3 : ∀ b, z3 = some b → (b, Sum.inr (12, 0)) ∈ d := fun b hb => hW.2.1 33 _ b t_t0 (by rw [← e_z3]; exact hb)
    have n_z3 := wt_nn (f := 33) hW (by decide) t_t0 e_z3
    refine ⟨hasO_of hW t_t0, ?_⟩
    intro z4 e_z4
    replace h := h z4 e_z4
    intro z5 e_z5
    replace h := h z5 e_z5
    refine ⟨hasO_of hW t_t0, ?_⟩
    refine ty_X5_emit t_t0 hW (fun S6 r6 hW h => ?_) h
    obtain ⟨q7, e_q7⟩ := n_z3
    refine ⟨q7, e_q7, ?_⟩
    replace h := h q7 e_q7
    have t_q7 := t_z3 q7 e_q7
    refine ⟨hasA_of hW t_q7, ?_⟩
    have hin := h.1
    refine ⟨h.1, ?_⟩
    replace h := h.2
    intro S8 e_S8
    replace h := h S8 e_S8
    replace hW := WT_a hW e_S8
    exact hk _ hW h
def wT_X3_read_105 (K : kS → Int32 → Prop) (x0 : Nat) (S : kS) : Prop := wT_X3_findChildren x0 S (fun (S27 : kS) => ∀ z28 : Int32, z28 = S27.1 7 x0 → K S27 z28)
def wT_X3_read_93 (K : kS → Int32 → Prop) (x0 : Nat) (S : kS) : Prop := wT_X3_kind x0 S (fun (S24 : kS) (r24 : Int32) => ((r24 = 0 → wT_X3_read_105 K x0 S24) ∧ (¬ r24 = 0 → wT_X3_wrong x0 1 S24 (fun (S26 : kS) => wT_X3_read_105 K x0 S26))))
def wT_X3_read_55 (K : kS → Int32 → Prop) (k55 : Nat × Int32 × kS → Prop) (x0 : Nat) (x2 : Int32) (S : kS) : Prop := ((12 < x2 → wT_X3_read_93 K x0 S) ∧ (¬ 12 < x2 → wT_X3_kind x0 S (fun (S16 : kS) (r16 : Int32) => ((¬ r16 = 200 → wT_X3_read_93 K x0 S16) ∧ (r16 = 200 → wT_X3_header x0 S16 (fun (S18 : kS) => wU_X3_block x0 0 S18 (fun (S19 : kS) => ∀ z20 : Option Nat, z20 = S19.2.1 15 x0 → ∃ q21 : Nat, z20 = some q21 ∧ wT_X5_closeRoutine q21 S19 (fun (S22 : kS) => ∀ z23 : Int32, z23 = x2 + 1 → k55 (x0, z23, S22)))))))))
def lT_X3_read_55 (K : kS → Int32 → Prop) (k55 : Nat × Int32 × kS → Prop) (u : Nat × Int32 × kS) : Prop := wT_X3_read_55 K k55 u.1 u.2.1 u.2.2
def wT_X3_read (t0 : Nat) (a0 : Nat) (S : kS) (K : kS → Int32 → Prop) : Prop := ∀ S1 : kS, S1 = cR S 15 t0 (some a0) → ∀ z2 : Option Nat, z2 = S1.2.1 15 t0 → ∃ q3 : Nat, z2 = some q3 ∧ wT_X5_clear q3 S1 (fun (S4 : kS) => ∀ z5 : Option Nat, z5 = S4.2.1 15 t0 → ∃ q6 : Nat, z5 = some q6 ∧ ∀ z7 : Option Nat, z7 = S4.2.1 31 q6 → ∀ S8 : kS, S8 = cR S4 16 t0 z7 → ∀ S9 : kS, S9 = cI S8 6 t0 0 → ∀ S10 : kS, S10 = cI S9 7 t0 0 → ∀ S11 : kS, S11 = cI S10 8 t0 (-1) → ∀ S12 : kS, S12 = cI S11 9 t0 (-1) → ∀ S13 : kS, S13 = cI S12 10 t0 0 → ∀ S14 : kS, S14 = cI S13 11 t0 0 → (∃ n9, it (lT_X3_read_55 K) n9 (t0, 0, S14)))
theorem ty_X3_read_105 {d : List (Nat × cK)} {K K' : kS → Int32 → Prop} (hk : ∀ S1 r1, WT d S1 → K S1 r1 → K' S1 r1) {x0 : Nat} (t_x0 : (x0, Sum.inl 3) ∈ d) {S : kS} (hW : WT d S) (h : wT_X3_read_105 K x0 S) : wp_X3_read_105 K' x0 S := by
  unfold wT_X3_read_105 at h
  unfold wp_X3_read_105
  refine ⟨hasO_of hW t_x0, ?_⟩
  refine ty_X3_findChildren t_x0 hW (fun S27 hW h => ?_) h
  refine ⟨hasO_of hW t_x0, ?_⟩
  intro z28 e_z28
  replace h := h z28 e_z28
  exact hk _ _ hW h
theorem ty_X3_read_93 {d : List (Nat × cK)} {K K' : kS → Int32 → Prop} (hk : ∀ S1 r1, WT d S1 → K S1 r1 → K' S1 r1) {x0 : Nat} (t_x0 : (x0, Sum.inl 3) ∈ d) {S : kS} (hW : WT d S) (h : wT_X3_read_93 K x0 S) : wp_X3_read_93 K' x0 S := by
  unfold wT_X3_read_93 at h
  unfold wp_X3_read_93
  refine ⟨hasO_of hW t_x0, ?_⟩
  refine ty_X3_kind t_x0 hW (fun S24 r24 hW h => ?_) h
  refine ⟨fun c => ?_, fun c => ?_⟩
  · replace h := h.1 c
    exact ty_X3_read_105 hk t_x0 hW h
  · replace h := h.2 c
    refine ⟨hasO_of hW t_x0, ?_⟩
    refine ty_X3_wrong t_x0 hW (fun S26 hW h => ?_) h
    exact ty_X3_read_105 hk t_x0 hW h
theorem ty_X3_read_55 {d : List (Nat × cK)} {K K' : kS → Int32 → Prop} {k55 k55' : Nat × Int32 × kS → Prop} (hk : ∀ S1 r1, WT d S1 → K S1 r1 → K' S1 r1) (hk55 : ∀ (x0 : Nat) (x2 : Int32), ((x0, Sum.inl 3) ∈ d) → ∀ S : kS, WT d S → k55 (x0, x2, S) → k55' (x0, x2, S)) {x0 : Nat} {x2 : Int32} (t_x0 : (x0, Sum.inl 3) ∈ d) {S : kS} (hW : WT d S) (h : wT_X3_read_55 K k55 x0 x2 S) : wp_X3_read_55 K' k55' x0 x2 S := by
  unfold wT_X3_read_55 at h
  unfold wp_X3_read_55
  refine ⟨fun c => ?_, fun c => ?_⟩
  · replace h := h.1 c
    exact ty_X3_read_93 hk t_x0 hW h
  · replace h := h.2 c
    refine ⟨hasO_of hW t_x0, ?_⟩
    refine ty_X3_kind t_x0 hW (fun S16 r16 hW h => ?_) h
    refine ⟨fun c => ?_, fun c => ?_⟩
    · replace h := h.1 c
      exact ty_X3_read_93 hk t_x0 hW h
    · replace h := h.2 c
      refine ⟨hasO_of hW t_x0, ?_⟩
      refine ty_X3_header t_x0 hW (fun S18 hW h => ?_) h
      refine ⟨hasO_of hW t_x0, ?_⟩
      refine tq_X3_block t_x0 hW (fun S19 hW h => ?_) h
      refine ⟨hasO_of hW t_x0, ?_⟩
      intro z20 e_z20
      replace h := h z20 e_z20
      have t_z20 : ∀ b, z20 = some b → (b, Sum.inl 5) ∈ d := fun b hb => hW.2.1 15 _ b t_x0 (by rw [← e_z20]; exact hb)
      obtain ⟨q21, e_q21, h9⟩ := h
      replace h := h9
      clear h9
      refine ⟨q21, e_q21, ?_⟩
      have t_q21 := t_z20 q21 e_q21
      refine ⟨hasO_of hW t_q21, ?_⟩
      refine ty_X5_closeRoutine t_q21 hW (fun S22 hW h => ?_) h
      intro z23 e_z23
      replace h := h z23 e_z23
      exact hk55 _ _ t_x0 _ hW h
theorem tyl_X3_read_55 {d : List (Nat × cK)} {K K' : kS → Int32 → Prop} (hk : ∀ S1 r1, WT d S1 → K S1 r1 → K' S1 r1) : ∀ (n : Nat) (x0 : Nat) (x2 : Int32), ((x0, Sum.inl 3) ∈ d) → ∀ S : kS, WT d S → it (lT_X3_read_55 K) n (x0, x2, S) → it (ls_X3_read_55 K') n (x0, x2, S) := by
  intro n
  induction n with
  | zero => exact fun _ _ _ _ _ h => h
  | succ n ih => exact fun x0 x2 t_x0 S hW h => ty_X3_read_55 hk ih t_x0 hW h
theorem ty_X3_read {d : List (Nat × cK)} {t0 : Nat} {a0 : Nat} (t_t0 : (t0, Sum.inl 3) ∈ d) (t_a0 : (a0, Sum.inl 5) ∈ d) {S : kS} {K K' : kS → Int32 → Prop} (hW : WT d S) (hk : ∀ S1 r1, WT d S1 → K S1 r1 → K' S1 r1) (h : wT_X3_read t0 a0 S K) : wp_X3_read t0 a0 S K' := by
  unfold wT_X3_read at h
  unfold wp_X3_read
  refine ⟨hasO_of hW t_t0, ?_⟩
  intro S1 e_S1
  replace h := h S1 e_S1
  replace hW := WT_r hW e_S1 (fun b hb => by cases hb; exact t_a0) (by decide)
  refine ⟨hasO_of hW t_t0, ?_⟩
  intro z2 e_z2
  replace h := h z2 e_z2
  have t_z2 : ∀ b, z2 = some b → (b, Sum.inl 5) ∈ d := fun b hb => hW.2.1 15 _ b t_t0 (by rw [← e_z2]; exact hb)
  obtain ⟨q3, e_q3, h9⟩ := h
  replace h := h9
  clear h9
  refine ⟨q3, e_q3, ?_⟩
  have t_q3 := t_z2 q3 e_q3
  refine ⟨hasO_of hW t_q3, ?_⟩
  refine ty_X5_clear t_q3 hW (fun S4 hW h => ?_) h
  refine ⟨hasO_of hW t_t0, ?_⟩
  intro z5 e_z5
  replace h := h z5 e_z5
  have t_z5 : ∀ b, z5 = some b → (b, Sum.inl 5) ∈ d := fun b hb => hW.2.1 15 _ b t_t0 (by rw [← e_z5]; exact hb)
  obtain ⟨q6, e_q6, h9⟩ := h
  replace h := h9
  clear h9
  refine ⟨q6, e_q6, ?_⟩
  have t_q6 := t_z5 q6 e_q6
  refine ⟨hasO_of hW t_q6, ?_⟩
  intro z7 e_z7
  replace h := h z7 e_z7
  have t_z7 : ∀ b, z7 = some b → (b, Sum.inl 7) ∈ d := fun b hb => hW.2.1 31 _ b t_q6 (by rw [← e_z7]; exact hb)
  have n_z7 := wt_nn (f := 31) hW (by decide) t_q6 e_z7
  refine ⟨hasO_of hW t_t0, ?_⟩
  intro S8 e_S8
  replace h := h S8 e_S8
  replace hW := WT_r hW e_S8 t_z7 (by decide)
  refine ⟨hasO_of hW t_t0, ?_⟩
  intro S9 e_S9
  replace h := h S9 e_S9
  replace hW := WT_i hW e_S9
  refine ⟨hasO_of hW t_t0, ?_⟩
  intro S10 e_S10
  replace h := h S10 e_S10
  replace hW := WT_i hW e_S10
  refine ⟨hasO_of hW t_t0, ?_⟩
  intro S11 e_S11
  replace h := h S11 e_S11
  replace hW := WT_i hW e_S11
  refine ⟨hasO_of hW t_t0, ?_⟩
  intro S12 e_S12
  replace h := h S12 e_S12
  replace hW := WT_i hW e_S12
  refine ⟨hasO_of hW t_t0, ?_⟩
  intro S13 e_S13
  replace h := h S13 e_S13
  replace hW := WT_i hW e_S13
  refine ⟨hasO_of hW t_t0, ?_⟩
  intro S14 e_S14
  replace h := h S14 e_S14
  replace hW := WT_i hW e_S14
  obtain ⟨n9, h⟩ := h
  exact ⟨n9, tyl_X3_read_55 hk n9 _ _ t_t0 _ hW h⟩
def wT_X5_isStep (a0 : Int32) (S : kS) (K : kS → Int32 → Prop) : Prop := ∀ z1 : Int64, z1 = (Int64.toUInt64 7180648479 >>> ((Int32.toInt64 a0).toUInt64 &&& Int64.toUInt64 63)).toInt64 → ∀ z2 : Int64, z2 = z1 &&& 1 → ∀ z3 : Int32, z3 = lg_cmp z2 0 → ((z3 = 0 → K S 0) ∧ (¬ z3 = 0 → K S 1))
theorem ty_X5_isStep {d : List (Nat × cK)} {a0 : Int32} {S : kS} {K K' : kS → Int32 → Prop} (hW : WT d S) (hk : ∀ S1 r1, WT d S1 → K S1 r1 → K' S1 r1) (h : wT_X5_isStep a0 S K) : wp_X5_isStep a0 S K' := by
  unfold wT_X5_isStep at h
  unfold wp_X5_isStep
  intro z1 e_z1
  replace h := h z1 e_z1
  intro z2 e_z2
  replace h := h z2 e_z2
  intro z3 e_z3
  replace h := h z3 e_z3
  refine ⟨fun c => ?_, fun c => ?_⟩
  · replace h := h.1 c
    exact hk _ _ hW h
  · replace h := h.2 c
    exact hk _ _ hW h
def wT_X5_scopeAt (t0 : Nat) (a0 : Int32) (S : kS) (K : kS → Int32 → Prop) : Prop := ((a0 < 0 → K S (-1)) ∧ (¬ a0 < 0 → ∀ z2 : Int32, z2 = S.1 17 t0 → ((z2 ≤ a0 → K S (-1)) ∧ (¬ z2 ≤ a0 → ∀ z4 : Option Nat, z4 = S.2.1 30 t0 → ∀ q5 : Nat, z4 = some q5 → inR a0 8064 ∧ ∀ z6 : Int32, z6 = S.2.2.1 q5 (ix a0) → K S z6))))
theorem ty_X5_scopeAt {d : List (Nat × cK)} {t0 : Nat} {a0 : Int32} (t_t0 : (t0, Sum.inl 5) ∈ d) {S : kS} {K K' : kS → Int32 → Prop} (hW : WT d S) (hk : ∀ S1 r1, WT d S1 → K S1 r1 → K' S1 r1) (h : wT_X5_scopeAt t0 a0 S K) : wp_X5_scopeAt t0 a0 S K' := by
  unfold wT_X5_scopeAt at h
  unfold wp_X5_scopeAt
  refine ⟨fun c => ?_, fun c => ?_⟩
  · replace h := h.1 c
    exact hk _ _ hW h
  · replace h := h.2 c
    refine ⟨hasO_of hW t_t0, ?_⟩
    intro z2 e_z2
    replace h := h z2 e_z2
    refine ⟨fun c => ?_, fun c => ?_⟩
    · replace h := h.1 c
      exact hk _ _ hW h
    · replace h := h.2 c
      refine ⟨hasO_of hW t_t0, ?_⟩
      intro z4 e_z4
      replace h := h z4 e_z4
      have t_z4 : ∀ b, z4 = some b → (b, Sum.inr (8064, 0)) ∈ d := fun b hb => hW.2.1 30 _ b t_t0 (by rw [← e_z4]; exact hb)
      have n_z4 := wt_nn (f := 30) hW (by decide) t_t0 e_z4
      obtain ⟨q5, e_q5⟩ := n_z4
      refine ⟨q5, e_q5, ?_⟩
      replace h := h q5 e_q5
      have t_q5 := t_z4 q5 e_q5
      refine ⟨hasA_of hW t_q5, ?_⟩
      have hin := h.1
      refine ⟨h.1, ?_⟩
      replace h := h.2
      intro z6 e_z6
      replace h := h z6 e_z6
      exact hk _ _ hW h
def wT_X6_tellAbout (t0 : Nat) (a0 : Nat) (S : kS) (K : kS → Prop) : Prop := ∀ z1 : Option Nat, z1 = S.2.1 23 a0 → ((z1 = none → K S) ∧ (∀ q2 : Nat, z1 = some q2 → ∀ z3 : Int32, z3 = S.1 13 q2 → ((¬ z3 = 0 → K S) ∧ (z3 = 0 → ∀ z5 : Int32, z5 = S.1 13 a0 → ∀ z6 : Int32, z6 = S.1 14 a0 → wT_X4_hears q2 z5 z6 S (fun (S7 : kS) (r7 : Int32) => K S7)))))
theorem ty_X6_tellAbout {d : List (Nat × cK)} {t0 : Nat} {a0 : Nat} (t_t0 : (t0, Sum.inl 6) ∈ d) (t_a0 : (a0, Sum.inl 4) ∈ d) {S : kS} {K K' : kS → Prop} (hW : WT d S) (hk : ∀ S1, WT d S1 → K S1 → K' S1) (h : wT_X6_tellAbout t0 a0 S K) : wp_X6_tellAbout t0 a0 S K' := by
  unfold wT_X6_tellAbout at h
  unfold wp_X6_tellAbout
  refine ⟨hasO_of hW t_a0, ?_⟩
  intro z1 e_z1
  replace h := h z1 e_z1
  have t_z1 : ∀ b, z1 = some b → (b, Sum.inl 4) ∈ d := fun b hb => hW.2.1 23 _ b t_a0 (by rw [← e_z1]; exact hb)
  refine ⟨fun c => ?_, fun q2 c => ?_⟩
  · replace h := h.1 c
    exact hk _ hW h
  · replace h := h.2 q2 c
    have t_q2 := t_z1 q2 c
    refine ⟨hasO_of hW t_q2, ?_⟩
    intro z3 e_z3
    replace h := h z3 e_z3
    refine ⟨fun c => ?_, fun c => ?_⟩
    · replace h := h.1 c
      exact hk _ hW h
    · replace h := h.2 c
      refine ⟨hasO_of hW t_a0, ?_⟩
      intro z5 e_z5
      replace h := h z5 e_z5
      refine ⟨hasO_of hW t_a0, ?_⟩
      intro z6 e_z6
      replace h := h z6 e_z6
      refine ⟨hasO_of hW t_q2, ?_⟩
      refine ty_X4_hears t_q2 hW (fun S7 r7 hW h => ?_) h
      exact hk _ hW h
def wT_X6_closePart_67 (K : kS → Prop) (x0 : Nat) (x2 : Nat) (S : kS) : Prop := ∀ z17 : Int32, z17 = S.1 13 x2 → ((z17 = 0 → K S) ∧ (¬ z17 = 0 → wT_X6_tellAbout x0 x2 S (fun (S19 : kS) => K S19)))
def wT_X6_closePart (t0 : Nat) (a0 : Nat) (S : kS) (K : kS → Prop) : Prop := ∀ z1 : Option Nat, z1 = S.2.1 63 a0 → ((z1 = none → K S) ∧ (∀ q2 : Nat, z1 = some q2 → ∀ z3 : Option Nat, z3 = S.2.1 23 q2 → ∀ S4 : kS, S4 = cR S 63 a0 z3 → ∀ z5 : Int32, z5 = S4.1 12 q2 → ((¬ z5 = 6 → wT_X6_closePart_67 K t0 q2 S4) ∧ (z5 = 6 → ∀ z7 : Int32, z7 = S4.1 13 q2 → ((¬ z7 = 0 → wT_X6_closePart_67 K t0 q2 S4) ∧ (z7 = 0 → ∀ z9 : Int32, z9 = S4.1 15 q2 → ((z9 ≤ 0 → ∀ S11 : kS, S11 = cI S4 13 q2 2 → ∀ S12 : kS, S12 = cI S11 14 q2 21 → wT_X6_closePart_67 K t0 q2 S12) ∧ (¬ z9 ≤ 0 → ∀ z13 : Option Nat, z13 = S4.2.1 41 t0 → ∀ z14 : Int32, z14 = S4.1 15 q2 → ∀ q15 : Nat, z13 = some q15 → wT_X1_setAlarm q15 q2 z14 S4 (fun (S16 : kS) => wT_X6_closePart_67 K t0 q2 S16)))))))))
theorem ty_X6_closePart_67 {d : List (Nat × cK)} {K K' : kS → Prop} (hk : ∀ S1, WT d S1 → K S1 → K' S1) {x0 : Nat} {x2 : Nat} (t_x0 : (x0, Sum.inl 6) ∈ d) (t_x2 : (x2, Sum.inl 4) ∈ d) {S : kS} (hW : WT d S) (h : wT_X6_closePart_67 K x0 x2 S) : wp_X6_closePart_67 K' x0 x2 S := by
  unfold wT_X6_closePart_67 at h
  unfold wp_X6_closePart_67
  refine ⟨hasO_of hW t_x2, ?_⟩
  intro z17 e_z17
  replace h := h z17 e_z17
  refine ⟨fun c => ?_, fun c => ?_⟩
  · replace h := h.1 c
    exact hk _ hW h
  · replace h := h.2 c
    refine ⟨hasO_of hW t_x0, ?_⟩
    refine ty_X6_tellAbout t_x0 t_x2 hW (fun S19 hW h => ?_) h
    exact hk _ hW h
theorem ty_X6_closePart {d : List (Nat × cK)} {t0 : Nat} {a0 : Nat} (t_t0 : (t0, Sum.inl 6) ∈ d) (t_a0 : (a0, Sum.inl 9) ∈ d) {S : kS} {K K' : kS → Prop} (hW : WT d S) (hk : ∀ S1, WT d S1 → K S1 → K' S1) (h : wT_X6_closePart t0 a0 S K) : wp_X6_closePart t0 a0 S K' := by
  unfold wT_X6_closePart at h
  unfold wp_X6_closePart
  refine ⟨hasO_of hW t_a0, ?_⟩
  intro z1 e_z1
  replace h := h z1 e_z1
  have t_z1 : ∀ b, z1 = some b → (b, Sum.inl 4) ∈ d := fun b hb => hW.2.1 63 _ b t_a0 (by rw [← e_z1]; exact hb)
  refine ⟨fun c => ?_, fun q2 c => ?_⟩
  · replace h := h.1 c
    exact hk _ hW h
  · replace h := h.2 q2 c
    have t_q2 := t_z1 q2 c
    refine ⟨hasO_of hW t_q2, ?_⟩
    intro z3 e_z3
    replace h := h z3 e_z3
    have t_z3 : ∀ b, z3 = some b → (b, Sum.inl 4) ∈ d := fun b hb => hW.2.1 23 _ b t_q2 (by rw [← e_z3]; exact hb)
    refine ⟨hasO_of hW t_a0, ?_⟩
    intro S4 e_S4
    replace h := h S4 e_S4
    replace hW := WT_r hW e_S4 t_z3 (by decide)
    refine ⟨hasO_of hW t_q2, ?_⟩
    intro z5 e_z5
    replace h := h z5 e_z5
    refine ⟨fun c => ?_, fun c => ?_⟩
    · replace h := h.1 c
      exact ty_X6_closePart_67 hk t_t0 t_q2 hW h
    · replace h := h.2 c
      refine ⟨hasO_of hW t_q2, ?_⟩
      intro z7 e_z7
      replace h := h z7 e_z7
      refine ⟨fun c => ?_, fun c => ?_⟩
      · replace h := h.1 c
        exact ty_X6_closePart_67 hk t_t0 t_q2 hW h
      · replace h := h.2 c
        refine ⟨hasO_of hW t_q2, ?_⟩
        intro z9 e_z9
        replace h := h z9 e_z9
        refine ⟨fun c => ?_, fun c => ?_⟩
        · replace h := h.1 c
          refine ⟨hasO_of hW t_q2, ?_⟩
          intro S11 e_S11
          replace h := h S11 e_S11
          replace hW := WT_i hW e_S11
          refine ⟨hasO_of hW t_q2, ?_⟩
          intro S12 e_S12
          replace h := h S12 e_S12
          replace hW := WT_i hW e_S12
          exact ty_X6_closePart_67 hk t_t0 t_q2 hW h
        · replace h := h.2 c
          refine ⟨hasO_of hW t_t0, ?_⟩
          intro z13 e_z13
          replace h := h z13 e_z13
          have t_z13 : ∀ b, z13 = some b → (b, Sum.inl 1) ∈ d := fun b hb => hW.2.1 41 _ b t_t0 (by rw [← e_z13]; exact hb)
          have n_z13 := wt_nn (f := 41) hW (by decide) t_t0 e_z13
          refine ⟨hasO_of hW t_q2, ?_⟩
          intro z14 e_z14
          replace h := h z14 e_z14
          obtain ⟨q15, e_q15⟩ := n_z13
          refine ⟨q15, e_q15, ?_⟩
          replace h := h q15 e_q15
          have t_q15 := t_z13 q15 e_q15
          refine ⟨hasO_of hW t_q15, ?_⟩
          refine ty_X1_setAlarm t_q15 t_q2 hW (fun S16 hW h => ?_) h
          exact ty_X6_closePart_67 hk t_t0 t_q2 hW h
def wT_X6_come (t0 : Nat) (a0 : Nat) (a1 : Int32) (S : kS) (K : kS → Prop) : Prop := ∀ S1 : kS, S1 = cI S 13 a0 1 → ∀ S2 : kS, S2 = cI S1 14 a0 a1 → wT_X6_tellAbout t0 a0 S2 (fun (S3 : kS) => K S3)
theorem ty_X6_come {d : List (Nat × cK)} {t0 : Nat} {a0 : Nat} {a1 : Int32} (t_t0 : (t0, Sum.inl 6) ∈ d) (t_a0 : (a0, Sum.inl 4) ∈ d) {S : kS} {K K' : kS → Prop} (hW : WT d S) (hk : ∀ S1, WT d S1 → K S1 → K' S1) (h : wT_X6_come t0 a0 a1 S K) : wp_X6_come t0 a0 a1 S K' := by
  unfold wT_X6_come at h
  unfold wp_X6_come
  refine ⟨hasO_of hW t_a0, ?_⟩
  intro S1 e_S1
  replace h := h S1 e_S1
  replace hW := WT_i hW e_S1
  refine ⟨hasO_of hW t_a0, ?_⟩
  intro S2 e_S2
  replace h := h S2 e_S2
  replace hW := WT_i hW e_S2
  refine ⟨hasO_of hW t_t0, ?_⟩
  refine ty_X6_tellAbout t_t0 t_a0 hW (fun S3 hW h => ?_) h
  exact hk _ hW h
def wT_X6_end (t0 : Nat) (a0 : Nat) (a1 : Int32) (a2 : Int32) (S : kS) (K : kS → Prop) : Prop := ∀ S1 : kS, S1 = cI S 31 a0 a1 → ∀ S2 : kS, S2 = cI S1 32 a0 a2 → ∀ S3 : kS, S3 = cI S2 22 t0 3 → K S3
theorem ty_X6_end {d : List (Nat × cK)} {t0 : Nat} {a0 : Nat} {a1 : Int32} {a2 : Int32} (t_t0 : (t0, Sum.inl 6) ∈ d) (t_a0 : (a0, Sum.inl 9) ∈ d) {S : kS} {K K' : kS → Prop} (hW : WT d S) (hk : ∀ S1, WT d S1 → K S1 → K' S1) (h : wT_X6_end t0 a0 a1 a2 S K) : wp_X6_end t0 a0 a1 a2 S K' := by
  unfold wT_X6_end at h
  unfold wp_X6_end
  refine ⟨hasO_of hW t_a0, ?_⟩
  intro S1 e_S1
  replace h := h S1 e_S1
  replace hW := WT_i hW e_S1
  refine ⟨hasO_of hW t_a0, ?_⟩
  intro S2 e_S2
  replace h := h S2 e_S2
  replace hW := WT_i hW e_S2
  refine ⟨hasO_of hW t_t0, ?_⟩
  intro S3 e_S3
  replace h := h S3 e_S3
  replace hW := WT_i hW e_S3
  exact hk _ hW h
