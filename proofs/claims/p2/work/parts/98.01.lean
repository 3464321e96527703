
def wT_X1_turnRound_9 (K : kS → Prop) (k9 : Nat × Int32 × Int32 × kS → Prop) (x0 : Nat) (x2 : Int32) (x3 : Int32) (S : kS) : Prop := ((x3 ≤ x2 → K S) ∧ (¬ x3 ≤ x2 → ∀ z4 : Option Nat, z4 = S.2.1 10 x0 → ∀ q5 : Nat, z4 = some q5 → inR x2 416 ∧ ∀ z6 : Int32, z6 = S.2.2.1 q5 (ix x2) → ∀ z7 : Option Nat, z7 = S.2.1 10 x0 → ∀ z8 : Option Nat, z8 = S.2.1 10 x0 → ∀ q9 : Nat, z8 = some q9 → inR x3 416 ∧ ∀ z10 : Int32, z10 = S.2.2.1 q9 (ix x3) → ∀ q11 : Nat, z7 = some q11 → inR x2 416 ∧ ∀ S12 : kS, S12 = cA S q11 (ix x2) z10 → ∀ z13 : Option Nat, z13 = S12.2.1 10 x0 → ∀ q14 : Nat, z13 = some q14 → inR x3 416 ∧ ∀ S15 : kS, S15 = cA S12 q14 (ix x3) z6 → ∀ z16 : Int32, z16 = x2 + 1 → ∀ z17 : Int32, z17 = x3 + (-1) → k9 (x0, z16, z17, S15)))
def lT_X1_turnRound_9 (K : kS → Prop) (k9 : Nat × Int32 × Int32 × kS → Prop) (u : Nat × Int32 × Int32 × kS) : Prop := wT_X1_turnRound_9 K k9 u.1 u.2.1 u.2.2.1 u.2.2.2
def wT_X1_turnRound (t0 : Nat) (a0 : Int32) (S : kS) (K : kS → Prop) : Prop := ∀ z1 : Int32, z1 = S.1 5 t0 → ∀ z2 : Int32, z2 = z1 - 1 → (∃ n9, it (lT_X1_turnRound_9 K) n9 (t0, a0, z2, S))
theorem ty_X1_turnRound_9 {d : List (Nat × cK)} {K K' : kS → Prop} {k9 k9' : Nat × Int32 × Int32 × kS → Prop} (hk : ∀ S1, WT d S1 → K S1 → K' S1) (hk9 : ∀ (x0 : Nat) (x2 : Int32) (x3 : Int32), ((x0, Sum.inl 1) ∈ d) → ∀ S : kS, WT d S → k9 (x0, x2, x3, S) → k9' (x0, x2, x3, S)) {x0 : Nat} {x2 : Int32} {x3 : Int32} (t_x0 : (x0, Sum.inl 1) ∈ d) {S : kS} (hW : WT d S) (h : wT_X1_turnRound_9 K k9 x0 x2 x3 S) : wp_X1_turnRound_9 K' k9' x0 x2 x3 S := by
  unfold wT_X1_turnRound_9 at h
  unfold wp_X1_turnRound_9
  refine ⟨fun c => ?_, fun c => ?_⟩
  · replace h := h.1 c
    exact hk _ hW h
  · replace h := h.2 c
    refine ⟨hasO_of hW t_x0, ?_⟩
    intro z4 e_z4
    replace h := h z4 e_z4
    have t_z4 : ∀ b, z4 = some b → (b, Sum.inr (416, 0)) ∈ d := fun b hb => hW.2.1 10 _ b t_x0 (by rw [← e_z4]; exact hb)
    have n_z4 := wt_nn (f := 10) hW (by decide) t_x0 e_z4
    obtain ⟨q5, e_q5⟩ := n_z4
    refine ⟨q5, e_q5, ?_⟩
    replace h := h q5 e_q5
    have t_q5 := t_z4 q5 e_q5
    refine ⟨hasA_of hW t_q5, ?_⟩
    have hin := h.1
    refine ⟨h.1, ?_⟩
    replace h := h.2
    intro z6 e_z6
    replace h := h z6 e_z6
    refine ⟨hasO_of hW t_x0, ?_⟩
    intro z7 e_z7
    replace h := h z7 e_z7
    have t_z7 : ∀ b, z7 = some b → (b, Sum.inr (416, 0)) ∈ d := fun b hb => hW.2.1 10 _ b t_x0 (by rw [← e_z7]; exact hb)
    have n_z7 := wt_nn (f := 10) hW (by decide) t_x0 e_z7
    refine ⟨hasO_of hW t_x0, ?_⟩
    intro z8 e_z8
    replace h := h z8 e_z8
    have t_z8 : ∀ b, z8 = some b → (b, Sum.inr (416, 0)) ∈ d := fun b hb => hW.2.1 10 _ b t_x0 (by rw [← e_z8]; exact hb)
    have n_z8 := wt_nn (f := 10) hW (by decide) t_x0 e_z8
    obtain ⟨q9, e_q9⟩ := n_z8
    refine ⟨q9, e_q9, ?_⟩
    replace h := h q9 e_q9
    have t_q9 := t_z8 q9 e_q9
    refine ⟨hasA_of hW t_q9, ?_⟩
    have hin := h.1
    refine ⟨h.1, ?_⟩
    replace h := h.2
    intro z10 e_z10
    replace h := h z10 e_z10
    obtain ⟨q11, e_q11⟩ := n_z7
    refine ⟨q11, e_q11, ?_⟩
    replace h := h q11 e_q11
    have t_q11 := t_z7 q11 e_q11
    refine ⟨hasA_of hW t_q11, ?_⟩
    have hin := h.1
    refine ⟨h.1, ?_⟩
    replace h := h.2
    intro S12 e_S12
    replace h := h S12 e_S12
    replace hW := WT_a hW e_S12
    refine ⟨hasO_of hW t_x0, ?_⟩
    intro z13 e_z13
    replace h := h z13 e_z13
    have t_z13 : ∀ b, z13 = some b → (b, Sum.inr (416, 0)) ∈ d := fun b hb => hW.2.1 10 _ b t_x0 (by rw [← e_z13]; exact hb)
    have n_z13 := wt_nn (f := 10) hW (by decide) t_x0 e_z13
    obtain ⟨q14, e_q14⟩ := n_z13
    refine ⟨q14, e_q14, ?_⟩
    replace h := h q14 e_q14
    have t_q14 := t_z13 q14 e_q14
    refine ⟨hasA_of hW t_q14, ?_⟩
    have hin := h.1
    refine ⟨h.1, ?_⟩
    replace h := h.2
    intro S15 e_S15
    replace h := h S15 e_S15
    replace hW := WT_a hW e_S15
    intro z16 e_z16
    replace h := h z16 e_z16
    intro z17 e_z17
    replace h := h z17 e_z17
    exact hk9 _ _ _ t_x0 _ hW h
theorem tyl_X1_turnRound_9 {d : List (Nat × cK)} {K K' : kS → Prop} (hk : ∀ S1, WT d S1 → K S1 → K' S1) : ∀ (n : Nat) (x0 : Nat) (x2 : Int32) (x3 : Int32), ((x0, Sum.inl 1) ∈ d) → ∀ S : kS, WT d S → it (lT_X1_turnRound_9 K) n (x0, x2, x3, S) → it (ls_X1_turnRound_9 K') n (x0, x2, x3, S) := by
  intro n
  induction n with
  | zero => exact fun _ _ _ _ _ _ h => h
  | succ n ih => exact fun x0 x2 x3 t_x0 S hW h => ty_X1_turnRound_9 hk ih t_x0 hW h
theorem ty_X1_turnRound {d : List (Nat × cK)} {t0 : Nat} {a0 : Int32} (t_t0 : (t0, Sum.inl 1) ∈ d) {S : kS} {K K' : kS → Prop} (hW : WT d S) (hk : ∀ S1, WT d S1 → K S1 → K' S1) (h : wT_X1_turnRound t0 a0 S K) : wp_X1_turnRound t0 a0 S K' := by
  unfold wT_X1_turnRound at h
  unfold wp_X1_turnRound
  refine ⟨hasO_of hW t_t0, ?_⟩
  intro z1 e_z1
  replace h := h z1 e_z1
  intro z2 e_z2
  replace h := h z2 e_z2
  obtain ⟨n9, h⟩ := h
  exact ⟨n9, tyl_X1_turnRound_9 hk n9 _ _ _ t_t0 _ hW h⟩
def wT_X4_hears_50 (K : kS → Int32 → Prop) (x0 : Nat) (x1 : Int32) (x2 : Int32) (S : kS) : Prop := ∀ S13 : kS, S13 = cI S 13 x0 x1 → ∀ S14 : kS, S14 = cI S13 14 x0 x2 → K S14 1
def wT_X4_hears (t0 : Nat) (a0 : Int32) (a1 : Int32) (S : kS) (K : kS → Int32 → Prop) : Prop := ∀ z1 : Int32, z1 = S.1 12 t0 → ((¬ z1 = 4 → wT_X4_hears_50 K t0 a0 a1 S) ∧ (z1 = 4 → ((¬ a0 = 1 → wT_X4_hears_50 K t0 a0 a1 S) ∧ (a0 = 1 → ∀ z4 : Int32, z4 = S.1 14 t0 → ∀ z5 : Int32, z5 = z4 + a1 → ∀ S6 : kS, S6 = cI S 14 t0 z5 → ∀ z7 : Int32, z7 = S6.1 15 t0 → ∀ z8 : Int32, z8 = z7 - 1 → ∀ S9 : kS, S9 = cI S6 15 t0 z8 → ∀ z10 : Int32, z10 = S9.1 15 t0 → ((z10 ≤ 0 → ∀ S12 : kS, S12 = cI S9 13 t0 1 → K S12 1) ∧ (¬ z10 ≤ 0 → K S9 0))))))
theorem ty_X4_hears_50 {d : List (Nat × cK)} {K K' : kS → Int32 → Prop} (hk : ∀ S1 r1, WT d S1 → K S1 r1 → K' S1 r1) {x0 : Nat} {x1 : Int32} {x2 : Int32} (t_x0 : (x0, Sum.inl 4) ∈ d) {S : kS} (hW : WT d S) (h : wT_X4_hears_50 K x0 x1 x2 S) : wp_X4_hears_50 K' x0 x1 x2 S := by
  unfold wT_X4_hears_50 at h
  unfold wp_X4_hears_50
  refine ⟨hasO_of hW t_x0, ?_⟩
  intro S13 e_S13
  replace h := h S13 e_S13
  replace hW := WT_i hW e_S13
  refine ⟨hasO_of hW t_x0, ?_⟩
  intro S14 e_S14
  replace h := h S14 e_S14
  replace hW := WT_i hW e_S14
  exact hk _ _ hW h
theorem ty_X4_hears {d : List (Nat × cK)} {t0 : Nat} {a0 : Int32} {a1 : Int32} (t_t0 : (t0, Sum.inl 4) ∈ d) {S : kS} {K K' : kS → Int32 → Prop} (hW : WT d S) (hk : ∀ S1 r1, WT d S1 → K S1 r1 → K' S1 r1) (h : wT_X4_hears t0 a0 a1 S K) : wp_X4_hears t0 a0 a1 S K' := by
  unfold wT_X4_hears at h
  unfold wp_X4_hears
  refine ⟨hasO_of hW t_t0, ?_⟩
  intro z1 e_z1
  replace h := h z1 e_z1
  refine ⟨fun c => ?_, fun c => ?_⟩
  · replace h := h.1 c
    exact ty_X4_hears_50 hk t_t0 hW h
  · replace h := h.2 c
    refine ⟨fun c => ?_, fun c => ?_⟩
    · replace h := h.1 c
      exact ty_X4_hears_50 hk t_t0 hW h
    · replace h := h.2 c
      refine ⟨hasO_of hW t_t0, ?_⟩
      intro z4 e_z4
      replace h := h z4 e_z4
      intro z5 e_z5
      replace h := h z5 e_z5
      refine ⟨hasO_of hW t_t0, ?_⟩
      intro S6 e_S6
      replace h := h S6 e_S6
      replace hW := WT_i hW e_S6
      refine ⟨hasO_of hW t_t0, ?_⟩
      intro z7 e_z7
      replace h := h z7 e_z7
      intro z8 e_z8
      replace h := h z8 e_z8
      refine ⟨hasO_of hW t_t0, ?_⟩
      intro S9 e_S9
      replace h := h S9 e_S9
      replace hW := WT_i hW e_S9
      refine ⟨hasO_of hW t_t0, ?_⟩
      intro z10 e_z10
      replace h := h z10 e_z10
      refine ⟨fun c => ?_, fun c => ?_⟩
      · replace h := h.1 c
        refine ⟨hasO_of hW t_t0, ?_⟩
        intro S12 e_S12
        replace h := h S12 e_S12
        replace hW := WT_i hW e_S12
        exact hk _ _ hW h
      · replace h := h.2 c
        exact hk _ _ hW h
def wT_X1_report_145 (K : kS → Prop) (x0 : Nat) (x5 : Int32) (S : kS) : Prop := wT_X1_turnRound x0 x5 S (fun (S31 : kS) => K S31)
def wT_X1_report_137 (K : kS → Prop) (k39 : Nat × Nat × Int32 × Option Nat × Int32 × kS → Prop) (x0 : Nat) (x4 : Nat) (x5 : Int32) (x7 : Int32) (y0 : Option Nat) (S : kS) : Prop := ∀ z30 : Int32, z30 = x7 + 1 → k39 (x0, x4, x5, y0, z30, S)
def wT_X1_report_69 (K : kS → Prop) (k39 : Nat × Nat × Int32 × Option Nat × Int32 × kS → Prop) (x0 : Nat) (x4 : Nat) (x5 : Int32) (x6 : Nat) (x7 : Int32) (S : kS) : Prop := wT_X1_drop x0 x4 0 S (fun (S16 : kS) => ∀ z17 : Option Nat, z17 = S16.2.1 23 x6 → ((z17 = none → ∀ z19 : Int32, z19 = S16.1 13 x6 → ∀ S20 : kS, S20 = cI S16 38 x4 z19 → ∀ z21 : Int32, z21 = S20.1 14 x6 → ∀ S22 : kS, S22 = cI S20 39 x4 z21 → wT_X1_report_145 K x0 x5 S22) ∧ (∀ q18 : Nat, z17 = some q18 → ∀ z23 : Option Nat, z23 = S16.2.1 23 x6 → ∀ z24 : Int32, z24 = S16.1 13 x6 → ∀ z25 : Int32, z25 = S16.1 14 x6 → ∃ q26 : Nat, z23 = some q26 ∧ wT_X4_hears q26 z24 z25 S16 (fun (S27 : kS) (r27 : Int32) => ((r27 = 0 → wT_X1_report_137 K k39 x0 x4 x5 x7 none S27) ∧ (¬ r27 = 0 → ∀ z29 : Option Nat, z29 = S27.2.1 23 x6 → wT_X1_report_137 K k39 x0 x4 x5 x7 z29 S27))))))
def wT_X1_report_39 (K : kS → Prop) (k39 : Nat × Nat × Int32 × Option Nat × Int32 × kS → Prop) (x0 : Nat) (x4 : Nat) (x5 : Int32) (x6 : Option Nat) (x7 : Int32) (S : kS) : Prop := ((10 < x7 → wT_X1_report_145 K x0 x5 S) ∧ (¬ 10 < x7 → ((x6 = none → wT_X1_report_145 K x0 x5 S) ∧ (∀ q10 : Nat, x6 = some q10 → ∀ z11 : Option Nat, z11 = S.2.1 25 q10 → ((z11 = none → wT_X1_report_69 K k39 x0 x4 x5 q10 x7 S) ∧ (∀ q12 : Nat, z11 = some q12 → ∀ z13 : Option Nat, z13 = S.2.1 25 q10 → ∃ q14 : Nat, z13 = some q14 ∧ wT_X2_remove q14 q10 S (fun (S15 : kS) => wT_X1_report_69 K k39 x0 x4 x5 q10 x7 S15)))))))
def lT_X1_report_39 (K : kS → Prop) (k39 : Nat × Nat × Int32 × Option Nat × Int32 × kS → Prop) (u : Nat × Nat × Int32 × Option Nat × Int32 × kS) : Prop := wT_X1_report_39 K k39 u.1 u.2.1 u.2.2.1 u.2.2.2.1 u.2.2.2.2.1 u.2.2.2.2.2
def wT_X1_report (t0 : Nat) (a0 : Nat) (a1 : Int32) (a2 : Int32) (S : kS) (K : kS → Prop) : Prop := ∀ z1 : Option Nat, z1 = S.2.1 21 a0 → ∃ q2 : Nat, z1 = some q2 ∧ ∀ z3 : Int32, z3 = S.1 28 q2 → ∀ z4 : Int32, z4 = z3 ^^^ (-1) → wT_X1_plan t0 z4 S (fun (S5 : kS) => ∀ z6 : Int32, z6 = S5.1 5 t0 → ∀ S7 : kS, S7 = cI S5 13 a0 a1 → ∀ S8 : kS, S8 = cI S7 14 a0 a2 → (∃ n9, it (lT_X1_report_39 K) n9 (t0, q2, z6, some a0, 0, S8)))
theorem ty_X1_report_145 {d : List (Nat × cK)} {K K' : kS → Prop} (hk : ∀ S1, WT d S1 → K S1 → K' S1) {x0 : Nat} {x5 : Int32} (t_x0 : (x0, Sum.inl 1) ∈ d) {S : kS} (hW : WT d S) (h : wT_X1_report_145 K x0 x5 S) : wp_X1_report_145 K' x0 x5 S := by
  unfold wT_X1_report_145 at h
  unfold wp_X1_report_145
  refine ⟨hasO_of hW t_x0, ?_⟩
  refine ty_X1_turnRound t_x0 hW (fun S31 hW h => ?_) h
  exact hk _ hW h
theorem ty_X1_report_137 {d : List (Nat × cK)} {K K' : kS → Prop} {k39 k39' : Nat × Nat × Int32 × Option Nat × Int32 × kS → Prop} (hk : ∀ S1, WT d S1 → K S1 → K' S1) (hk39 : ∀ (x0 : Nat) (x4 : Nat) (x5 : Int32) (x6 : Option Nat) (x7 : Int32), ((x0, Sum.inl 1) ∈ d) → ((x4, Sum.inl 9) ∈ d) → (∀ b, x6 = some b → (b, Sum.inl 4) ∈ d) → ∀ S : kS, WT d S → k39 (x0, x4, x5, x6, x7, S) → k39' (x0, x4, x5, x6, x7, S)) {x0 : Nat} {x4 : Nat} {x5 : Int32} {x7 : Int32} {y0 : Option Nat} (t_x0 : (x0, Sum.inl 1) ∈ d) (t_x4 : (x4, Sum.inl 9) ∈ d) (t_y0 : ∀ b, y0 = some b → (b, Sum.inl 4) ∈ d) {S : kS} (hW : WT d S) (h : wT_X1_report_137 K k39 x0 x4 x5 x7 y0 S) : wp_X1_report_137 K' k39' x0 x4 x5 x7 y0 S := by
  unfold wT_X1_report_137 at h
  unfold wp_X1_report_137
  intro z30 e_z30
  replace h := h z30 e_z30
  exact hk39 _ _ _ _ _ t_x0 t_x4 t_y0 _ hW h
theorem ty_X1_report_69 {d : List (Nat × cK)} {K K' : kS → Prop} {k39 k39' : Nat × Nat × Int32 × Option Nat × Int32 × kS → Prop} (hk : ∀ S1, WT d S1 → K S1 → K' S1) (hk39 : ∀ (x0 : Nat) (x4 : Nat) (x5 : Int32) (x6 : Option Nat) (x7 : Int32), ((x0, Sum.inl 1) ∈ d) → ((x4, Sum.inl 9) ∈ d) → (∀ b, x6 = some b → (b, Sum.inl 4) ∈ d) → ∀ S : kS, WT d S → k39 (x0, x4, x5, x6, x7, S) → k39' (x0, x4, x5, x6, x7, S)) {x0 : Nat} {x4 : Nat} {x5 : Int32} {x6 : Nat} {x7 : Int32} (t_x0 : (x0, Sum.inl 1) ∈ d) (t_x4 : (x4, Sum.inl 9) ∈ d) (t_x6 : (x6, Sum.inl 4) ∈ d) {S : kS} (hW : WT d S) (h : wT_X1_report_69 K k39 x0 x4 x5 x6 x7 S) : wp_X1_report_69 K' k39' x0 x4 x5 x6 x7 S := by
  unfold wT_X1_report_69 at h
  unfold wp_X1_report_69
  refine ⟨hasO_of hW t_x0, ?_⟩
  refine ty_X1_drop t_x0 t_x4 hW (fun S16 hW h => ?_) h
  refine ⟨hasO_of hW t_x6, ?_⟩
  intro z17 e_z17
  replace h := h z17 e_z17
  have t_z17 : ∀ b, z17 = some b → (b, Sum.inl 4) ∈ d := fun b hb => hW.2.1 23 _ b t_x6 (by rw [← e_z17]; exact hb)
  refine ⟨fun c => ?_, fun q18 c => ?_⟩
  · replace h := h.1 c
    refine ⟨hasO_of hW t_x6, ?_⟩
    intro z19 e_z19
    replace h := h z19 e_z19
    refine ⟨hasO_of hW t_x4, ?_⟩
    intro S20 e_S20
    replace h := h S20 e_S20
    replace hW := WT_i hW e_S20
    refine ⟨hasO_of hW t_x6, ?_⟩
    intro z21 e_z21
    replace h := h z21 e_z21
    refine ⟨hasO_of hW t_x4, ?_⟩
    intro S22 e_S22
    replace h := h S22 e_S22
    replace hW := WT_i hW e_S22
    exact ty_X1_report_145 hk t_x0 hW h
  · replace h := h.2 q18 c
    have t_q18 := t_z17 q18 c
    refine ⟨hasO_of hW t_x6, ?_⟩
    intro z23 e_z23
    replace h := h z23 e_z23
    have t_z23 : ∀ b, z23 = some b → (b, Sum.inl 4) ∈ d := fun b hb => hW.2.1 23 _ b t_x6 (by rw [← e_z23]; exact hb)
    refine ⟨hasO_of hW t_x6, ?_⟩
    intro z24 e_z24
    replace h := h z24 e_z24
    refine ⟨hasO_of hW t_x6, ?_⟩
    intro z25 e_z25
    replace h := h z25 e_z25
    obtain ⟨q26, e_q26, h9⟩ := h
    replace h := h9
    clear h9
    refine ⟨q26, e_q26, ?_⟩
    have t_q26 := t_z23 q26 e_q26
    refine ⟨hasO_of hW t_q26, ?_⟩
    refine ty_X4_hears t_q26 hW (fun S27 r27 hW h => ?_) h
    refine ⟨fun c => ?_, fun c => ?_⟩
    · replace h := h.1 c
      exact ty_X1_report_137 hk hk39 t_x0 t_x4 (fun b hb => by cases hb) hW h
    · replace h := h.2 c
      refine ⟨hasO_of hW t_x6, ?_⟩
      intro z29 e_z29
      replace h := h z29 e_z29
      have t_z29 : ∀ b, z29 = some b → (b, Sum.inl 4) ∈ d := fun b hb => hW.2.1 23 _ b t_x6 (by rw [← e_z29]; exact hb)
      exact ty_X1_report_137 hk hk39 t_x0 t_x4 t_z29 hW h
theorem ty_X1_report_39 {d : List (Nat × cK)} {K K' : kS → Prop} {k39 k39' : Nat × Nat × Int32 × Option Nat × Int32 × kS → Prop} (hk : ∀ S1, WT d S1 → K S1 → K' S1) (hk39 : ∀ (x0 : Nat) (x4 : Nat) (x5 : Int32) (x6 : Option Nat) (x7 : Int32), ((x0, Sum.inl 1) ∈ d) → ((x4, Sum.inl 9) ∈ d) → (∀ b, x6 = some b → (b, Sum.inl 4) ∈ d) → ∀ S : kS, WT d S → k39 (x0, x4, x5, x6, x7, S) → k39' (x0, x4, x5, x6, x7, S)) {x0 : Nat} {x4 : Nat} {x5 : Int32} {x6 : Option Nat} {x7 : Int32} (t_x0 : (x0, Sum.inl 1) ∈ d) (t_x4 : (x4, Sum.inl 9) ∈ d) (t_x6 : ∀ b, x6 = some b → (b, Sum.inl 4) ∈ d) {S : kS} (hW : WT d S) (h : wT_X1_report_39 K k39 x0 x4 x5 x6 x7 S) : wp_X1_report_39 K' k39' x0 x4 x5 x6 x7 S := by
  unfold wT_X1_report_39 at h
  unfold wp_X1_report_39
  refine ⟨fun c => ?_, fun c => ?_⟩
  · replace h := h.1 c
    exact ty_X1_report_145 hk t_x0 hW h
  · replace h := h.2 c
    refine ⟨fun c => ?_, fun q10 c => ?_⟩
    · replace h := h.1 c
      exact ty_X1_report_145 hk t_x0 hW h
    · replace h := h.2 q10 c
      have t_q10 := t_x6 q10 c
      refine ⟨hasO_of hW t_q10, ?_⟩
      intro z11 e_z11
      replace h := h z11 e_z11
      have t_z11 : ∀ b, z11 = some b → (b, Sum.inl 2) ∈ d := fun b hb => hW.2.1 25 _ b t_q10 (by rw [← e_z11]; exact hb)
      refine ⟨fun c => ?_, fun q12 c => ?_⟩
      · replace h := h.1 c
        exact ty_X1_report_69 hk hk39 t_x0 t_x4 t_q10 hW h
      · replace h := h.2 q12 c
        have t_q12 := t_z11 q12 c
        refine ⟨hasO_of hW t_q10, ?_⟩
        intro z13 e_z13
        replace h := h z13 e_z13
        have t_z13 : ∀ b, z13 = some b → (b, Sum.inl 2) ∈ d := fun b hb => hW.2.1 25 _ b t_q10 (by rw [← e_z13]; exact hb)
        obtain ⟨q14, e_q14, h9⟩ := h
        replace h := h9
        clear h9
        refine ⟨q14, e_q14, ?_⟩
        have t_q14 := t_z13 q14 e_q14
        refine ⟨hasO_of hW t_q14, ?_⟩
        refine ty_X2_remove t_q14 t_q10 hW (fun S15 hW h => ?_) h
        exact ty_X1_report_69 hk hk39 t_x0 t_x4 t_q10 hW h
theorem tyl_X1_report_39 {d : List (Nat × cK)} {K K' : kS → Prop} (hk : ∀ S1, WT d S1 → K S1 → K' S1) : ∀ (n : Nat) (x0 : Nat) (x4 : Nat) (x5 : Int32) (x6 : Option Nat) (x7 : Int32), ((x0, Sum.inl 1) ∈ d) → ((x4, Sum.inl 9) ∈ d) → (∀ b, x6 = some b → (b, Sum.inl 4) ∈ d) → ∀ S : kS, WT d S → it (lT_X1_report_39 K) n (x0, x4, x5, x6, x7, S) → it (ls_X1_report_39 K') n (x0, x4, x5, x6, x7, S) := by
  intro n
  induction n with
  | zero => exact fun _ _ _ _ _ _ _ _ _ _ h => h
  | succ n ih => exact fun x0 x4 x5 x6 x7 t_x0 t_x4 t_x6 S hW h => ty_X1_report_39 hk ih t_x0 t_x4 t_x6 hW h
theorem ty_X1_report {d : List (Nat × cK)} {t0 : Nat} {a0 : Nat} {a1 : Int32} {a2 : Int32} (t_t0 : (t0, Sum.inl 1) ∈ d) (t_a0 : (a0, Sum.inl 4) ∈ d) {S : kS} {K K' : kS → Prop} (hW : WT d S) (hk : ∀ S1, WT d S1 → K S1 → K' S1) (h : wT_X1_report t0 a0 a1 a2 S K) : wp_X1_report t0 a0 a1 a2 S K' := by
  unfold wT_X1_report at h
  unfold wp_X1_report
  refine ⟨hasO_of hW t_a0, ?_⟩
  intro z1 e_z1
  replace h := h z1 e_z1
  have t_z1 : ∀ b, z1 = some b → (b, Sum.inl 9) ∈ d := fun b hb => hW.2.1 21 _ b t_a0 (by rw [← e_z1]; exact hb)
  obtain ⟨q2, e_q2, h9⟩ := h
  replace h := h9
  clear h9
  refine ⟨q2, e_q2, ?_⟩
  have t_q2 := t_z1 q2 e_q2
  refine ⟨hasO_of hW t_q2, ?_⟩
  intro z3 e_z3
  replace h := h z3 e_z3
  intro z4 e_z4
  replace h := h z4 e_z4
  refine ⟨hasO_of hW t_t0, ?_⟩
  refine ty_X1_plan t_t0 hW (fun S5 hW h => ?_) h
  refine ⟨hasO_of hW t_t0, ?_⟩
  intro z6 e_z6
  replace h := h z6 e_z6
  refine ⟨hasO_of hW t_a0, ?_⟩
  intro S7 e_S7
  replace h := h S7 e_S7
  replace hW := WT_i hW e_S7
  refine ⟨hasO_of hW t_a0, ?_⟩
  intro S8 e_S8
  replace h := h S8 e_S8
  replace hW := WT_i hW e_S8
  obtain ⟨n9, h⟩ := h
  exact ⟨n9, tyl_X1_report_39 hk n9 _ _ _ _ _ t_t0 t_q2 (fun b hb => by cases hb; exact t_a0) _ hW h⟩
def wT_X1_tellParent (t0 : Nat) (a0 : Nat) (S : kS) (K : kS → Prop) : Prop := ∀ z1 : Option Nat, z1 = S.2.1 57 a0 → ((z1 = none → K S) ∧ (∀ q2 : Nat, z1 = some q2 → ∀ z3 : Int32, z3 = S.1 13 q2 → ((z3 = 0 → ∀ z5 : Int32, z5 = S.1 31 a0 → ((¬ z5 = 0 → ∀ z7 : Int32, z7 = S.1 31 a0 → wT_X1_report t0 q2 2 z7 S (fun (S8 : kS) => K S8)) ∧ (z5 = 0 → ∀ z9 : Int32, z9 = S.1 32 a0 → wT_X1_report t0 q2 1 z9 S (fun (S10 : kS) => K S10)))) ∧ (¬ z3 = 0 → K S))))
theorem ty_X1_tellParent {d : List (Nat × cK)} {t0 : Nat} {a0 : Nat} (t_t0 : (t0, Sum.inl 1) ∈ d) (t_a0 : (a0, Sum.inl 9) ∈ d) {S : kS} {K K' : kS → Prop} (hW : WT d S) (hk : ∀ S1, WT d S1 → K S1 → K' S1) (h : wT_X1_tellParent t0 a0 S K) : wp_X1_tellParent t0 a0 S K' := by
  unfold wT_X1_tellParent at h
  unfold wp_X1_tellParent
  refine ⟨hasO_of hW t_a0, ?_⟩
  intro z1 e_z1
  replace h := h z1 e_z1
  have t_z1 : ∀ b, z1 = some b → (b, Sum.inl 4) ∈ d := fun b hb => hW.2.1 57 _ b t_a0 (by rw [← e_z1]; exact hb)
  refine ⟨fun c => ?_, fun q2 c => ?_⟩
  · replace h := h.1 c
    exact hk _ hW h
  · replace h := h.2 q2 c
    have t_q2 := t_z1 q2 c
    refine ⟨hasO_of hW t_q2, ?_⟩
    intro z3 e_z3
    replace h := h z3 e_z3
    refine ⟨fun c => ?_, fun c => ?_⟩
    · replace h := h.1 c
      refine ⟨hasO_of hW t_a0, ?_⟩
      intro z5 e_z5
      replace h := h z5 e_z5
      refine ⟨fun c => ?_, fun c => ?_⟩
      · replace h := h.1 c
        refine ⟨hasO_of hW t_a0, ?_⟩
        intro z7 e_z7
        replace h := h z7 e_z7
        refine ⟨hasO_of hW t_t0, ?_⟩
        refine ty_X1_report t_t0 t_q2 hW (fun S8 hW h => ?_) h
        exact hk _ hW h
      · replace h := h.2 c
        refine ⟨hasO_of hW t_a0, ?_⟩
        intro z9 e_z9
        replace h := h z9 e_z9
        refine ⟨hasO_of hW t_t0, ?_⟩
        refine ty_X1_report t_t0 t_q2 hW (fun S10 hW h => ?_) h
        exact hk _ hW h
    · replace h := h.2 c
      exact hk _ hW h
def wT_X1_enterRow (t0 : Nat) (a0 : Nat) (S : kS) (K : kS → Prop) : Prop := ∀ z1 : Int32, z1 = S.1 3 t0 → ((200 ≤ z1 → ∀ S3 : kS, S3 = cI S 30 a0 0 → K S3) ∧ (¬ 200 ≤ z1 → ∀ z4 : Option Nat, z4 = S.2.1 4 t0 → ∀ z5 : Int32, z5 = S.1 3 t0 → ∀ z6 : Int32, z6 = S.1 28 a0 → ∀ q7 : Nat, z4 = some q7 → inR z5 200 ∧ ∀ S8 : kS, S8 = cA S q7 (ix z5) z6 → ∀ z9 : Int32, z9 = S8.1 3 t0 → ∀ z10 : Int32, z10 = z9 + 1 → ∀ S11 : kS, S11 = cI S8 3 t0 z10 → ∀ S12 : kS, S12 = cI S11 30 a0 0 → K S12))
theorem ty_X1_enterRow {d : List (Nat × cK)} {t0 : Nat} {a0 : Nat} (t_t0 : (t0, Sum.inl 1) ∈ d) (t_a0 : (a0, Sum.inl 9) ∈ d) {S : kS} {K K' : kS → Prop} (hW : WT d S) (hk : ∀ S1, WT d S1 → K S1 → K' S1) (h : wT_X1_enterRow t0 a0 S K) : wp_X1_enterRow t0 a0 S K' := by
  unfold wT_X1_enterRow at h
  unfold wp_X1_enterRow
  refine ⟨hasO_of hW t_t0, ?_⟩
  intro z1 e_z1
  replace h := h z1 e_z1
  refine ⟨fun c => ?_, fun c => ?_⟩
  · replace h := h.1 c
    refine ⟨hasO_of hW t_a0, ?_⟩
    intro S3 e_S3
    replace h := h S3 e_S3
    replace hW := WT_i hW e_S3
    exact hk _ hW h
  · replace h := h.2 c
    refine ⟨hasO_of hW t_t0, ?_⟩
    intro z4 e_z4
    replace h := h z4 e_z4
    have t_z4 : ∀ b, z4 = some b → (b, Sum.inr (200, 0)) ∈ d := fun b hb => hW.2.1 4 _ b t_t0 (by rw [← e_z4]; exact hb)
    have n_z4 := wt_nn (f := 4) hW (by decide) t_t0 e_z4
    refine ⟨hasO_of hW t_t0, ?_⟩
    intro z5 e_z5
    replace h := h z5 e_z5
    refine ⟨hasO_of hW t_a0, ?_⟩
    intro z6 e_z6
    replace h := h z6 e_z6
    obtain ⟨q7, e_q7⟩ := n_z4
    refine ⟨q7, e_q7, ?_⟩
    replace h := h q7 e_q7
    have t_q7 := t_z4 q7 e_q7
    refine ⟨hasA_of hW t_q7, ?_⟩
    have hin := h.1
    refine ⟨h.1, ?_⟩
    replace h := h.2
    intro S8 e_S8
    replace h := h S8 e_S8
    replace hW := WT_a hW e_S8
    refine ⟨hasO_of hW t_t0, ?_⟩
    intro z9 e_z9
    replace h := h z9 e_z9
    intro z10 e_z10
    replace h := h z10 e_z10
    refine ⟨hasO_of hW t_t0, ?_⟩
    intro S11 e_S11
    replace h := h S11 e_S11
    replace hW := WT_i hW e_S11
    refine ⟨hasO_of hW t_a0, ?_⟩
    intro S12 e_S12
    replace h := h S12 e_S12
    replace hW := WT_i hW e_S12
    exact hk _ hW h
def wT_X1_settle (t0 : Nat) (a0 : Nat) (S : kS) (K : kS → Prop) : Prop := ∀ z1 : Int32, z1 = S.1 30 a0 → ((¬ z1 = 1 → K S) ∧ (z1 = 1 → ∀ z3 : Int32, z3 = S.1 38 a0 → ((z3 = 0 → K S) ∧ (¬ z3 = 0 → ∀ z5 : Int32, z5 = S.1 37 a0 → ((¬ z5 = 0 → ∀ S7 : kS, S7 = cI S 30 a0 2 → K S7) ∧ (z5 = 0 → wT_X1_enterRow t0 a0 S (fun (S8 : kS) => K S8)))))))
theorem ty_X1_settle {d : List (Nat × cK)} {t0 : Nat} {a0 : Nat} (t_t0 : (t0, Sum.inl 1) ∈ d) (t_a0 : (a0, Sum.inl 9) ∈ d) {S : kS} {K K' : kS → Prop} (hW : WT d S) (hk : ∀ S1, WT d S1 → K S1 → K' S1) (h : wT_X1_settle t0 a0 S K) : wp_X1_settle t0 a0 S K' := by
  unfold wT_X1_settle at h
  unfold wp_X1_settle
  refine ⟨hasO_of hW t_a0, ?_⟩
  intro z1 e_z1
  replace h := h z1 e_z1
  refine ⟨fun c => ?_, fun c => ?_⟩
  · replace h := h.1 c
    exact hk _ hW h
  · replace h := h.2 c
    refine ⟨hasO_of hW t_a0, ?_⟩
    intro z3 e_z3
    replace h := h z3 e_z3
    refine ⟨fun c => ?_, fun c => ?_⟩
    · replace h := h.1 c
      exact hk _ hW h
    · replace h := h.2 c
      refine ⟨hasO_of hW t_a0, ?_⟩
      intro z5 e_z5
      replace h := h z5 e_z5
      refine ⟨fun c => ?_, fun c => ?_⟩
      · replace h := h.1 c
        refine ⟨hasO_of hW t_a0, ?_⟩
        intro S7 e_S7
        replace h := h S7 e_S7
        replace hW := WT_i hW e_S7
        exact hk _ hW h
      · replace h := h.2 c
        refine ⟨hasO_of hW t_t0, ?_⟩
        refine ty_X1_enterRow t_t0 t_a0 hW (fun S8 hW h => ?_) h
        exact hk _ hW h
def wT_X1_leaveRow_38 (K : kS → Option Nat → Prop) (k38 : Nat × Option Nat × Int32 × kS → Prop) (x0 : Nat) (x2 : Option Nat) (x3 : Int32) (S : kS) : Prop := ∀ z13 : Int32, z13 = S.1 3 x0 → ((z13 ≤ x3 → K S x2) ∧ (¬ z13 ≤ x3 → ∀ z15 : Option Nat, z15 = S.2.1 4 x0 → ∀ z16 : Option Nat, z16 = S.2.1 4 x0 → ∀ z17 : Int32, z17 = x3 + 1 → ∀ q18 : Nat, z16 = some q18 → inR z17 200 ∧ ∀ z19 : Int32, z19 = S.2.2.1 q18 (ix z17) → ∀ q20 : Nat, z15 = some q20 → inR x3 200 ∧ ∀ S21 : kS, S21 = cA S q20 (ix x3) z19 → ∀ z22 : Int32, z22 = x3 + 1 → k38 (x0, x2, z22, S21)))
def lT_X1_leaveRow_38 (K : kS → Option Nat → Prop) (k38 : Nat × Option Nat × Int32 × kS → Prop) (u : Nat × Option Nat × Int32 × kS) : Prop := wT_X1_leaveRow_38 K k38 u.1 u.2.1 u.2.2.1 u.2.2.2
def wT_X1_leaveRow_12 (K : kS → Option Nat → Prop) (S : kS) : Prop := K S none
def wT_X1_leaveRow (t0 : Nat) (a0 : Int32) (S : kS) (K : kS → Option Nat → Prop) : Prop := ((a0 < 0 → wT_X1_leaveRow_12 K S) ∧ (¬ a0 < 0 → ∀ z2 : Int32, z2 = S.1 3 t0 → ((a0 < z2 → ∀ z4 : Option Nat, z4 = S.2.1 3 t0 → ∀ z5 : Option Nat, z5 = S.2.1 4 t0 → ∀ q6 : Nat, z5 = some q6 → inR a0 200 ∧ ∀ z7 : Int32, z7 = S.2.2.1 q6 (ix a0) → ∀ q8 : Nat, z4 = some q8 → inR z7 200 ∧ ∀ z9 : Option Nat, z9 = S.2.2.2.2.1 q8 (ix z7) → ∀ z10 : Int32, z10 = S.1 3 t0 → ∀ z11 : Int32, z11 = z10 - 1 → ∀ S12 : kS, S12 = cI S 3 t0 z11 → (∃ n9, it (lT_X1_leaveRow_38 K) n9 (t0, z9, a0, S12))) ∧ (¬ a0 < z2 → wT_X1_leaveRow_12 K S))))
theorem ty_X1_leaveRow_38 {d : List (Nat × cK)} {K K' : kS → Option Nat → Prop} {k38 k38' : Nat × Option Nat × Int32 × kS → Prop} (hk : ∀ S1 r1, WT d S1 → (∀ b, r1 = some b → (b, Sum.inl 9) ∈ d) → K S1 r1 → K' S1 r1) (hk38 : ∀ (x0 : Nat) (x2 : Option Nat) (x3 : Int32), ((x0, Sum.inl 1) ∈ d) → (∀ b, x2 = some b → (b, Sum.inl 9) ∈ d) → ∀ S : kS, WT d S → k38 (x0, x2, x3, S) → k38' (x0, x2, x3, S)) {x0 : Nat} {x2 : Option Nat} {x3 : Int32} (t_x0 : (x0, Sum.inl 1) ∈ d) (t_x2 : ∀ b, x2 = some b → (b, Sum.inl 9) ∈ d) {S : kS} (hW : WT d S) (h : wT_X1_leaveRow_38 K k38 x0 x2 x3 S) : wp_X1_leaveRow_38 K' k38' x0 x2 x3 S := by
  unfold wT_X1_leaveRow_38 at h
  unfold wp_X1_leaveRow_38
  refine ⟨hasO_of hW t_x0, ?_⟩
  intro z13 e_z13
  replace h := h z13 e_z13
  refine ⟨fun c => ?_, fun c => ?_⟩
  · replace h := h.1 c
    exact hk _ _ hW t_x2 h
  · replace h := h.2 c
    refine ⟨hasO_of hW t_x0, ?_⟩
    intro z15 e_z15
    replace h := h z15 e_z15
    have t_z15 : ∀ b, z15 = some b → (b, Sum.inr (200, 0)) ∈ d := fun b hb => hW.2.1 4 _ b t_x0 (by rw [← e_z15]; exact hb)
    have n_z15 := wt_nn (f := 4) hW (by decide) t_x0 e_z15
    refine ⟨hasO_of hW t_x0, ?_⟩
    intro z16 e_z16
    replace h := h z16 e_z16
    have t_z16 : ∀ b, z16 = some b → (b, Sum.inr (200, 0)) ∈ d := fun b hb => hW.2.1 4 _ b t_x0 (by rw [← e_z16]; exact hb)
    have n_z16 := wt_nn (f := 4) hW (by decide) t_x0 e_z16
    intro z17 e_z17
    replace h := h z17 e_z17
    obtain ⟨q18, e_q18⟩ := n_z16
    refine ⟨q18, e_q18, ?_⟩
    replace h := h q18 e_q18
    have t_q18 := t_z16 q18 e_q18
    refine ⟨hasA_of hW t_q18, ?_⟩
    have hin := h.1
    refine ⟨h.1, ?_⟩
    replace h := h.2
    intro z19 e_z19
    replace h := h z19 e_z19
    obtain ⟨q20, e_q20⟩ := n_z15
    refine ⟨q20, e_q20, ?_⟩
    replace h := h q20 e_q20
    have t_q20 := t_z15 q20 e_q20
    refine ⟨hasA_of hW t_q20, ?_⟩
    have hin := h.1
    refine ⟨h.1, ?_⟩
    replace h := h.2
    intro S21 e_S21
    replace h := h S21 e_S21
    replace hW := WT_a hW e_S21
    intro z22 e_z22
    replace h := h z22 e_z22
    exact hk38 _ _ _ t_x0 t_x2 _ hW h
theorem tyl_X1_leaveRow_38 {d : List (Nat × cK)} {K K' : kS → Option Nat → Prop} (hk : ∀ S1 r1, WT d S1 → (∀ b, r1 = some b → (b, Sum.inl 9) ∈ d) → K S1 r1 → K' S1 r1) : ∀ (n : Nat) (x0 : Nat) (x2 : Option Nat) (x3 : Int32), ((x0, Sum.inl 1) ∈ d) → (∀ b, x2 = some b → (b, Sum.inl 9) ∈ d) → ∀ S : kS, WT d S → it (lT_X1_leaveRow_38 K) n (x0, x2, x3, S) → it (ls_X1_leaveRow_38 K') n (x0, x2, x3, S) := by
  intro n
  induction n with
  | zero => exact fun _ _ _ _ _ _ _ h => h
  | succ n ih => exact fun x0 x2 x3 t_x0 t_x2 S hW h => ty_X1_leaveRow_38 hk ih t_x0 t_x2 hW h
theorem ty_X1_leaveRow_12 {d : List (Nat × cK)} {K K' : kS → Option Nat → Prop} (hk : ∀ S1 r1, WT d S1 → (∀ b, r1 = some b → (b, Sum.inl 9) ∈ d) → K S1 r1 → K' S1 r1) {S : kS} (hW : WT d S) (h : wT_X1_leaveRow_12 K S) : wp_X1_leaveRow_12 K' S := by
  unfold wT_X1_leaveRow_12 at h
  unfold wp_X1_leaveRow_12
  exact hk _ _ hW (fun b hb => by cases hb) h
theorem ty_X1_leaveRow {d : List (Nat × cK)} {t0 : Nat} {a0 : Int32} (t_t0 : (t0, Sum.inl 1) ∈ d) {S : kS} {K K' : kS → Option Nat → Prop} (hW : WT d S) (hk : ∀ S1 r1, WT d S1 → (∀ b, r1 = some b → (b, Sum.inl 9) ∈ d) → K S1 r1 → K' S1 r1) (h : wT_X1_leaveRow t0 a0 S K) : wp_X1_leaveRow t0 a0 S K' := by
  unfold wT_X1_leaveRow at h
  unfold wp_X1_leaveRow
  refine ⟨fun c => ?_, fun c => ?_⟩
  · replace h := h.1 c
    exact ty_X1_leaveRow_12 hk hW h
  · replace h := h.2 c
    refine ⟨hasO_of hW t_t0, ?_⟩
    intro z2 e_z2
    replace h := h z2 e_z2
    refine ⟨fun c => ?_, fun c => ?_⟩
    · replace h := h.1 c
      refine ⟨hasO_of hW t_t0, ?_⟩
      intro z4 e_z4
      replace h := h z4 e_z4
      have t_z4 : ∀ b, z4 = some b → (b, Sum.inr (200, 2)) ∈ d := fun b hb => hW.2.1 3 _ b t_t0 (by rw [← e_z4]; exact hb)
      have n_z4 := wt_nn (f := 3) hW (by decide) t_t0 e_z4
      refine ⟨hasO_of hW t_t0, ?_⟩
      intro z5 e_z5
      replace h := h z5 e_z5
      have t_z5 : ∀ b, z5 = some b → (b, Sum.inr (200, 0)) ∈ d := fun b hb => hW.2.1 4 _ b t_t0 (by rw [← e_z5]; exact hb)
      have n_z5 := wt_nn (f := 4) hW (by decide) t_t0 e_z5
      obtain ⟨q6, e_q6⟩ := n_z5
      refine ⟨q6, e_q6, ?_⟩
      replace h := h q6 e_q6
      have t_q6 := t_z5 q6 e_q6
      refine ⟨hasA_of hW t_q6, ?_⟩
      have hin := h.1
      refine ⟨h.1, ?_⟩
      replace h := h.2
      intro z7 e_z7
      replace h := h z7 e_z7
      obtain ⟨q8, e_q8⟩ := n_z4
      refine ⟨q8, e_q8, ?_⟩
      replace h := h q8 e_q8
      have t_q8 := t_z4 q8 e_q8
      refine ⟨hasA_of hW t_q8, ?_⟩
      have hin := h.1
      refine ⟨h.1, ?_⟩
      replace h := h.2
      intro z9 e_z9
      replace h := h z9 e_z9
      have t_z9 : ∀ b, z9 = some b → (b, Sum.inl 9) ∈ d := fun b hb => hW.2.2.2.1 _ _ b t_q8 (by rw [← e_z9]; exact hb)
      refine ⟨hasO_of hW t_t0, ?_⟩
      intro z10 e_z10
      replace h := h z10 e_z10
      intro z11 e_z11
      replace h := h z11 e_z11
      refine ⟨hasO_of hW t_t0, ?_⟩
      intro S12 e_S12
      replace h := h S12 e_S12
      replace hW := WT_i hW e_S12
      obtain ⟨n9, h⟩ := h
      exact ⟨n9, tyl_X1_leaveRow_38 hk n9 _ _ _ t_t0 t_z9 _ hW h⟩
    · replace h := h.2 c
      exact ty_X1_leaveRow_12 hk hW h
def wT_X1_close_42 (K : kS → Prop) (x0 : Nat) (x1 : Nat) (S : kS) : Prop := ∀ S12 : kS, S12 = cI S 30 x1 3 → ∀ z13 : Int32, z13 = S12.1 2 x0 → ∀ z14 : Int32, z14 = z13 + 1 → ∀ S15 : kS, S15 = cI S12 2 x0 z14 → ∀ z16 : Option Nat, z16 = S15.2.1 56 x1 → ((z16 = none → K S15) ∧ (∀ q17 : Nat, z16 = some q17 → ∀ z18 : Int32, z18 = S15.1 37 q17 → ∀ z19 : Int32, z19 = z18 - 1 → ∀ S20 : kS, S20 = cI S15 37 q17 z19 → ∀ z21 : Int32, z21 = S20.1 30 q17 → ((¬ z21 = 2 → K S20) ∧ (z21 = 2 → ∀ z23 : Int32, z23 = S20.1 37 q17 → ((¬ z23 = 0 → K S20) ∧ (z23 = 0 → wT_X1_enterRow x0 q17 S20 (fun (S25 : kS) => K S25)))))))
def wT_X1_close_36 (K : kS → Prop) (x0 : Nat) (x1 : Nat) (x2 : Int32) (S : kS) : Prop := wT_X1_leaveRow x0 x2 S (fun (S11 : kS) (o11 : Option Nat) => wT_X1_close_42 K x0 x1 S11)
def wT_X1_close_9 (K : kS → Prop) (k9 : Nat × Nat × Int32 × kS → Prop) (x0 : Nat) (x1 : Nat) (x2 : Int32) (S : kS) : Prop := ∀ z3 : Int32, z3 = S.1 3 x0 → ((z3 ≤ x2 → wT_X1_close_36 K x0 x1 x2 S) ∧ (¬ z3 ≤ x2 → ∀ z5 : Option Nat, z5 = S.2.1 4 x0 → ∀ q6 : Nat, z5 = some q6 → inR x2 200 ∧ ∀ z7 : Int32, z7 = S.2.2.1 q6 (ix x2) → ∀ z8 : Int32, z8 = S.1 28 x1 → ((z7 = z8 → wT_X1_close_36 K x0 x1 x2 S) ∧ (¬ z7 = z8 → ∀ z10 : Int32, z10 = x2 + 1 → k9 (x0, x1, z10, S)))))
def lT_X1_close_9 (K : kS → Prop) (k9 : Nat × Nat × Int32 × kS → Prop) (u : Nat × Nat × Int32 × kS) : Prop := wT_X1_close_9 K k9 u.1 u.2.1 u.2.2.1 u.2.2.2
def wT_X1_close (t0 : Nat) (a0 : Nat) (S : kS) (K : kS → Prop) : Prop := ∀ z1 : Int32, z1 = S.1 30 a0 → ((¬ z1 = 0 → wT_X1_close_42 K t0 a0 S) ∧ (z1 = 0 → (∃ n9, it (lT_X1_close_9 K) n9 (t0, a0, 0, S))))
theorem ty_X1_close_42 {d : List (Nat × cK)} {K K' : kS → Prop} (hk : ∀ S1, WT d S1 → K S1 → K' S1) {x0 : Nat} {x1 : Nat} (t_x0 : (x0, Sum.inl 1) ∈ d) (t_x1 : (x1, Sum.inl 9) ∈ d) {S : kS} (hW : WT d S) (h : wT_X1_close_42 K x0 x1 S) : wp_X1_close_42 K' x0 x1 S := by
  unfold wT_X1_close_42 at h
  unfold wp_X1_close_42
  refine ⟨hasO_of hW t_x1, ?_⟩
  intro S12 e_S12
  replace h := h S12 e_S12
  replace hW := WT_i hW e_S12
  refine ⟨hasO_of hW t_x0, ?_⟩
  intro z13 e_z13
  replace h := h z13 e_z13
  intro z14 e_z14
  replace h := h z14 e_z14
  refine ⟨hasO_of hW t_x0, ?_⟩
  intro S15 e_S15
  replace h := h S15 e_S15
  replace hW := WT_i hW e_S15
  refine ⟨hasO_of hW t_x1, ?_⟩
  intro z16 e_z16
  replace h := h z16 e_z16
  have t_z16 : ∀ b, z16 = some b → (b, Sum.inl 9) ∈ d := fun b hb => hW.2.1 56 _ b t_x1 (by rw [← e_z16]; exact hb)
  refine ⟨fun c => ?_, fun q17 c => ?_⟩
  · replace h := h.1 c
    exact hk _ hW h
  · replace h := h.2 q17 c
    have t_q17 := t_z16 q17 c
    refine ⟨hasO_of hW t_q17, ?_⟩
    intro z18 e_z18
    replace h := h z18 e_z18
    intro z19 e_z19
    replace h := h z19 e_z19
    refine ⟨hasO_of hW t_q17, ?_⟩
    intro S20 e_S20
    replace h := h S20 e_S20
    replace hW := WT_i hW e_S20
    refine ⟨hasO_of hW t_q17, ?_⟩
    intro z21 e_z21
    replace h := h z21 e_z21
    refine ⟨fun c => ?_, fun c => ?_⟩
    · replace h := h.1 c
      exact hk _ hW h
    · replace h := h.2 c
      refine ⟨hasO_of hW t_q17, ?_⟩
      intro z23 e_z23
      replace h := h z23 e_z23
      refine ⟨fun c => ?_, fun c => ?_⟩
      · replace h := h.1 c
        exact hk _ hW h
      · replace h := h.2 c
        refine ⟨hasO_of hW t_x0, ?_⟩
        refine ty_X1_enterRow t_x0 t_q17 hW (fun S25 hW h => ?_) h
        exact hk _ hW h
theorem ty_X1_close_36 {d : List (Nat × cK)} {K K' : kS → Prop} (hk : ∀ S1, WT d S1 → K S1 → K' S1) {x0 : Nat} {x1 : Nat} {x2 : Int32} (t_x0 : (x0, Sum.inl 1) ∈ d) (t_x1 : (x1, Sum.inl 9) ∈ d) {S : kS} (hW : WT d S) (h : wT_X1_close_36 K x0 x1 x2 S) : wp_X1_close_36 K' x0 x1 x2 S := by
  unfold wT_X1_close_36 at h
  unfold wp_X1_close_36
  refine ⟨hasO_of hW t_x0, ?_⟩
  refine ty_X1_leaveRow t_x0 hW (fun S11 o11 hW t_o11 h => ?_) h
  exact ty_X1_close_42 hk t_x0 t_x1 hW h
theorem ty_X1_close_9 {d : List (Nat × cK)} {K K' : kS → Prop} {k9 k9' : Nat × Nat × Int32 × kS → Prop} (hk : ∀ S1, WT d S1 → K S1 → K' S1) (hk9 : ∀ (x0 : Nat) (x1 : Nat) (x2 : Int32), ((x0, Sum.inl 1) ∈ d) → ((x1, Sum.inl 9) ∈ d) → ∀ S : kS, WT d S → k9 (x0, x1, x2, S) → k9' (x0, x1, x2, S)) {x0 : Nat} {x1 : Nat} {x2 : Int32} (t_x0 : (x0, Sum.inl 1) ∈ d) (t_x1 : (x1, Sum.inl 9) ∈ d) {S : kS} (hW : WT d S) (h : wT_X1_close_9 K k9 x0 x1 x2 S) : wp_X1_close_9 K' k9' x0 x1 x2 S := by
  unfold wT_X1_close_9 at h
  unfold wp_X1_close_9
  refine ⟨hasO_of hW t_x0, ?_⟩
  intro z3 e_z3
  replace h := h z3 e_z3
  refine ⟨fun c => ?_, fun c => ?_⟩
  · replace h := h.1 c
    exact ty_X1_close_36 hk t_x0 t_x1 hW h
  · replace h := h.2 c
    refine ⟨hasO_of hW t_x0, ?_⟩
    intro z5 e_z5
    replace h := h z5 e_z5
    have t_z5 : ∀ b, z5 = some b → (b, Sum.inr (200, 0)) ∈ d := fun b hb => hW.2.1 4 _ b t_x0 (by rw [← e_z5]; exact hb)
    have n_z5 := wt_nn (f := 4) hW (by decide) t_x0 e_z5
    obtain ⟨q6, e_q6⟩ := n_z5
    refine ⟨q6, e_q6, ?_⟩
    replace h := h q6 e_q6
    have t_q6 := t_z5 q6 e_q6
    refine ⟨hasA_of hW t_q6, ?_⟩
    have hin := h.1
    refine ⟨h.1, ?_⟩
    replace h := h.2
    intro z7 e_z7
    replace h := h z7 e_z7
    refine ⟨hasO_of hW t_x1, ?_⟩
    intro z8 e_z8
    replace h := h z8 e_z8
    refine ⟨fun c => ?_, fun c => ?_⟩
    · replace h := h.1 c
      exact ty_X1_close_36 hk t_x0 t_x1 hW h
    · replace h := h.2 c
      intro z10 e_z10
      replace h := h z10 e_z10
      exact hk9 _ _ _ t_x0 t_x1 _ hW h
theorem tyl_X1_close_9 {d : List (Nat × cK)} {K K' : kS → Prop} (hk : ∀ S1, WT d S1 → K S1 → K' S1) : ∀ (n : Nat) (x0 : Nat) (x1 : Nat) (x2 : Int32), ((x0, Sum.inl 1) ∈ d) → ((x1, Sum.inl 9) ∈ d) → ∀ S : kS, WT d S → it (lT_X1_close_9 K) n (x0, x1, x2, S) → it (ls_X1_close_9 K') n (x0, x1, x2, S) := by
  intro n
  induction n with
  | zero => exact fun _ _ _ _ _ _ _ h => h
  | succ n ih => exact fun x0 x1 x2 t_x0 t_x1 S hW h => ty_X1_close_9 hk ih t_x0 t_x1 hW h
theorem ty_X1_close {d : List (Nat × cK)} {t0 : Nat} {a0 : Nat} (t_t0 : (t0, Sum.inl 1) ∈ d) (t_a0 : (a0, Sum.inl 9) ∈ d) {S : kS} {K K' : kS → Prop} (hW : WT d S) (hk : ∀ S1, WT d S1 → K S1 → K' S1) (h : wT_X1_close t0 a0 S K) : wp_X1_close t0 a0 S K' := by
  unfold wT_X1_close at h
  unfold wp_X1_close
  refine ⟨hasO_of hW t_a0, ?_⟩
  intro z1 e_z1
  replace h := h z1 e_z1
  refine ⟨fun c => ?_, fun c => ?_⟩
  · replace h := h.1 c
    exact ty_X1_close_42 hk t_t0 t_a0 hW h
  · replace h := h.2 c
    obtain ⟨n9, h⟩ := h
    exact ⟨n9, tyl_X1_close_9 hk n9 _ _ _ t_t0 t_a0 _ hW h⟩
def wT_X1_letGo (t0 : Nat) (a0 : Nat) (a1 : Int32) (S : kS) (K : kS → Prop) : Prop := ∀ z1 : Int32, z1 = S.1 5 t0 → wT_X1_drop t0 a0 a1 S (fun (S2 : kS) => wT_X1_turnRound t0 z1 S2 (fun (S3 : kS) => K S3))
theorem ty_X1_letGo {d : List (Nat × cK)} {t0 : Nat} {a0 : Nat} {a1 : Int32} (t_t0 : (t0, Sum.inl 1) ∈ d) (t_a0 : (a0, Sum.inl 9) ∈ d) {S : kS} {K K' : kS → Prop} (hW : WT d S) (hk : ∀ S1, WT d S1 → K S1 → K' S1) (h : wT_X1_letGo t0 a0 a1 S K) : wp_X1_letGo t0 a0 a1 S K' := by
  unfold wT_X1_letGo at h
  unfold wp_X1_letGo
  refine ⟨hasO_of hW t_t0, ?_⟩
  intro z1 e_z1
  replace h := h z1 e_z1
  refine ⟨hasO_of hW t_t0, ?_⟩
  refine ty_X1_drop t_t0 t_a0 hW (fun S2 hW h => ?_) h
  refine ⟨hasO_of hW t_t0, ?_⟩
  refine ty_X1_turnRound t_t0 hW (fun S3 hW h => ?_) h
  exact hk _ hW h
def wT_X1_stop_63 (K : kS → Prop) (x0 : Nat) (x1 : Nat) (S : kS) : Prop := ∀ S17 : kS, S17 = cI S 38 x1 4 → ∀ z18 : Int32, z18 = S17.1 30 x1 → ((¬ z18 = 1 → K S17) ∧ (z18 = 1 → ∀ z20 : Int32, z20 = S17.1 28 x1 → ∀ z21 : Int32, z21 = z20 ^^^ (-1) → wT_X1_plan x0 z21 S17 (fun (S22 : kS) => wT_X1_letGo x0 x1 1 S22 (fun (S23 : kS) => K S23))))
def wT_X1_stop (t0 : Nat) (a0 : Nat) (S : kS) (K : kS → Prop) : Prop := ∀ z1 : Int32, z1 = S.1 30 a0 → ((z1 = 3 → K S) ∧ (¬ z1 = 3 → ∀ z3 : Int32, z3 = S.1 35 a0 → ((z3 = 0 → ∀ S5 : kS, S5 = cI S 35 a0 1 → ∀ z6 : Int32, z6 = S5.1 34 a0 → ((¬ z6 = 0 → ∀ z8 : Int32, z8 = S5.1 38 a0 → ((¬ z8 = 1 → wT_X1_stop_63 K t0 a0 S5) ∧ (z8 = 1 → ∀ z10 : Option Nat, z10 = S5.2.1 9 t0 → ∀ z11 : Int32, z11 = S5.1 28 a0 → ∀ z12 : Int32, z12 = S5.1 39 a0 → ∀ q13 : Nat, z10 = some q13 → wT_X0_note q13 z11 z12 S5 (fun (S14 : kS) => wT_X1_stop_63 K t0 a0 S14)))) ∧ (z6 = 0 → ∀ S15 : kS, S15 = cI S5 31 a0 22 → wT_X1_close t0 a0 S15 (fun (S16 : kS) => K S16)))) ∧ (¬ z3 = 0 → K S))))
theorem ty_X1_stop_63 {d : List (Nat × cK)} {K K' : kS → Prop} (hk : ∀ S1, WT d S1 → K S1 → K' S1) {x0 : Nat} {x1 : Nat} (t_x0 : (x0, Sum.inl 1) ∈ d) (t_x1 : (x1, Sum.inl 9) ∈ d) {S : kS} (hW : WT d S) (h : wT_X1_stop_63 K x0 x1 S) : wp_X1_stop_63 K' x0 x1 S := by
  unfold wT_X1_stop_63 at h
  unfold wp_X1_stop_63
  refine ⟨hasO_of hW t_x1, ?_⟩
  intro S17 e_S17
  replace h := h S17 e_S17
  replace hW := WT_i hW e_S17
  refine ⟨hasO_of hW t_x1, ?_⟩
  intro z18 e_z18
  replace h := h z18 e_z18
  refine ⟨fun c => ?_, fun c => ?_⟩
  · replace h := h.1 c
    exact hk _ hW h
  · replace h := h.2 c
    refine ⟨hasO_of hW t_x1, ?_⟩
    intro z20 e_z20
    replace h := h z20 e_z20
    intro z21 e_z21
    replace h := h z21 e_z21
    refine ⟨hasO_of hW t_x0, ?_⟩
    refine ty_X1_plan t_x0 hW (fun S22 hW h => ?_) h
    refine ⟨hasO_of hW t_x0, ?_⟩
    refine ty_X1_letGo t_x0 t_x1 hW (fun S23 hW h => ?_) h
    exact hk _ hW h
theorem ty_X1_stop {d : List (Nat × cK)} {t0 : Nat} {a0 : Nat} (t_t0 : (t0, Sum.inl 1) ∈ d) (t_a0 : (a0, Sum.inl 9) ∈ d) {S : kS} {K K' : kS → Prop} (hW : WT d S) (hk : ∀ S1, WT d S1 → K S1 → K' S1) (h : wT_X1_stop t0 a0 S K) : wp_X1_stop t0 a0 S K' := by
  unfold wT_X1_stop at h
  unfold wp_X1_stop
  refine ⟨hasO_of hW t_a0, ?_⟩
  intro z1 e_z1
  replace h := h z1 e_z1
  refine ⟨fun c => ?_, fun c => ?_⟩
  · replace h := h.1 c
    exact hk _ hW h
  · replace h := h.2 c
    refine ⟨hasO_of hW t_a0, ?_⟩
    intro z3 e_z3
    replace h := h z3 e_z3
    refine ⟨fun c => ?_, fun c => ?_⟩
    · replace h := h.1 c
      refine ⟨hasO_of hW t_a0, ?_⟩
      intro S5 e_S5
      replace h := h S5 e_S5
      replace hW := WT_i hW e_S5
      refine ⟨hasO_of hW t_a0, ?_⟩
      intro z6 e_z6
      replace h := h z6 e_z6
      refine ⟨fun c => ?_, fun c => ?_⟩
      · replace h := h.1 c
        refine ⟨hasO_of hW t_a0, ?_⟩
        intro z8 e_z8
        replace h := h z8 e_z8
        refine ⟨fun c => ?_, fun c => ?_⟩
        · replace h := h.1 c
          exact ty_X1_stop_63 hk t_t0 t_a0 hW h
        · replace h := h.2 c
          refine ⟨hasO_of hW t_t0, ?_⟩
          intro z10 e_z10
          replace h := h z10 e_z10
          have t_z10 : ∀ b, z10 = some b → (b, Sum.inl 0) ∈ d := fun b hb => hW.2.1 9 _ b t_t0 (by rw [← e_z10]; exact hb)
          have n_z10 := wt_nn (f := 9) hW (by decide) t_t0 e_z10
          refine ⟨hasO_of hW t_a0, ?_⟩
          intro z11 e_z11
          replace h := h z11 e_z11
          refine ⟨hasO_of hW t_a0, ?_⟩
          intro z12 e_z12
          replace h := h z12 e_z12
          obtain ⟨q13, e_q13⟩ := n_z10
          refine ⟨q13, e_q13, ?_⟩
          replace h := h q13 e_q13
          have t_q13 := t_z10 q13 e_q13
          refine ⟨hasO_of hW t_q13, ?_⟩
          refine ty_X0_note t_q13 hW (fun S14 hW h => ?_) h
          exact ty_X1_stop_63 hk t_t0 t_a0 hW h
      · replace h := h.2 c
        refine ⟨hasO_of hW t_a0, ?_⟩
        intro S15 e_S15
        replace h := h S15 e_S15
        replace hW := WT_i hW e_S15
        refine ⟨hasO_of hW t_t0, ?_⟩
        refine ty_X1_close t_t0 t_a0 hW (fun S16 hW h => ?_) h
        exact hk _ hW h
    · replace h := h.2 c
      exact hk _ hW h
def wT_X1_work_64 (K : kS → Prop) (k2 : Nat × Int32 × kS → Prop) (x0 : Nat) (x1 : Int32) (S : kS) : Prop := ∀ z23 : Int32, z23 = x1 + 1 → k2 (x0, z23, S)
def wT_X1_work_2 (K : kS → Prop) (k2 : Nat × Int32 × kS → Prop) (x0 : Nat) (x1 : Int32) (S : kS) : Prop := ((1000000 ≤ x1 → K S) ∧ (¬ 1000000 ≤ x1 → ∀ z2 : Int32, z2 = S.1 5 x0 → ((z2 ≤ 0 → K S) ∧ (¬ z2 ≤ 0 → ∀ z4 : Int32, z4 = S.1 5 x0 → ∀ z5 : Int32, z5 = z4 - 1 → ∀ S6 : kS, S6 = cI S 5 x0 z5 → ∀ z7 : Option Nat, z7 = S6.2.1 10 x0 → ∀ z8 : Int32, z8 = S6.1 5 x0 → ∀ q9 : Nat, z7 = some q9 → inR z8 416 ∧ ∀ z10 : Int32, z10 = S6.2.2.1 q9 (ix z8) → ((0 ≤ z10 → ∀ z12 : Option Nat, z12 = S6.2.1 3 x0 → ∀ q13 : Nat, z12 = some q13 → inR z10 200 ∧ ∀ z14 : Option Nat, z14 = S6.2.2.2.2.1 q13 (ix z10) → ∃ q15 : Nat, z14 = some q15 ∧ wT_X1_stop x0 q15 S6 (fun (S16 : kS) => wT_X1_work_64 K k2 x0 x1 S16)) ∧ (¬ 0 ≤ z10 → ∀ z17 : Option Nat, z17 = S6.2.1 3 x0 → ∀ z18 : Int32, z18 = z10 ^^^ (-1) → ∀ q19 : Nat, z17 = some q19 → inR z18 200 ∧ ∀ z20 : Option Nat, z20 = S6.2.2.2.2.1 q19 (ix z18) → ∃ q21 : Nat, z20 = some q21 ∧ wT_X1_settle x0 q21 S6 (fun (S22 : kS) => wT_X1_work_64 K k2 x0 x1 S22)))))))
def lT_X1_work_2 (K : kS → Prop) (k2 : Nat × Int32 × kS → Prop) (u : Nat × Int32 × kS) : Prop := wT_X1_work_2 K k2 u.1 u.2.1 u.2.2
def wT_X1_work (t0 : Nat) (S : kS) (K : kS → Prop) : Prop := (∃ n9, it (lT_X1_work_2 K) n9 (t0, 0, S))
theorem ty_X1_work_64 {d : List (Nat × cK)} {K K' : kS → Prop} {k2 k2' : Nat × Int32 × kS → Prop} (hk : ∀ S1, WT d S1 → K S1 → K' S1) (hk2 : ∀ (x0 : Nat) (x1 : Int32), ((x0, Sum.inl 1) ∈ d) → ∀ S : kS, WT d S → k2 (x0, x1, S) → k2' (x0, x1, S)) {x0 : Nat} {x1 : Int32} (t_x0 : (x0, Sum.inl 1) ∈ d) {S : kS} (hW : WT d S) (h : wT_X1_work_64 K k2 x0 x1 S) : wp_X1_work_64 K' k2' x0 x1 S := by
  unfold wT_X1_work_64 at h
  unfold wp_X1_work_64
  intro z23 e_z23
  replace h := h z23 e_z23
  exact hk2 _ _ t_x0 _ hW h
theorem ty_X1_work_2 {d : List (Nat × cK)} {K K' : kS → Prop} {k2 k2' : Nat × Int32 × kS → Prop} (hk : ∀ S1, WT d S1 → K S1 → K' S1) (hk2 : ∀ (x0 : Nat) (x1 : Int32), ((x0, Sum.inl 1) ∈ d) → ∀ S : kS, WT d S → k2 (x0, x1, S) → k2' (x0, x1, S)) {x0 : Nat} {x1 : Int32} (t_x0 : (x0, Sum.inl 1) ∈ d) {S : kS} (hW : WT d S) (h : wT_X1_work_2 K k2 x0 x1 S) : wp_X1_work_2 K' k2' x0 x1 S := by
  unfold wT_X1_work_2 at h
  unfold wp_X1_work_2
  refine ⟨fun c => ?_, fun c => ?_⟩
  · replace h := h.1 c
    exact hk _ hW h
  · replace h := h.2 c
    refine ⟨hasO_of hW t_x0, ?_⟩
    intro z2 e_z2
    replace h := h z2 e_z2
    refine ⟨fun c => ?_, fun c => ?_⟩
    · replace h := h.1 c
      exact hk _ hW h
    · replace h := h.2 c
      refine ⟨hasO_of hW t_x0, ?_⟩
      intro z4 e_z4
      replace h := h z4 e_z4
      intro z5 e_z5
      replace h := h z5 e_z5
      refine ⟨hasO_of hW t_x0, ?_⟩
      intro S6 e_S6
      replace h := h S6 e_S6
      replace hW := WT_i hW e_S6
      refine ⟨hasO_of hW t_x0, ?_⟩
      intro z7 e_z7
      replace h := h z7 e_z7
      have t_z7 : ∀ b, z7 = some b → (b, Sum.inr (416, 0)) ∈ d := fun b hb => hW.2.1 10 _ b t_x0 (by rw [← e_z7]; exact hb)
      have n_z7 := wt_nn (f := 10) hW (by decide) t_x0 e_z7
      refine ⟨hasO_of hW t_x0, ?_⟩
      intro z8 e_z8
      replace h := h z8 e_z8
      obtain ⟨q9, e_q9⟩ := n_z7
      refine ⟨q9, e_q9, ?_⟩
      replace h := h q9 e_q9
      have t_q9 := t_z7 q9 e_q9
      refine ⟨hasA_of hW t_q9, ?_⟩
      have hin := h.1
      refine ⟨h.1, ?_⟩
      replace h := h.2
      intro z10 e_z10
      replace h := h z10 e_z10
      refine ⟨fun c => ?_, fun c => ?_⟩
      · replace h := h.1 c
        refine ⟨hasO_of hW t_x0, ?_⟩
        intro z12 e_z12
        replace h := h z12 e_z12
        have t_z12 : ∀ b, z12 = some b → (b, Sum.inr (200, 2)) ∈ d := fun b hb => hW.2.1 3 _ b t_x0 (by rw [← e_z12]; exact hb)
        have n_z12 := wt_nn (f := 3) hW (by decide) t_x0 e_z12
        obtain ⟨q13, e_q13⟩ := n_z12
        refine ⟨q13, e_q13, ?_⟩
        replace h := h q13 e_q13
        have t_q13 := t_z12 q13 e_q13
        refine ⟨hasA_of hW t_q13, ?_⟩
        have hin := h.1
        refine ⟨h.1, ?_⟩
        replace h := h.2
        intro z14 e_z14
        replace h := h z14 e_z14
        have t_z14 : ∀ b, z14 = some b → (b, Sum.inl 9) ∈ d := fun b hb => hW.2.2.2.1 _ _ b t_q13 (by rw [← e_z14]; exact hb)
        obtain ⟨q15, e_q15, h9⟩ := h
        replace h := h9
        clear h9
        refine ⟨q15, e_q15, ?_⟩
        have t_q15 := t_z14 q15 e_q15
        refine ⟨hasO_of hW t_x0, ?_⟩
        refine ty_X1_stop t_x0 t_q15 hW (fun S16 hW h => ?_) h
        exact ty_X1_work_64 hk hk2 t_x0 hW h
      · replace h := h.2 c
        refine ⟨hasO_of hW t_x0, ?_⟩
        intro z17 e_z17
        replace h := h z17 e_z17
        have t_z17 : ∀ b, z17 = some b → (b, Sum.inr (200, 2)) ∈ d := fun b hb => hW.2.1 3 _ b t_x0 (by rw [← e_z17]; exact hb)
        have n_z17 := wt_nn (f := 3) hW (by decide) t_x0 e_z17
        intro z18 e_z18
        replace h := h z18 e_z18
        obtain ⟨q19, e_q19⟩ := n_z17
        refine ⟨q19, e_q19, ?_⟩
        replace h := h q19 e_q19
        have t_q19 := t_z17 q19 e_q19
        refine ⟨hasA_of hW t_q19, ?_⟩
        have hin := h.1
        refine ⟨h.1, ?_⟩
        replace h := h.2
        intro z20 e_z20
        replace h := h z20 e_z20
        have t_z20 : ∀ b, z20 = some b → (b, Sum.inl 9) ∈ d := fun b hb => hW.2.2.2.1 _ _ b t_q19 (by rw [← e_z20]; exact hb)
        obtain ⟨q21, e_q21, h9⟩ := h
        replace h := h9
        clear h9
        refine ⟨q21, e_q21, ?_⟩
        have t_q21 := t_z20 q21 e_q21
        refine ⟨hasO_of hW t_x0, ?_⟩
        refine ty_X1_settle t_x0 t_q21 hW (fun S22 hW h => ?_) h
        exact ty_X1_work_64 hk hk2 t_x0 hW h
theorem tyl_X1_work_2 {d : List (Nat × cK)} {K K' : kS → Prop} (hk : ∀ S1, WT d S1 → K S1 → K' S1) : ∀ (n : Nat) (x0 : Nat) (x1 : Int32), ((x0, Sum.inl 1) ∈ d) → ∀ S : kS, WT d S → it (lT_X1_work_2 K) n (x0, x1, S) → it (ls_X1_work_2 K') n (x0, x1, S) := by
  intro n
  induction n with
  | zero => exact fun _ _ _ _ _ h => h
  | succ n ih => exact fun x0 x1 t_x0 S hW h => ty_X1_work_2 hk ih t_x0 hW h
theorem ty_X1_work {d : List (Nat × cK)} {t0 : Nat} (t_t0 : (t0, Sum.inl 1) ∈ d) {S : kS} {K K' : kS → Prop} (hW : WT d S) (hk : ∀ S1, WT d S1 → K S1 → K' S1) (h : wT_X1_work t0 S K) : wp_X1_work t0 S K' := by
  unfold wT_X1_work at h
  unfold wp_X1_work
  obtain ⟨n9, h⟩ := h
  exact ⟨n9, tyl_X1_work_2 hk n9 _ _ t_t0 _ hW h⟩
def wT_X1_callOff (t0 : Nat) (a0 : Int32) (S : kS) (K : kS → Int32 → Prop) : Prop := wT_X1_has t0 a0 S (fun (S1 : kS) (r1 : Int32) => ((r1 = 0 → K S1 0) ∧ (¬ r1 = 0 → ∀ z3 : Option Nat, z3 = S1.2.1 3 t0 → ∀ q4 : Nat, z3 = some q4 → inR a0 200 ∧ ∀ z5 : Option Nat, z5 = S1.2.2.2.2.1 q4 (ix a0) → ∃ q6 : Nat, z5 = some q6 ∧ ∀ z7 : Int32, z7 = S1.1 30 q6 → ((z7 = 3 → K S1 0) ∧ (¬ z7 = 3 → ∀ z9 : Option Nat, z9 = S1.2.1 3 t0 → ∀ q10 : Nat, z9 = some q10 → inR a0 200 ∧ ∀ z11 : Option Nat, z11 = S1.2.2.2.2.1 q10 (ix a0) → ∃ q12 : Nat, z11 = some q12 ∧ ∀ z13 : Int32, z13 = S1.1 35 q12 → ((z13 = 0 → ∀ z15 : Option Nat, z15 = S1.2.1 3 t0 → ∀ q16 : Nat, z15 = some q16 → inR a0 200 ∧ ∀ z17 : Option Nat, z17 = S1.2.2.2.2.1 q16 (ix a0) → wT_X1_plan t0 a0 S1 (fun (S18 : kS) => wT_X1_work t0 S18 (fun (S19 : kS) => ∃ q20 : Nat, z17 = some q20 ∧ ∀ z21 : Int32, z21 = S19.1 30 q20 → ((¬ z21 = 3 → K S19 1) ∧ (z21 = 3 → wT_X1_tellParent t0 q20 S19 (fun (S23 : kS) => wT_X1_work t0 S23 (fun (S24 : kS) => K S24 1))))))) ∧ (¬ z13 = 0 → K S1 0)))))))
theorem ty_X1_callOff {d : List (Nat × cK)} {t0 : Nat} {a0 : Int32} (t_t0 : (t0, Sum.inl 1) ∈ d) {S : kS} {K K' : kS → Int32 → Prop} (hW : WT d S) (hk : ∀ S1 r1, WT d S1 → K S1 r1 → K' S1 r1) (h : wT_X1_callOff t0 a0 S K) : wp_X1_callOff t0 a0 S K' := by
  unfold wT_X1_callOff at h
  unfold wp_X1_callOff
  refine ⟨hasO_of hW t_t0, ?_⟩
  refine ty_X1_has t_t0 hW (fun S1 r1 hW h => ?_) h
  refine ⟨fun c => ?_, fun c => ?_⟩
  · replace h := h.1 c
    exact hk _ _ hW h
  · replace h := h.2 c
    refine ⟨hasO_of hW t_t0, ?_⟩
    intro z3 e_z3
    replace h := h z3 e_z3
    have t_z3 : ∀ b, z3 = some b → (b, Sum.inr (200, 2)) ∈ d := fun b hb => hW.2.1 3 _ b t_t0 (by rw [← e_z3]; exact hb)
    have n_z3 := wt_nn (f := 3) hW (by decide) t_t0 e_z3
    obtain ⟨q4, e_q4⟩ := n_z3
    refine ⟨q4, e_q4, ?_⟩
    replace h := h q4 e_q4
    have t_q4 := t_z3 q4 e_q4
    refine ⟨hasA_of hW t_q4, ?_⟩
    have hin := h.1
    refine ⟨h.1, ?_⟩
    replace h := h.2
    intro z5 e_z5
    replace h := h z5 e_z5
    have t_z5 : ∀ b, z5 = some b → (b, Sum.inl 9) ∈ d := fun b hb => hW.2.2.2.1 _ _ b t_q4 (by rw [← e_z5]; exact hb)
    obtain ⟨q6, e_q6, h9⟩ := h
    replace h := h9
    clear h9
    refine ⟨q6, e_q6, ?_⟩
    have t_q6 := t_z5 q6 e_q6
    refine ⟨hasO_of hW t_q6, ?_⟩
    intro z7 e_z7
    replace h := h z7 e_z7
    refine ⟨fun c => ?_, fun c => ?_⟩
    · replace h := h.1 c
      exact hk _ _ hW h
    · replace h := h.2 c
      refine ⟨hasO_of hW t_t0, ?_⟩
      intro z9 e_z9
      replace h := h z9 e_z9
      have t_z9 : ∀ b, z9 = some b → (b, Sum.inr (200, 2)) ∈ d := fun b hb => hW.2.1 3 _ b t_t0 (by rw [← e_z9]; exact hb)
      have n_z9 := wt_nn (f := 3) hW (by decide) t_t0 e_z9
      obtain ⟨q10, e_q10⟩ := n_z9
      refine ⟨q10, e_q10, ?_⟩
      replace h := h q10 e_q10
      have t_q10 := t_z9 q10 e_q10
      refine ⟨hasA_of hW t_q10, ?_⟩
      have hin := h.1
      refine ⟨h.1, ?_⟩
      replace h := h.2
      intro z11 e_z11
      replace h := h z11 e_z11
      have t_z11 : ∀ b, z11 = some b → (b, Sum.inl 9) ∈ d := fun b hb => hW.2.2.2.1 _ _ b t_q10 (by rw [← e_z11]; exact hb)
      obtain ⟨q12, e_q12, h9⟩ := h
      replace h := h9
      clear h9
      refine ⟨q12, e_q12, ?_⟩
      have t_q12 := t_z11 q12 e_q12
      refine ⟨hasO_of hW t_q12, ?_⟩
      intro z13 e_z13
      replace h := h z13 e_z13
      refine ⟨fun c => ?_, fun c => ?_⟩
      · replace h := h.1 c
        refine ⟨hasO_of hW t_t0, ?_⟩
        intro z15 e_z15
        replace h := h z15 e_z15
        have t_z15 : ∀ b, z15 = some b → (b, Sum.inr (200, 2)) ∈ d := fun b hb => hW.2.1 3 _ b t_t0 (by rw [← e_z15]; exact hb)
        have n_z15 := wt_nn (f := 3) hW (by decide) t_t0 e_z15
        obtain ⟨q16, e_q16⟩ := n_z15
        refine ⟨q16, e_q16, ?_⟩
        replace h := h q16 e_q16
        have t_q16 := t_z15 q16 e_q16
        refine ⟨hasA_of hW t_q16, ?_⟩
        have hin := h.1
        refine ⟨h.1, ?_⟩
        replace h := h.2
        intro z17 e_z17
        replace h := h z17 e_z17
        have t_z17 : ∀ b, z17 = some b → (b, Sum.inl 9) ∈ d := fun b hb => hW.2.2.2.1 _ _ b t_q16 (by rw [← e_z17]; exact hb)
        refine ⟨hasO_of hW t_t0, ?_⟩
        refine ty_X1_plan t_t0 hW (fun S18 hW h => ?_) h
        refine ⟨hasO_of hW t_t0, ?_⟩
        refine ty_X1_work t_t0 hW (fun S19 hW h => ?_) h
        obtain ⟨q20, e_q20, h9⟩ := h
        replace h := h9
        clear h9
        refine ⟨q20, e_q20, ?_⟩
        have t_q20 := t_z17 q20 e_q20
        refine ⟨hasO_of hW t_q20, ?_⟩
        intro z21 e_z21
        replace h := h z21 e_z21
        refine ⟨fun c => ?_, fun c => ?_⟩
        · replace h := h.1 c
          exact hk _ _ hW h
        · replace h := h.2 c
          refine ⟨hasO_of hW t_t0, ?_⟩
          refine ty_X1_tellParent t_t0 t_q20 hW (fun S23 hW h => ?_) h
          refine ⟨hasO_of hW t_t0, ?_⟩
          refine ty_X1_work t_t0 hW (fun S24 hW h => ?_) h
          exact hk _ _ hW h
      · replace h := h.2 c
        exact hk _ _ hW h
def wT_X11_cancel (t0 : Nat) (a0 : Int32) (S : kS) (K : kS → Int32 → Prop) : Prop := ∀ z1 : Option Nat, z1 = S.2.1 72 t0 → ∀ q2 : Nat, z1 = some q2 → wT_X1_callOff q2 a0 S (fun (S3 : kS) (r3 : Int32) => (r3 = 0 ∨ r3 = 1) ∧ K S3 r3)
theorem ty_X11_cancel {d : List (Nat × cK)} {t0 : Nat} {a0 : Int32} (t_t0 : (t0, Sum.inl 11) ∈ d) {S : kS} {K K' : kS → Int32 → Prop} (hW : WT d S) (hk : ∀ S1 r1, WT d S1 → K S1 r1 → K' S1 r1) (h : wT_X11_cancel t0 a0 S K) : wp_X11_cancel t0 a0 S K' := by
  unfold wT_X11_cancel at h
  unfold wp_X11_cancel
  refine ⟨hasO_of hW t_t0, ?_⟩
  intro z1 e_z1
  replace h := h z1 e_z1
  have t_z1 : ∀ b, z1 = some b → (b, Sum.inl 1) ∈ d := fun b hb => hW.2.1 72 _ b t_t0 (by rw [← e_z1]; exact hb)
  have n_z1 := wt_nn (f := 72) hW (by decide) t_t0 e_z1
  obtain ⟨q2, e_q2⟩ := n_z1
  refine ⟨q2, e_q2, ?_⟩
  replace h := h q2 e_q2
  have t_q2 := t_z1 q2 e_q2
  refine ⟨hasO_of hW t_q2, ?_⟩
  refine ty_X1_callOff t_q2 hW (fun S3 r3 hW h => ?_) h
  have hin := h.1
  refine ⟨h.1, ?_⟩
  replace h := h.2
  exact hk _ _ hW h
def wT_X1_lettersLying_4 (K : kS → Int32 → Prop) (k4 : Nat × Int32 × Int32 × kS → Prop) (x0 : Nat) (x1 : Int32) (x2 : Int32) (S : kS) : Prop := ((8 ≤ x2 → K S x1) ∧ (¬ 8 ≤ x2 → ∀ z2 : Option Nat, z2 = S.2.1 6 x0 → ∀ q3 : Nat, z2 = some q3 → inR x2 8 ∧ ∀ z4 : Int32, z4 = S.2.2.1 q3 (ix x2) → ∀ z5 : Int32, z5 = x1 + z4 → ∀ z6 : Int32, z6 = x2 + 1 → k4 (x0, z5, z6, S)))
def lT_X1_lettersLying_4 (K : kS → Int32 → Prop) (k4 : Nat × Int32 × Int32 × kS → Prop) (u : Nat × Int32 × Int32 × kS) : Prop := wT_X1_lettersLying_4 K k4 u.1 u.2.1 u.2.2.1 u.2.2.2
def wT_X1_lettersLying (t0 : Nat) (S : kS) (K : kS → Int32 → Prop) : Prop := (∃ n9, it (lT_X1_lettersLying_4 K) n9 (t0, 0, 0, S))
theorem ty_X1_lettersLying_4 {d : List (Nat × cK)} {K K' : kS → Int32 → Prop} {k4 k4' : Nat × Int32 × Int32 × kS → Prop} (hk : ∀ S1 r1, WT d S1 → K S1 r1 → K' S1 r1) (hk4 : ∀ (x0 : Nat) (x1 : Int32) (x2 : Int32), ((x0, Sum.inl 1) ∈ d) → ∀ S : kS, WT d S → k4 (x0, x1, x2, S) → k4' (x0, x1, x2, S)) {x0 : Nat} {x1 : Int32} {x2 : Int32} (t_x0 : (x0, Sum.inl 1) ∈ d) {S : kS} (hW : WT d S) (h : wT_X1_lettersLying_4 K k4 x0 x1 x2 S) : wp_X1_lettersLying_4 K' k4' x0 x1 x2 S := by
  unfold wT_X1_lettersLying_4 at h
  unfold wp_X1_lettersLying_4
  refine ⟨fun c => ?_, fun c => ?_⟩
  · replace h := h.1 c
    exact hk _ _ hW h
  · replace h := h.2 c
    refine ⟨hasO_of hW t_x0, ?_⟩
    intro z2 e_z2
    replace h := h z2 e_z2
    have t_z2 : ∀ b, z2 = some b → (b, Sum.inr (8, 0)) ∈ d := fun b hb => hW.2.1 6 _ b t_x0 (by rw [← e_z2]; exact hb)
    have n_z2 := wt_nn (f := 6) hW (by decide) t_x0 e_z2
    obtain ⟨q3, e_q3⟩ := n_z2
    refine ⟨q3, e_q3, ?_⟩
    replace h := h q3 e_q3
    have t_q3 := t_z2 q3 e_q3
    refine ⟨hasA_of hW t_q3, ?_⟩
    have hin := h.1
    refine ⟨h.1, ?_⟩
    replace h := h.2
    intro z4 e_z4
    replace h := h z4 e_z4
    intro z5 e_z5
    replace h := h z5 e_z5
    intro z6 e_z6
    replace h := h z6 e_z6
    exact hk4 _ _ _ t_x0 _ hW h
theorem tyl_X1_lettersLying_4 {d : List (Nat × cK)} {K K' : kS → Int32 → Prop} (hk : ∀ S1 r1, WT d S1 → K S1 r1 → K' S1 r1) : ∀ (n : Nat) (x0 : Nat) (x1 : Int32) (x2 : Int32), ((x0, Sum.inl 1) ∈ d) → ∀ S : kS, WT d S → it (lT_X1_lettersLying_4 K) n (x0, x1, x2, S) → it (ls_X1_lettersLying_4 K') n (x0, x1, x2, S) := by
  intro n
  induction n with
  | zero => exact fun _ _ _ _ _ _ h => h
  | succ n ih => exact fun x0 x1 x2 t_x0 S hW h => ty_X1_lettersLying_4 hk ih t_x0 hW h
theorem ty_X1_lettersLying {d : List (Nat × cK)} {t0 : Nat} (t_t0 : (t0, Sum.inl 1) ∈ d) {S : kS} {K K' : kS → Int32 → Prop} (hW : WT d S) (hk : ∀ S1 r1, WT d S1 → K S1 r1 → K' S1 r1) (h : wT_X1_lettersLying t0 S K) : wp_X1_lettersLying t0 S K' := by
  unfold wT_X1_lettersLying at h
  unfold wp_X1_lettersLying
  obtain ⟨n9, h⟩ := h
  exact ⟨n9, tyl_X1_lettersLying_4 hk n9 _ _ _ t_t0 _ hW h⟩
