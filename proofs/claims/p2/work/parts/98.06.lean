
def wT_X3_assigned_94 (K : kS → Prop) (x0 : Nat) (x1 : Int32) (S : kS) : Prop := ((x1 = (-1) → K S) ∧ (¬ x1 = (-1) → wT_X3_emit x0 13 x1 S (fun (S23 : kS) (r23 : Int32) => K S23)))
def wT_X3_assigned_21 (K : kS → Prop) (x0 : Nat) (x1 : Int32) (S : kS) : Prop := wT_X3_kind x0 S (fun (S5 : kS) (r5 : Int32) => ((r5 = 201 → ∀ z7 : Option Nat, z7 = S5.2.1 15 x0 → ∃ q8 : Nat, z7 = some q8 ∧ wT_X5_newWait q8 S5 (fun (S9 : kS) (r9 : Int32) => ((¬ r9 = (-1) → wT_X3_step x0 S9 (fun (S11 : kS) => ∀ z12 : Int32, z12 = 1 + r9 → wT_X3_emit x0 25 z12 S11 (fun (S13 : kS) (r13 : Int32) => wU_X3_waitFor x0 0 S13 (fun (S14 : kS) => ∀ z15 : Option Nat, z15 = S14.2.1 15 x0 → ∀ z16 : Int32, z16 = 1 + r9 → wT_X3_emit x0 35 z16 S14 (fun (S17 : kS) (r17 : Int32) => ∃ q18 : Nat, z15 = some q18 ∧ wT_X5_setStand q18 r9 r17 S17 (fun (S19 : kS) => wT_X3_assigned_94 K x0 x1 S19)))))) ∧ (r9 = (-1) → wT_X3_wrong x0 5 S9 (fun (S20 : kS) => K S20))))) ∧ (¬ r5 = 201 → wU_X3_expression x0 0 S5 (fun (S21 : kS) => wT_X3_assigned_94 K x0 x1 S21))))
def wT_X3_assigned (t0 : Nat) (S : kS) (K : kS → Prop) : Prop := wT_X3_kind t0 S (fun (S1 : kS) (r1 : Int32) => ((¬ r1 = 3 → wT_X3_assigned_21 K t0 (-1) S1) ∧ (r1 = 3 → wT_X3_cellHere t0 S1 (fun (S3 : kS) (r3 : Int32) => wT_X3_need t0 61 S3 (fun (S4 : kS) => wT_X3_assigned_21 K t0 r3 S4)))))
theorem ty_X3_assigned_94 {d : List (Nat × cK)} {K K' : kS → Prop} (hk : ∀ S1, WT d S1 → K S1 → K' S1) {x0 : Nat} {x1 : Int32} (t_x0 : (x0, Sum.inl 3) ∈ d) {S : kS} (hW : WT d S) (h : wT_X3_assigned_94 K x0 x1 S) : wp_X3_assigned_94 K' x0 x1 S := by
  unfold wT_X3_assigned_94 at h
  unfold wp_X3_assigned_94
  refine ⟨fun c => ?_, fun c => ?_⟩
  · replace h := h.1 c
    exact hk _ hW h
  · replace h := h.2 c
    refine ⟨hasO_of hW t_x0, ?_⟩
    refine ty_X3_emit t_x0 hW (fun S23 r23 hW h => ?_) h
    exact hk _ hW h
theorem ty_X3_assigned_21 {d : List (Nat × cK)} {K K' : kS → Prop} (hk : ∀ S1, WT d S1 → K S1 → K' S1) {x0 : Nat} {x1 : Int32} (t_x0 : (x0, Sum.inl 3) ∈ d) {S : kS} (hW : WT d S) (h : wT_X3_assigned_21 K x0 x1 S) : wp_X3_assigned_21 K' x0 x1 S := by
  unfold wT_X3_assigned_21 at h
  unfold wp_X3_assigned_21
  refine ⟨hasO_of hW t_x0, ?_⟩
  refine ty_X3_kind t_x0 hW (fun S5 r5 hW h => ?_) h
  refine ⟨fun c => ?_, fun c => ?_⟩
  · replace h := h.1 c
    refine ⟨hasO_of hW t_x0, ?_⟩
    intro z7 e_z7
    replace h := h z7 e_z7
    have t_z7 : ∀ b, z7 = some b → (b, Sum.inl 5) ∈ d := fun b hb => hW.2.1 15 _ b t_x0 (by rw [← e_z7]; exact hb)
    obtain ⟨q8, e_q8, h9⟩ := h
    replace h := h9
    clear h9
    refine ⟨q8, e_q8, ?_⟩
    have t_q8 := t_z7 q8 e_q8
    refine ⟨hasO_of hW t_q8, ?_⟩
    refine ty_X5_newWait t_q8 hW (fun S9 r9 hW h => ?_) h
    refine ⟨fun c => ?_, fun c => ?_⟩
    · replace h := h.1 c
      refine ⟨hasO_of hW t_x0, ?_⟩
      refine ty_X3_step t_x0 hW (fun S11 hW h => ?_) h
      intro z12 e_z12
      replace h := h z12 e_z12
      refine ⟨hasO_of hW t_x0, ?_⟩
      refine ty_X3_emit t_x0 hW (fun S13 r13 hW h => ?_) h
      refine ⟨hasO_of hW t_x0, ?_⟩
      refine tq_X3_waitFor t_x0 hW (fun S14 hW h => ?_) h
      refine ⟨hasO_of hW t_x0, ?_⟩
      intro z15 e_z15
      replace h := h z15 e_z15
      have t_z15 : ∀ b, z15 = some b → (b, Sum.inl 5) ∈ d := fun b hb => hW.2.1 15 _ b t_x0 (by rw [← e_z15]; exact hb)
      intro z16 e_z16
      replace h := h z16 e_z16
      refine ⟨hasO_of hW t_x0, ?_⟩
      refine ty_X3_emit t_x0 hW (fun S17 r17 hW h => ?_) h
      obtain ⟨q18, e_q18, h9⟩ := h
      replace h := h9
      clear h9
      refine ⟨q18, e_q18, ?_⟩
      have t_q18 := t_z15 q18 e_q18
      refine ⟨hasO_of hW t_q18, ?_⟩
      refine ty_X5_setStand t_q18 hW (fun S19 hW h => ?_) h
      exact ty_X3_assigned_94 hk t_x0 hW h
    · replace h := h.2 c
      refine ⟨hasO_of hW t_x0, ?_⟩
      refine ty_X3_wrong t_x0 hW (fun S20 hW h => ?_) h
      exact hk _ hW h
  · replace h := h.2 c
    refine ⟨hasO_of hW t_x0, ?_⟩
    refine tq_X3_expression t_x0 hW (fun S21 hW h => ?_) h
    exact ty_X3_assigned_94 hk t_x0 hW h
theorem ty_X3_assigned {d : List (Nat × cK)} {t0 : Nat} (t_t0 : (t0, Sum.inl 3) ∈ d) {S : kS} {K K' : kS → Prop} (hW : WT d S) (hk : ∀ S1, WT d S1 → K S1 → K' S1) (h : wT_X3_assigned t0 S K) : wp_X3_assigned t0 S K' := by
  unfold wT_X3_assigned at h
  unfold wp_X3_assigned
  refine ⟨hasO_of hW t_t0, ?_⟩
  refine ty_X3_kind t_t0 hW (fun S1 r1 hW h => ?_) h
  refine ⟨fun c => ?_, fun c => ?_⟩
  · replace h := h.1 c
    exact ty_X3_assigned_21 hk t_t0 hW h
  · replace h := h.2 c
    refine ⟨hasO_of hW t_t0, ?_⟩
    refine ty_X3_cellHere t_t0 hW (fun S3 r3 hW h => ?_) h
    refine ⟨hasO_of hW t_t0, ?_⟩
    refine ty_X3_need t_t0 hW (fun S4 hW h => ?_) h
    exact ty_X3_assigned_21 hk t_t0 hW h
def wT_X3_startsStatement (a0 : Int32) (S : kS) (K : kS → Int32 → Prop) : Prop := ((a0 = 3 → K S 1) ∧ (¬ a0 = 3 → ((a0 < 201 → K S 0) ∧ (¬ a0 < 201 → ((210 < a0 → K S 0) ∧ (¬ 210 < a0 → ((a0 = 204 → K S 0) ∧ (¬ a0 = 204 → K S 1))))))))
theorem ty_X3_startsStatement {d : List (Nat × cK)} {a0 : Int32} {S : kS} {K K' : kS → Int32 → Prop} (hW : WT d S) (hk : ∀ S1 r1, WT d S1 → K S1 r1 → K' S1 r1) (h : wT_X3_startsStatement a0 S K) : wp_X3_startsStatement a0 S K' := by
  unfold wT_X3_startsStatement at h
  unfold wp_X3_startsStatement
  refine ⟨fun c => ?_, fun c => ?_⟩
  · replace h := h.1 c
    exact hk _ _ hW h
  · replace h := h.2 c
    refine ⟨fun c => ?_, fun c => ?_⟩
    · replace h := h.1 c
      exact hk _ _ hW h
    · replace h := h.2 c
      refine ⟨fun c => ?_, fun c => ?_⟩
      · replace h := h.1 c
        exact hk _ _ hW h
      · replace h := h.2 c
        refine ⟨fun c => ?_, fun c => ?_⟩
        · replace h := h.1 c
          exact hk _ _ hW h
        · replace h := h.2 c
          exact hk _ _ hW h
def wT_X7_markOutward_6 (K : kS → Prop) (k6 : Nat × Int32 × Int32 × Int32 × Int32 × kS → Prop) (x0 : Nat) (x2 : Int32) (x3 : Int32) (x4 : Int32) (x5 : Int32) (S : kS) : Prop := ((460 ≤ x5 → K S) ∧ (¬ 460 ≤ x5 → ((x4 < 0 → K S) ∧ (¬ x4 < 0 → ((x4 = x2 → K S) ∧ (¬ x4 = x2 → ∀ z4 : Option Nat, z4 = S.2.1 49 x0 → ¬ (3 : Int32) = 0 ∧ ∀ z5 : Int32, z5 = x4 / 3 → ∀ q6 : Nat, z4 = some q6 → inR z5 460 ∧ ∀ z7 : Int32, z7 = S.2.2.1 q6 (ix z5) → ∀ z8 : Int32, z8 = z7 ||| x3 → inR z5 460 ∧ ∀ S9 : kS, S9 = cA S q6 (ix z5) z8 → ∀ z10 : Option Nat, z10 = S9.2.1 43 x0 → ¬ (3 : Int32) = 0 ∧ ∀ z11 : Int32, z11 = x4 / 3 → ∀ q12 : Nat, z10 = some q12 → inR z11 460 ∧ ∀ z13 : Int32, z13 = S9.2.2.1 q12 (ix z11) → ∀ z14 : Int32, z14 = x5 + 1 → k6 (x0, x2, x3, z13, z14, S9)))))))
def lT_X7_markOutward_6 (K : kS → Prop) (k6 : Nat × Int32 × Int32 × Int32 × Int32 × kS → Prop) (u : Nat × Int32 × Int32 × Int32 × Int32 × kS) : Prop := wT_X7_markOutward_6 K k6 u.1 u.2.1 u.2.2.1 u.2.2.2.1 u.2.2.2.2.1 u.2.2.2.2.2
def wT_X7_markOutward (t0 : Nat) (a0 : Int32) (a1 : Int32) (a2 : Int32) (S : kS) (K : kS → Prop) : Prop := (∃ n9, it (lT_X7_markOutward_6 K) n9 (t0, a1, a2, a0, 0, S))
theorem ty_X7_markOutward_6 {d : List (Nat × cK)} {K K' : kS → Prop} {k6 k6' : Nat × Int32 × Int32 × Int32 × Int32 × kS → Prop} (hk : ∀ S1, WT d S1 → K S1 → K' S1) (hk6 : ∀ (x0 : Nat) (x2 : Int32) (x3 : Int32) (x4 : Int32) (x5 : Int32), ((x0, Sum.inl 7) ∈ d) → ∀ S : kS, WT d S → k6 (x0, x2, x3, x4, x5, S) → k6' (x0, x2, x3, x4, x5, S)) {x0 : Nat} {x2 : Int32} {x3 : Int32} {x4 : Int32} {x5 : Int32} (t_x0 : (x0, Sum.inl 7) ∈ d) {S : kS} (hW : WT d S) (h : wT_X7_markOutward_6 K k6 x0 x2 x3 x4 x5 S) : wp_X7_markOutward_6 K' k6' x0 x2 x3 x4 x5 S := by
  unfold wT_X7_markOutward_6 at h
  unfold wp_X7_markOutward_6
  refine ⟨fun c => ?_, fun c => ?_⟩
  · replace h := h.1 c
    exact hk _ hW h
  · replace h := h.2 c
    refine ⟨fun c => ?_, fun c => ?_⟩
    · replace h := h.1 c
      exact hk _ hW h
    · replace h := h.2 c
      refine ⟨fun c => ?_, fun c => ?_⟩
      · replace h := h.1 c
        exact hk _ hW h
      · replace h := h.2 c
        refine ⟨hasO_of hW t_x0, ?_⟩
        intro z4 e_z4
        replace h := h z4 e_z4
        have t_z4 : ∀ b, z4 = some b → (b, Sum.inr (460, 0)) ∈ d := fun b hb => hW.2.1 49 _ b t_x0 (by rw [← e_z4]; exact hb)
        have n_z4 := wt_nn (f := 49) hW (by decide) t_x0 e_z4
        have hin := h.1
        refine ⟨h.1, ?_⟩
        replace h := h.2
        intro z5 e_z5
        replace h := h z5 e_z5
        obtain ⟨q6, e_q6⟩ := n_z4
        refine ⟨q6, e_q6, ?_⟩
        replace h := h q6 e_q6
        have t_q6 := t_z4 q6 e_q6
        refine ⟨hasA_of hW t_q6, ?_⟩
        have hin := h.1
        refine ⟨h.1, ?_⟩
        replace h := h.2
        intro z7 e_z7
        replace h := h z7 e_z7
        intro z8 e_z8
        replace h := h z8 e_z8
        refine ⟨hasA_of hW t_q6, ?_⟩
        have hin := h.1
        refine ⟨h.1, ?_⟩
        replace h := h.2
        intro S9 e_S9
        replace h := h S9 e_S9
        replace hW := WT_a hW e_S9
        refine ⟨hasO_of hW t_x0, ?_⟩
        intro z10 e_z10
        replace h := h z10 e_z10
        have t_z10 : ∀ b, z10 = some b → (b, Sum.inr (460, 0)) ∈ d := fun b hb => hW.2.1 43 _ b t_x0 (by rw [← e_z10]; exact hb)
        have n_z10 := wt_nn (f := 43) hW (by decide) t_x0 e_z10
        have hin := h.1
        refine ⟨h.1, ?_⟩
        replace h := h.2
        intro z11 e_z11
        replace h := h z11 e_z11
        obtain ⟨q12, e_q12⟩ := n_z10
        refine ⟨q12, e_q12, ?_⟩
        replace h := h q12 e_q12
        have t_q12 := t_z10 q12 e_q12
        refine ⟨hasA_of hW t_q12, ?_⟩
        have hin := h.1
        refine ⟨h.1, ?_⟩
        replace h := h.2
        intro z13 e_z13
        replace h := h z13 e_z13
        intro z14 e_z14
        replace h := h z14 e_z14
        exact hk6 _ _ _ _ _ t_x0 _ hW h
theorem tyl_X7_markOutward_6 {d : List (Nat × cK)} {K K' : kS → Prop} (hk : ∀ S1, WT d S1 → K S1 → K' S1) : ∀ (n : Nat) (x0 : Nat) (x2 : Int32) (x3 : Int32) (x4 : Int32) (x5 : Int32), ((x0, Sum.inl 7) ∈ d) → ∀ S : kS, WT d S → it (lT_X7_markOutward_6 K) n (x0, x2, x3, x4, x5, S) → it (ls_X7_markOutward_6 K') n (x0, x2, x3, x4, x5, S) := by
  intro n
  induction n with
  | zero => exact fun _ _ _ _ _ _ _ _ h => h
  | succ n ih => exact fun x0 x2 x3 x4 x5 t_x0 S hW h => ty_X7_markOutward_6 hk ih t_x0 hW h
theorem ty_X7_markOutward {d : List (Nat × cK)} {t0 : Nat} {a0 : Int32} {a1 : Int32} {a2 : Int32} (t_t0 : (t0, Sum.inl 7) ∈ d) {S : kS} {K K' : kS → Prop} (hW : WT d S) (hk : ∀ S1, WT d S1 → K S1 → K' S1) (h : wT_X7_markOutward t0 a0 a1 a2 S K) : wp_X7_markOutward t0 a0 a1 a2 S K' := by
  unfold wT_X7_markOutward at h
  unfold wp_X7_markOutward
  obtain ⟨n9, h⟩ := h
  exact ⟨n9, tyl_X7_markOutward_6 hk n9 _ _ _ _ _ t_t0 _ hW h⟩
def wT_X3_leftLoop_83 (K : kS → Prop) (y0 : Option Nat) (y1 : Int32) (y2 : Int32) (y3 : Int32) (S : kS) : Prop := ∃ q19 : Nat, y0 = some q19 ∧ wT_X7_markOutward q19 y1 y2 y3 S (fun (S20 : kS) => K S20)
def wT_X3_leftLoop_45 (K : kS → Prop) (x0 : Nat) (x1 : Int32) (y0 : Nat) (y1 : Int32) (S : kS) : Prop := ∀ z8 : Int32, z8 = S.1 9 x0 → wT_X3_emit y0 y1 z8 S (fun (S9 : kS) (r9 : Int32) => ∀ z10 : Option Nat, z10 = S9.2.1 16 x0 → ∀ z11 : Int32, z11 = S9.1 8 x0 → ∀ z12 : Option Nat, z12 = S9.2.1 16 x0 → ∃ q13 : Nat, z12 = some q13 ∧ ∀ z14 : Option Nat, z14 = S9.2.1 50 q13 → ∀ z15 : Int32, z15 = S9.1 9 x0 → ∀ q16 : Nat, z14 = some q16 → inR z15 460 ∧ ∀ z17 : Int32, z17 = S9.2.2.1 q16 (ix z15) → ((x1 = 0 → wT_X3_leftLoop_83 K z10 z11 z17 8 S9) ∧ (¬ x1 = 0 → wT_X3_leftLoop_83 K z10 z11 z17 4 S9)))
def wT_X3_leftLoop_15 (K : kS → Prop) (x0 : Nat) (y0 : Int32) (S : kS) : Prop := ∀ z3 : Int32, z3 = S.1 9 x0 → ((0 ≤ z3 → wT_X3_step x0 S (fun (S5 : kS) => ((y0 = 0 → wT_X3_leftLoop_45 K x0 y0 x0 18 S5) ∧ (¬ y0 = 0 → wT_X3_leftLoop_45 K x0 y0 x0 17 S5)))) ∧ (¬ 0 ≤ z3 → wT_X3_wrong x0 1 S (fun (S7 : kS) => K S7)))
def wT_X3_leftLoop (t0 : Nat) (S : kS) (K : kS → Prop) : Prop := wT_X3_kind t0 S (fun (S1 : kS) (r1 : Int32) => ((¬ r1 = 206 → wT_X3_leftLoop_15 K t0 0 S1) ∧ (r1 = 206 → wT_X3_leftLoop_15 K t0 1 S1)))
theorem ty_X3_leftLoop_83 {d : List (Nat × cK)} {K K' : kS → Prop} (hk : ∀ S1, WT d S1 → K S1 → K' S1) {y0 : Option Nat} {y1 : Int32} {y2 : Int32} {y3 : Int32} (t_y0 : ∀ b, y0 = some b → (b, Sum.inl 7) ∈ d) {S : kS} (hW : WT d S) (h : wT_X3_leftLoop_83 K y0 y1 y2 y3 S) : wp_X3_leftLoop_83 K' y0 y1 y2 y3 S := by
  unfold wT_X3_leftLoop_83 at h
  unfold wp_X3_leftLoop_83
  obtain ⟨q19, e_q19, h9⟩ := h
  replace h := h9
  clear h9
  refine ⟨q19, e_q19, ?_⟩
  have t_q19 := t_y0 q19 e_q19
  refine ⟨hasO_of hW t_q19, ?_⟩
  refine ty_X7_markOutward t_q19 hW (fun S20 hW h => ?_) h
  exact hk _ hW h
theorem ty_X3_leftLoop_45 {d : List (Nat × cK)} {K K' : kS → Prop} (hk : ∀ S1, WT d S1 → K S1 → K' S1) {x0 : Nat} {x1 : Int32} {y0 : Nat} {y1 : Int32} (t_x0 : (x0, Sum.inl 3) ∈ d) (t_y0 : (y0, Sum.inl 3) ∈ d) {S : kS} (hW : WT d S) (h : wT_X3_leftLoop_45 K x0 x1 y0 y1 S) : wp_X3_leftLoop_45 K' x0 x1 y0 y1 S := by
  unfold wT_X3_leftLoop_45 at h
  unfold wp_X3_leftLoop_45
  refine ⟨hasO_of hW t_x0, ?_⟩
  intro z8 e_z8
  replace h := h z8 e_z8
  refine ⟨hasO_of hW t_y0, ?_⟩
  refine ty_X3_emit t_y0 hW (fun S9 r9 hW h => ?_) h
  refine ⟨hasO_of hW t_x0, ?_⟩
  intro z10 e_z10
  replace h := h z10 e_z10
  have t_z10 : ∀ b, z10 = some b → (b, Sum.inl 7) ∈ d := fun b hb => hW.2.1 16 _ b t_x0 (by rw [← e_z10]; exact hb)
  refine ⟨hasO_of hW t_x0, ?_⟩
  intro z11 e_z11
  replace h := h z11 e_z11
  refine ⟨hasO_of hW t_x0, ?_⟩
  intro z12 e_z12
  replace h := h z12 e_z12
  have t_z12 : ∀ b, z12 = some b → (b, Sum.inl 7) ∈ d := fun b hb => hW.2.1 16 _ b t_x0 (by rw [← e_z12]; exact hb)
  obtain ⟨q13, e_q13, h9⟩ := h
  replace h := h9
  clear h9
  refine ⟨q13, e_q13, ?_⟩
  have t_q13 := t_z12 q13 e_q13
  refine ⟨hasO_of hW t_q13, ?_⟩
  intro z14 e_z14
  replace h := h z14 e_z14
  have t_z14 : ∀ b, z14 = some b → (b, Sum.inr (460, 0)) ∈ d := fun b hb => hW.2.1 50 _ b t_q13 (by rw [← e_z14]; exact hb)
  have n_z14 := wt_nn (f := 50) hW (by decide) t_q13 e_z14
  refine ⟨hasO_of hW t_x0, ?_⟩
  intro z15 e_z15
  replace h := h z15 e_z15
  obtain ⟨q16, e_q16⟩ := n_z14
  refine ⟨q16, e_q16, ?_⟩
  replace h := h q16 e_q16
  have t_q16 := t_z14 q16 e_q16
  refine ⟨hasA_of hW t_q16, ?_⟩
  have hin := h.1
  refine ⟨h.1, ?_⟩
  replace h := h.2
  intro z17 e_z17
  replace h := h z17 e_z17
  refine ⟨fun c => ?_, fun c => ?_⟩
  · replace h := h.1 c
    exact ty_X3_leftLoop_83 hk t_z10 hW h
  · replace h := h.2 c
    exact ty_X3_leftLoop_83 hk t_z10 hW h
theorem ty_X3_leftLoop_15 {d : List (Nat × cK)} {K K' : kS → Prop} (hk : ∀ S1, WT d S1 → K S1 → K' S1) {x0 : Nat} {y0 : Int32} (t_x0 : (x0, Sum.inl 3) ∈ d) {S : kS} (hW : WT d S) (h : wT_X3_leftLoop_15 K x0 y0 S) : wp_X3_leftLoop_15 K' x0 y0 S := by
  unfold wT_X3_leftLoop_15 at h
  unfold wp_X3_leftLoop_15
  refine ⟨hasO_of hW t_x0, ?_⟩
  intro z3 e_z3
  replace h := h z3 e_z3
  refine ⟨fun c => ?_, fun c => ?_⟩
  · replace h := h.1 c
    refine ⟨hasO_of hW t_x0, ?_⟩
    refine ty_X3_step t_x0 hW (fun S5 hW h => ?_) h
    refine ⟨fun c => ?_, fun c => ?_⟩
    · replace h := h.1 c
      exact ty_X3_leftLoop_45 hk t_x0 t_x0 hW h
    · replace h := h.2 c
      exact ty_X3_leftLoop_45 hk t_x0 t_x0 hW h
  · replace h := h.2 c
    refine ⟨hasO_of hW t_x0, ?_⟩
    refine ty_X3_wrong t_x0 hW (fun S7 hW h => ?_) h
    exact hk _ hW h
theorem ty_X3_leftLoop {d : List (Nat × cK)} {t0 : Nat} (t_t0 : (t0, Sum.inl 3) ∈ d) {S : kS} {K K' : kS → Prop} (hW : WT d S) (hk : ∀ S1, WT d S1 → K S1 → K' S1) (h : wT_X3_leftLoop t0 S K) : wp_X3_leftLoop t0 S K' := by
  unfold wT_X3_leftLoop at h
  unfold wp_X3_leftLoop
  refine ⟨hasO_of hW t_t0, ?_⟩
  refine ty_X3_kind t_t0 hW (fun S1 r1 hW h => ?_) h
  refine ⟨fun c => ?_, fun c => ?_⟩
  · replace h := h.1 c
    exact ty_X3_leftLoop_15 hk t_t0 hW h
  · replace h := h.2 c
    exact ty_X3_leftLoop_15 hk t_t0 hW h
def wT_X7_newLoop (t0 : Nat) (a0 : Int32) (a1 : Int32) (S : kS) (K : kS → Int32 → Prop) : Prop := ∀ z1 : Int32, z1 = S.1 25 t0 → ((z1 < 460 → ∀ z3 : Option Nat, z3 = S.2.1 50 t0 → ∀ z4 : Int32, z4 = S.1 25 t0 → ∀ q5 : Nat, z3 = some q5 → inR z4 460 ∧ ∀ S6 : kS, S6 = cA S q5 (ix z4) a0 → ∀ z7 : Option Nat, z7 = S6.2.1 51 t0 → ∀ z8 : Int32, z8 = S6.1 25 t0 → ∀ q9 : Nat, z7 = some q9 → inR z8 460 ∧ ∀ S10 : kS, S10 = cA S6 q9 (ix z8) a1 → ∀ z11 : Int32, z11 = S10.1 25 t0 → ∀ z12 : Int32, z12 = z11 + 1 → ∀ S13 : kS, S13 = cI S10 25 t0 z12 → ∀ z14 : Int32, z14 = S13.1 25 t0 → ∀ z15 : Int32, z15 = z14 - 1 → K S13 z15) ∧ (¬ z1 < 460 → K S (-1)))
theorem ty_X7_newLoop {d : List (Nat × cK)} {t0 : Nat} {a0 : Int32} {a1 : Int32} (t_t0 : (t0, Sum.inl 7) ∈ d) {S : kS} {K K' : kS → Int32 → Prop} (hW : WT d S) (hk : ∀ S1 r1, WT d S1 → K S1 r1 → K' S1 r1) (h : wT_X7_newLoop t0 a0 a1 S K) : wp_X7_newLoop t0 a0 a1 S K' := by
  unfold wT_X7_newLoop at h
  unfold wp_X7_newLoop
  refine ⟨hasO_of hW t_t0, ?_⟩
  intro z1 e_z1
  replace h := h z1 e_z1
  refine ⟨fun c => ?_, fun c => ?_⟩
  · replace h := h.1 c
    refine ⟨hasO_of hW t_t0, ?_⟩
    intro z3 e_z3
    replace h := h z3 e_z3
    have t_z3 : ∀ b, z3 = some b → (b, Sum.inr (460, 0)) ∈ d := fun b hb => hW.2.1 50 _ b t_t0 (by rw [← e_z3]; exact hb)
    have n_z3 := wt_nn (f := 50) hW (by decide) t_t0 e_z3
    refine ⟨hasO_of hW t_t0, ?_⟩
    intro z4 e_z4
    replace h := h z4 e_z4
    obtain ⟨q5, e_q5⟩ := n_z3
    refine ⟨q5, e_q5, ?_⟩
    replace h := h q5 e_q5
    have t_q5 := t_z3 q5 e_q5
    refine ⟨hasA_of hW t_q5, ?_⟩
    have hin := h.1
    refine ⟨h.1, ?_⟩
    replace h := h.2
    intro S6 e_S6
    replace h := h S6 e_S6
    replace hW := WT_a hW e_S6
    refine ⟨hasO_of hW t_t0, ?_⟩
    intro z7 e_z7
    replace h := h z7 e_z7
    have t_z7 : ∀ b, z7 = some b → (b, Sum.inr (460, 0)) ∈ d := fun b hb => hW.2.1 51 _ b t_t0 (by rw [← e_z7]; exact hb)
    have n_z7 := wt_nn (f := 51) hW (by decide) t_t0 e_z7
    refine ⟨hasO_of hW t_t0, ?_⟩
    intro z8 e_z8
    replace h := h z8 e_z8
    obtain ⟨q9, e_q9⟩ := n_z7
    refine ⟨q9, e_q9, ?_⟩
    replace h := h q9 e_q9
    have t_q9 := t_z7 q9 e_q9
    refine ⟨hasA_of hW t_q9, ?_⟩
    have hin := h.1
    refine ⟨h.1, ?_⟩
    replace h := h.2
    intro S10 e_S10
    replace h := h S10 e_S10
    replace hW := WT_a hW e_S10
    refine ⟨hasO_of hW t_t0, ?_⟩
    intro z11 e_z11
    replace h := h z11 e_z11
    intro z12 e_z12
    replace h := h z12 e_z12
    refine ⟨hasO_of hW t_t0, ?_⟩
    intro S13 e_S13
    replace h := h S13 e_S13
    replace hW := WT_i hW e_S13
    refine ⟨hasO_of hW t_t0, ?_⟩
    intro z14 e_z14
    replace h := h z14 e_z14
    intro z15 e_z15
    replace h := h z15 e_z15
    exact hk _ _ hW h
  · replace h := h.2 c
    exact hk _ _ hW h
def wT_X3_returned_12 (K : kS → Prop) (x0 : Nat) (S : kS) : Prop := wT_X3_step x0 S (fun (S4 : kS) => wU_X3_expression x0 0 S4 (fun (S5 : kS) => ∀ z6 : Option Nat, z6 = S5.2.1 15 x0 → ∃ q7 : Nat, z6 = some q7 ∧ ∀ z8 : Int32, z8 = S5.1 18 q7 → ∀ z9 : Int32, z9 = z8 - 1 → wT_X3_emit x0 19 z9 S5 (fun (S10 : kS) (r10 : Int32) => K S10)))
def wT_X3_returned (t0 : Nat) (S : kS) (K : kS → Prop) : Prop := ∀ z1 : Int32, z1 = S.1 10 t0 → ((z1 ≤ 0 → wT_X3_returned_12 K t0 S) ∧ (¬ z1 ≤ 0 → wT_X3_wrong t0 1 S (fun (S3 : kS) => wT_X3_returned_12 K t0 S3)))
theorem ty_X3_returned_12 {d : List (Nat × cK)} {K K' : kS → Prop} (hk : ∀ S1, WT d S1 → K S1 → K' S1) {x0 : Nat} (t_x0 : (x0, Sum.inl 3) ∈ d) {S : kS} (hW : WT d S) (h : wT_X3_returned_12 K x0 S) : wp_X3_returned_12 K' x0 S := by
  unfold wT_X3_returned_12 at h
  unfold wp_X3_returned_12
  refine ⟨hasO_of hW t_x0, ?_⟩
  refine ty_X3_step t_x0 hW (fun S4 hW h => ?_) h
  refine ⟨hasO_of hW t_x0, ?_⟩
  refine tq_X3_expression t_x0 hW (fun S5 hW h => ?_) h
  refine ⟨hasO_of hW t_x0, ?_⟩
  intro z6 e_z6
  replace h := h z6 e_z6
  have t_z6 : ∀ b, z6 = some b → (b, Sum.inl 5) ∈ d := fun b hb => hW.2.1 15 _ b t_x0 (by rw [← e_z6]; exact hb)
  obtain ⟨q7, e_q7, h9⟩ := h
  replace h := h9
  clear h9
  refine ⟨q7, e_q7, ?_⟩
  have t_q7 := t_z6 q7 e_q7
  refine ⟨hasO_of hW t_q7, ?_⟩
  intro z8 e_z8
  replace h := h z8 e_z8
  intro z9 e_z9
  replace h := h z9 e_z9
  refine ⟨hasO_of hW t_x0, ?_⟩
  refine ty_X3_emit t_x0 hW (fun S10 r10 hW h => ?_) h
  exact hk _ hW h
theorem ty_X3_returned {d : List (Nat × cK)} {t0 : Nat} (t_t0 : (t0, Sum.inl 3) ∈ d) {S : kS} {K K' : kS → Prop} (hW : WT d S) (hk : ∀ S1, WT d S1 → K S1 → K' S1) (h : wT_X3_returned t0 S K) : wp_X3_returned t0 S K' := by
  unfold wT_X3_returned at h
  unfold wp_X3_returned
  refine ⟨hasO_of hW t_t0, ?_⟩
  intro z1 e_z1
  replace h := h z1 e_z1
  refine ⟨fun c => ?_, fun c => ?_⟩
  · replace h := h.1 c
    exact ty_X3_returned_12 hk t_t0 hW h
  · replace h := h.2 c
    refine ⟨hasO_of hW t_t0, ?_⟩
    refine ty_X3_wrong t_t0 hW (fun S3 hW h => ?_) h
    exact ty_X3_returned_12 hk t_t0 hW h
def wT_X7_mark (t0 : Nat) (a0 : Int32) (a1 : Int32) (S : kS) (K : kS → Prop) : Prop := ∀ z1 : Option Nat, z1 = S.2.1 49 t0 → ∀ q2 : Nat, z1 = some q2 → inR a0 460 ∧ ∀ z3 : Int32, z3 = S.2.2.1 q2 (ix a0) → ∀ z4 : Int32, z4 = z3 ||| a1 → inR a0 460 ∧ ∀ S5 : kS, S5 = cA S q2 (ix a0) z4 → K S5
theorem ty_X7_mark {d : List (Nat × cK)} {t0 : Nat} {a0 : Int32} {a1 : Int32} (t_t0 : (t0, Sum.inl 7) ∈ d) {S : kS} {K K' : kS → Prop} (hW : WT d S) (hk : ∀ S1, WT d S1 → K S1 → K' S1) (h : wT_X7_mark t0 a0 a1 S K) : wp_X7_mark t0 a0 a1 S K' := by
  unfold wT_X7_mark at h
  unfold wp_X7_mark
  refine ⟨hasO_of hW t_t0, ?_⟩
  intro z1 e_z1
  replace h := h z1 e_z1
  have t_z1 : ∀ b, z1 = some b → (b, Sum.inr (460, 0)) ∈ d := fun b hb => hW.2.1 49 _ b t_t0 (by rw [← e_z1]; exact hb)
  have n_z1 := wt_nn (f := 49) hW (by decide) t_t0 e_z1
  obtain ⟨q2, e_q2⟩ := n_z1
  refine ⟨q2, e_q2, ?_⟩
  replace h := h q2 e_q2
  have t_q2 := t_z1 q2 e_q2
  refine ⟨hasA_of hW t_q2, ?_⟩
  have hin := h.1
  refine ⟨h.1, ?_⟩
  replace h := h.2
  intro z3 e_z3
  replace h := h z3 e_z3
  intro z4 e_z4
  replace h := h z4 e_z4
  refine ⟨hasA_of hW t_q2, ?_⟩
  have hin := h.1
  refine ⟨h.1, ?_⟩
  replace h := h.2
  intro S5 e_S5
  replace h := h S5 e_S5
  replace hW := WT_a hW e_S5
  exact hk _ hW h
def wT_X7_newTry_48 (K : kS → Int32 → Prop) (x0 : Nat) (x2 : Int32) (y0 : Option Nat) (y1 : Int32) (y2 : Int32) (S : kS) : Prop := ∀ q15 : Nat, y0 = some q15 → inR y1 460 ∧ ∀ S16 : kS, S16 = cA S q15 (ix y1) y2 → ∀ z17 : Option Nat, z17 = S16.2.1 45 x0 → ∀ z18 : Int32, z18 = S16.1 24 x0 → ∀ q19 : Nat, z17 = some q19 → inR z18 460 ∧ ∀ S20 : kS, S20 = cA S16 q19 (ix z18) x2 → ∀ z21 : Option Nat, z21 = S20.2.1 49 x0 → ∀ z22 : Int32, z22 = S20.1 24 x0 → ∀ q23 : Nat, z21 = some q23 → inR z22 460 ∧ ∀ S24 : kS, S24 = cA S20 q23 (ix z22) 0 → ∀ z25 : Int32, z25 = S24.1 24 x0 → ∀ z26 : Int32, z26 = z25 + 1 → ∀ S27 : kS, S27 = cI S24 24 x0 z26 → ∀ z28 : Int32, z28 = S27.1 24 x0 → ∀ z29 : Int32, z29 = z28 - 1 → K S27 z29
def wT_X7_newTry (t0 : Nat) (a0 : Int32) (a1 : Int32) (S : kS) (K : kS → Int32 → Prop) : Prop := ∀ z1 : Int32, z1 = S.1 24 t0 → ((z1 < 460 → ∀ z3 : Option Nat, z3 = S.2.1 43 t0 → ∀ z4 : Int32, z4 = S.1 24 t0 → ∀ q5 : Nat, z3 = some q5 → inR z4 460 ∧ ∀ S6 : kS, S6 = cA S q5 (ix z4) a0 → ∀ z7 : Option Nat, z7 = S6.2.1 44 t0 → ∀ z8 : Int32, z8 = S6.1 24 t0 → ((0 ≤ a0 → ∀ z10 : Option Nat, z10 = S6.2.1 44 t0 → ¬ (3 : Int32) = 0 ∧ ∀ z11 : Int32, z11 = a0 / 3 → ∀ q12 : Nat, z10 = some q12 → inR z11 460 ∧ ∀ z13 : Int32, z13 = S6.2.2.1 q12 (ix z11) → ∀ z14 : Int32, z14 = z13 + 1 → wT_X7_newTry_48 K t0 a1 z7 z8 z14 S6) ∧ (¬ 0 ≤ a0 → wT_X7_newTry_48 K t0 a1 z7 z8 0 S6))) ∧ (¬ z1 < 460 → K S (-1)))
theorem ty_X7_newTry_48 {d : List (Nat × cK)} {K K' : kS → Int32 → Prop} (hk : ∀ S1 r1, WT d S1 → K S1 r1 → K' S1 r1) {x0 : Nat} {x2 : Int32} {y0 : Option Nat} {y1 : Int32} {y2 : Int32} (t_x0 : (x0, Sum.inl 7) ∈ d) (t_y0 : ∀ b, y0 = some b → (b, Sum.inr (460, 0)) ∈ d) (n_y0 : ∃ q, y0 = some q) {S : kS} (hW : WT d S) (h : wT_X7_newTry_48 K x0 x2 y0 y1 y2 S) : wp_X7_newTry_48 K' x0 x2 y0 y1 y2 S := by
  unfold wT_X7_newTry_48 at h
  unfold wp_X7_newTry_48
  obtain ⟨q15, e_q15⟩ := n_y0
  refine ⟨q15, e_q15, ?_⟩
  replace h := h q15 e_q15
  have t_q15 := t_y0 q15 e_q15
  refine ⟨hasA_of hW t_q15, ?_⟩
  have hin := h.1
  refine ⟨h.1, ?_⟩
  replace h := h.2
  intro S16 e_S16
  replace h := h S16 e_S16
  replace hW := WT_a hW e_S16
  refine ⟨hasO_of hW t_x0, ?_⟩
  intro z17 e_z17
  replace h := h z17 e_z17
  have t_z17 : ∀ b, z17 = some b → (b, Sum.inr (460, 0)) ∈ d := fun b hb => hW.2.1 45 _ b t_x0 (by rw [← e_z17]; exact hb)
  have n_z17 := wt_nn (f := 45) hW (by decide) t_x0 e_z17
  refine ⟨hasO_of hW t_x0, ?_⟩
  intro z18 e_z18
  replace h := h z18 e_z18
  obtain ⟨q19, e_q19⟩ := n_z17
  refine ⟨q19, e_q19, ?_⟩
  replace h := h q19 e_q19
  have t_q19 := t_z17 q19 e_q19
  refine ⟨hasA_of hW t_q19, ?_⟩
  have hin := h.1
  refine ⟨h.1, ?_⟩
  replace h := h.2
  intro S20 e_S20
  replace h := h S20 e_S20
  replace hW := WT_a hW e_S20
  refine ⟨hasO_of hW t_x0, ?_⟩
  intro z21 e_z21
  replace h := h z21 e_z21
  have t_z21 : ∀ b, z21 = some b → (b, Sum.inr (460, 0)) ∈ d := fun b hb => hW.2.1 49 _ b t_x0 (by rw [← e_z21]; exact hb)
  have n_z21 := wt_nn (f := 49) hW (by decide) t_x0 e_z21
  refine ⟨hasO_of hW t_x0, ?_⟩
  intro z22 e_z22
  replace h := h z22 e_z22
  obtain ⟨q23, e_q23⟩ := n_z21
  refine ⟨q23, e_q23, ?_⟩
  replace h := h q23 e_q23
  have t_q23 := t_z21 q23 e_q23
  refine ⟨hasA_of hW t_q23, ?_⟩
  have hin := h.1
  refine ⟨h.1, ?_⟩
  replace h := h.2
  intro S24 e_S24
  replace h := h S24 e_S24
  replace hW := WT_a hW e_S24
  refine ⟨hasO_of hW t_x0, ?_⟩
  intro z25 e_z25
  replace h := h z25 e_z25
  intro z26 e_z26
  replace h := h z26 e_z26
  refine ⟨hasO_of hW t_x0, ?_⟩
  intro S27 e_S27
  replace h := h S27 e_S27
  replace hW := WT_i hW e_S27
  refine ⟨hasO_of hW t_x0, ?_⟩
  intro z28 e_z28
  replace h := h z28 e_z28
  intro z29 e_z29
  replace h := h z29 e_z29
  exact hk _ _ hW h
theorem ty_X7_newTry {d : List (Nat × cK)} {t0 : Nat} {a0 : Int32} {a1 : Int32} (t_t0 : (t0, Sum.inl 7) ∈ d) {S : kS} {K K' : kS → Int32 → Prop} (hW : WT d S) (hk : ∀ S1 r1, WT d S1 → K S1 r1 → K' S1 r1) (h : wT_X7_newTry t0 a0 a1 S K) : wp_X7_newTry t0 a0 a1 S K' := by
  unfold wT_X7_newTry at h
  unfold wp_X7_newTry
  refine ⟨hasO_of hW t_t0, ?_⟩
  intro z1 e_z1
  replace h := h z1 e_z1
  refine ⟨fun c => ?_, fun c => ?_⟩
  · replace h := h.1 c
    refine ⟨hasO_of hW t_t0, ?_⟩
    intro z3 e_z3
    replace h := h z3 e_z3
    have t_z3 : ∀ b, z3 = some b → (b, Sum.inr (460, 0)) ∈ d := fun b hb => hW.2.1 43 _ b t_t0 (by rw [← e_z3]; exact hb)
    have n_z3 := wt_nn (f := 43) hW (by decide) t_t0 e_z3
    refine ⟨hasO_of hW t_t0, ?_⟩
    intro z4 e_z4
    replace h := h z4 e_z4
    obtain ⟨q5, e_q5⟩ := n_z3
    refine ⟨q5, e_q5, ?_⟩
    replace h := h q5 e_q5
    have t_q5 := t_z3 q5 e_q5
    refine ⟨hasA_of hW t_q5, ?_⟩
    have hin := h.1
    refine ⟨h.1, ?_⟩
    replace h := h.2
    intro S6 e_S6
    replace h := h S6 e_S6
    replace hW := WT_a hW e_S6
    refine ⟨hasO_of hW t_t0, ?_⟩
    intro z7 e_z7
    replace h := h z7 e_z7
    have t_z7 : ∀ b, z7 = some b → (b, Sum.inr (460, 0)) ∈ d := fun b hb => hW.2.1 44 _ b t_t0 (by rw [← e_z7]; exact hb)
    have n_z7 := wt_nn (f := 44) hW (by decide) t_t0 e_z7
    refine ⟨hasO_of hW t_t0, ?_⟩
    intro z8 e_z8
    replace h := h z8 e_z8
    refine ⟨fun c => ?_, fun c => ?_⟩
    · replace h := h.1 c
      refine ⟨hasO_of hW t_t0, ?_⟩
      intro z10 e_z10
      replace h := h z10 e_z10
      have t_z10 : ∀ b, z10 = some b → (b, Sum.inr (460, 0)) ∈ d := fun b hb => hW.2.1 44 _ b t_t0 (by rw [← e_z10]; exact hb)
      have n_z10 := wt_nn (f := 44) hW (by decide) t_t0 e_z10
      have hin := h.1
      refine ⟨h.1, ?_⟩
      replace h := h.2
      intro z11 e_z11
      replace h := h z11 e_z11
      obtain ⟨q12, e_q12⟩ := n_z10
      refine ⟨q12, e_q12, ?_⟩
      replace h := h q12 e_q12
      have t_q12 := t_z10 q12 e_q12
      refine ⟨hasA_of hW t_q12, ?_⟩
      have hin := h.1
      refine ⟨h.1, ?_⟩
      replace h := h.2
      intro z13 e_z13
      replace h := h z13 e_z13
      intro z14 e_z14
      replace h := h z14 e_z14
      exact ty_X7_newTry_48 hk t_t0 t_z7 n_z7 hW h
    · replace h := h.2 c
      exact ty_X7_newTry_48 hk t_t0 t_z7 n_z7 hW h
  · replace h := h.2 c
    exact hk _ _ hW h
def wT_X3_finished (r_X3_block : Nat → Int32 → kS → (kS → Prop) → Prop) (t0 : Nat) (a0 : Int32) (a1 : Int32) (S : kS) (K : kS → Prop) : Prop := ∀ z1 : Int32, z1 = S.1 9 t0 → ∀ S2 : kS, S2 = cI S 9 t0 (-1) → ∀ z3 : Int32, z3 = S2.1 10 t0 → ∀ z4 : Int32, z4 = z3 + 1 → ∀ S5 : kS, S5 = cI S2 10 t0 z4 → ∀ z6 : Option Nat, z6 = S5.2.1 16 t0 → ∃ q7 : Nat, z6 = some q7 ∧ ∀ z8 : Option Nat, z8 = S5.2.1 47 q7 → ∀ z9 : Option Nat, z9 = S5.2.1 15 t0 → ∃ q10 : Nat, z9 = some q10 ∧ ∀ z11 : Int32, z11 = S5.1 17 q10 → ∀ q12 : Nat, z8 = some q12 → inR a1 460 ∧ ∀ S13 : kS, S13 = cA S5 q12 (ix a1) z11 → r_X3_block t0 a0 S13 (fun (S14 : kS) => wT_X3_emit t0 23 a1 S14 (fun (S15 : kS) (r15 : Int32) => ∀ z16 : Int32, z16 = S15.1 10 t0 → ∀ z17 : Int32, z17 = z16 - 1 → ∀ S18 : kS, S18 = cI S15 10 t0 z17 → ∀ S19 : kS, S19 = cI S18 9 t0 z1 → K S19))
theorem ty_X3_finished {d : List (Nat × cK)} {r_X3_block u_X3_block : Nat → Int32 → kS → (kS → Prop) → Prop} (hr_X3_block : ∀ (t0 : Nat) (a0 : Int32), ((t0, Sum.inl 3) ∈ d) → ∀ (S : kS) (K K' : kS → Prop), WT d S → (∀ S1, WT d S1 → K S1 → K' S1) → u_X3_block t0 a0 S K → r_X3_block t0 a0 S K') {t0 : Nat} {a0 : Int32} {a1 : Int32} (t_t0 : (t0, Sum.inl 3) ∈ d) {S : kS} {K K' : kS → Prop} (hW : WT d S) (hk : ∀ S1, WT d S1 → K S1 → K' S1) (h : wT_X3_finished u_X3_block t0 a0 a1 S K) : wp_X3_finished r_X3_block t0 a0 a1 S K' := by
  unfold wT_X3_finished at h
  unfold wp_X3_finished
  refine ⟨hasO_of hW t_t0, ?_⟩
  intro z1 e_z1
  replace h := h z1 e_z1
  refine ⟨hasO_of hW t_t0, ?_⟩
  intro S2 e_S2
  replace h := h S2 e_S2
  replace hW := WT_i hW e_S2
  refine ⟨hasO_of hW t_t0, ?_⟩
  intro z3 e_z3
  replace h := h z3 e_z3
  intro z4 e_z4
  replace h := h z4 e_z4
  refine ⟨hasO_of hW t_t0, ?_⟩
  intro S5 e_S5
  replace h := h S5 e_S5
  replace hW := WT_i hW e_S5
  refine ⟨hasO_of hW t_t0, ?_⟩
  intro z6 e_z6
  replace h := h z6 e_z6
  have t_z6 : ∀ b, z6 = some b → (b, Sum.inl 7) ∈ d := fun b hb => hW.2.1 16 _ b t_t0 (by rw [← e_z6]; exact hb)
  obtain ⟨q7, e_q7, h9⟩ := h
  replace h := h9
  clear h9
  refine ⟨q7, e_q7, ?_⟩
  have t_q7 := t_z6 q7 e_q7
  refine ⟨hasO_of hW t_q7, ?_⟩
  intro z8 e_z8
  replace h := h z8 e_z8
  have t_z8 : ∀ b, z8 = some b → (b, Sum.inr (460, 0)) ∈ d := fun b hb => hW.2.1 47 _ b t_q7 (by rw [← e_z8]; exact hb)
  have n_z8 := wt_nn (f := 47) hW (by decide) t_q7 e_z8
  refine ⟨hasO_of hW t_t0, ?_⟩
  intro z9 e_z9
  replace h := h z9 e_z9
  have t_z9 : ∀ b, z9 = some b → (b, Sum.inl 5) ∈ d := fun b hb => hW.2.1 15 _ b t_t0 (by rw [← e_z9]; exact hb)
  obtain ⟨q10, e_q10, h9⟩ := h
  replace h := h9
  clear h9
  refine ⟨q10, e_q10, ?_⟩
  have t_q10 := t_z9 q10 e_q10
  refine ⟨hasO_of hW t_q10, ?_⟩
  intro z11 e_z11
  replace h := h z11 e_z11
  obtain ⟨q12, e_q12⟩ := n_z8
  refine ⟨q12, e_q12, ?_⟩
  replace h := h q12 e_q12
  have t_q12 := t_z8 q12 e_q12
  refine ⟨hasA_of hW t_q12, ?_⟩
  have hin := h.1
  refine ⟨h.1, ?_⟩
  replace h := h.2
  intro S13 e_S13
  replace h := h S13 e_S13
  replace hW := WT_a hW e_S13
  refine ⟨hasO_of hW t_t0, ?_⟩
  refine hr_X3_block _ _ t_t0 _ _ _ hW (fun S14 hW h => ?_) h
  refine ⟨hasO_of hW t_t0, ?_⟩
  refine ty_X3_emit t_t0 hW (fun S15 r15 hW h => ?_) h
  refine ⟨hasO_of hW t_t0, ?_⟩
  intro z16 e_z16
  replace h := h z16 e_z16
  intro z17 e_z17
  replace h := h z17 e_z17
  refine ⟨hasO_of hW t_t0, ?_⟩
  intro S18 e_S18
  replace h := h S18 e_S18
  replace hW := WT_i hW e_S18
  refine ⟨hasO_of hW t_t0, ?_⟩
  intro S19 e_S19
  replace h := h S19 e_S19
  replace hW := WT_i hW e_S19
  exact hk _ hW h
def wT_X3_tried_170 (r_X3_block : Nat → Int32 → kS → (kS → Prop) → Prop) (K : kS → Prop) (x0 : Nat) (x2 : Int32) (x3 : Int32) (S : kS) : Prop := ∀ z44 : Option Nat, z44 = S.2.1 16 x0 → ∃ q45 : Nat, z44 = some q45 ∧ ∀ z46 : Option Nat, z46 = S.2.1 48 q45 → ∀ z47 : Option Nat, z47 = S.2.1 15 x0 → ∃ q48 : Nat, z47 = some q48 ∧ ∀ z49 : Int32, z49 = S.1 17 q48 → ∀ q50 : Nat, z46 = some q50 → inR x3 460 ∧ ∀ S51 : kS, S51 = cA S q50 (ix x3) z49 → ∀ S52 : kS, S52 = cI S51 8 x0 x2 → K S52
def wT_X3_tried_136 (r_X3_block : Nat → Int32 → kS → (kS → Prop) → Prop) (K : kS → Prop) (x0 : Nat) (x1 : Int32) (x2 : Int32) (x3 : Int32) (S : kS) : Prop := wT_X3_take x0 212 S (fun (S35 : kS) (r35 : Int32) => ((r35 = 0 → wT_X3_tried_170 r_X3_block K x0 x2 x3 S35) ∧ (¬ r35 = 0 → ∀ z37 : Int32, z37 = x3 * 3 → ∀ z38 : Int32, z38 = z37 + 2 → ∀ S39 : kS, S39 = cI S35 8 x0 z38 → ∀ z40 : Option Nat, z40 = S39.2.1 16 x0 → ∃ q41 : Nat, z40 = some q41 ∧ wT_X7_mark q41 x3 2 S39 (fun (S42 : kS) => wT_X3_finished r_X3_block x0 x1 x3 S42 (fun (S43 : kS) => wT_X3_tried_170 r_X3_block K x0 x2 x3 S43)))))
def wT_X3_tried_76 (r_X3_block : Nat → Int32 → kS → (kS → Prop) → Prop) (K : kS → Prop) (x0 : Nat) (x1 : Int32) (x2 : Int32) (x3 : Int32) (S : kS) : Prop := wT_X3_take x0 211 S (fun (S18 : kS) (r18 : Int32) => ((r18 = 0 → wT_X3_tried_136 r_X3_block K x0 x1 x2 x3 S18) ∧ (¬ r18 = 0 → ∀ z20 : Int32, z20 = x3 * 3 → ∀ z21 : Int32, z21 = z20 + 1 → ∀ S22 : kS, S22 = cI S18 8 x0 z21 → ∀ z23 : Option Nat, z23 = S22.2.1 16 x0 → ∃ q24 : Nat, z23 = some q24 ∧ wT_X7_mark q24 x3 1 S22 (fun (S25 : kS) => ∀ z26 : Option Nat, z26 = S25.2.1 16 x0 → ∃ q27 : Nat, z26 = some q27 ∧ ∀ z28 : Option Nat, z28 = S25.2.1 46 q27 → wT_X3_cellHere x0 S25 (fun (S29 : kS) (r29 : Int32) => wT_X3_emit x0 22 r29 S29 (fun (S30 : kS) (r30 : Int32) => ∀ q31 : Nat, z28 = some q31 → inR x3 460 ∧ ∀ S32 : kS, S32 = cA S30 q31 (ix x3) r30 → r_X3_block x0 x1 S32 (fun (S33 : kS) => wT_X3_emit x0 21 x3 S33 (fun (S34 : kS) (r34 : Int32) => wT_X3_tried_136 r_X3_block K x0 x1 x2 x3 S34))))))))
def wT_X3_tried (r_X3_block : Nat → Int32 → kS → (kS → Prop) → Prop) (t0 : Nat) (a0 : Int32) (S : kS) (K : kS → Prop) : Prop := ∀ z1 : Int32, z1 = S.1 8 t0 → ∀ z2 : Option Nat, z2 = S.2.1 16 t0 → ∀ z3 : Int32, z3 = S.1 9 t0 → ∃ q4 : Nat, z2 = some q4 ∧ wT_X7_newTry q4 z1 z3 S (fun (S5 : kS) (r5 : Int32) => ((¬ r5 = (-1) → ∀ z7 : Int32, z7 = r5 * 3 → ∀ z8 : Int32, z8 = z7 + 0 → ∀ S9 : kS, S9 = cI S5 8 t0 z8 → r_X3_block t0 a0 S9 (fun (S10 : kS) => wT_X3_emit t0 21 r5 S10 (fun (S11 : kS) (r11 : Int32) => wT_X3_kind t0 S11 (fun (S12 : kS) (r12 : Int32) => ((r12 = 211 → wT_X3_tried_76 r_X3_block K t0 a0 z1 r5 S12) ∧ (¬ r12 = 211 → wT_X3_kind t0 S12 (fun (S14 : kS) (r14 : Int32) => ((r14 = 212 → wT_X3_tried_76 r_X3_block K t0 a0 z1 r5 S14) ∧ (¬ r14 = 212 → wT_X3_wrong t0 1 S14 (fun (S16 : kS) => wT_X3_tried_76 r_X3_block K t0 a0 z1 r5 S16)))))))))) ∧ (r5 = (-1) → wT_X3_wrong t0 5 S5 (fun (S17 : kS) => K S17))))
theorem ty_X3_tried_170 {d : List (Nat × cK)} {r_X3_block u_X3_block : Nat → Int32 → kS → (kS → Prop) → Prop} (hr_X3_block : ∀ (t0 : Nat) (a0 : Int32), ((t0, Sum.inl 3) ∈ d) → ∀ (S : kS) (K K' : kS → Prop), WT d S → (∀ S1, WT d S1 → K S1 → K' S1) → u_X3_block t0 a0 S K → r_X3_block t0 a0 S K') {K K' : kS → Prop} (hk : ∀ S1, WT d S1 → K S1 → K' S1) {x0 : Nat} {x2 : Int32} {x3 : Int32} (t_x0 : (x0, Sum.inl 3) ∈ d) {S : kS} (hW : WT d S) (h : wT_X3_tried_170 u_X3_block K x0 x2 x3 S) : wp_X3_tried_170 r_X3_block K' x0 x2 x3 S := by
  unfold wT_X3_tried_170 at h
  unfold wp_X3_tried_170
  refine ⟨hasO_of hW t_x0, ?_⟩
  intro z44 e_z44
  replace h := h z44 e_z44
  have t_z44 : ∀ b, z44 = some b → (b, Sum.inl 7) ∈ d := fun b hb => hW.2.1 16 _ b t_x0 (by rw [← e_z44]; exact hb)
  obtain ⟨q45, e_q45, h9⟩ := h
  replace h := h9
  clear h9
  refine ⟨q45, e_q45, ?_⟩
  have t_q45 := t_z44 q45 e_q45
  refine ⟨hasO_of hW t_q45, ?_⟩
  intro z46 e_z46
  replace h := h z46 e_z46
  have t_z46 : ∀ b, z46 = some b → (b, Sum.inr (460, 0)) ∈ d := fun b hb => hW.2.1 48 _ b t_q45 (by rw [← e_z46]; exact hb)
  have n_z46 := wt_nn (f := 48) hW (by decide) t_q45 e_z46
  refine ⟨hasO_of hW t_x0, ?_⟩
  intro z47 e_z47
  replace h := h z47 e_z47
  have t_z47 : ∀ b, z47 = some b → (b, Sum.inl 5) ∈ d := fun b hb => hW.2.1 15 _ b t_x0 (by rw [← e_z47]; exact hb)
  obtain ⟨q48, e_q48, h9⟩ := h
  replace h := h9
  clear h9
  refine ⟨q48, e_q48, ?_⟩
  have t_q48 := t_z47 q48 e_q48
  refine ⟨hasO_of hW t_q48, ?_⟩
  intro z49 e_z49
  replace h := h z49 e_z49
  obtain ⟨q50, e_q50⟩ := n_z46
  refine ⟨q50, e_q50, ?_⟩
  replace h := h q50 e_q50
  have t_q50 := t_z46 q50 e_q50
  refine ⟨hasA_of hW t_q50, ?_⟩
  have hin := h.1
  refine ⟨h.1, ?_⟩
  replace h := h.2
  intro S51 e_S51
  replace h := h S51 e_S51
  replace hW := WT_a hW e_S51
  refine ⟨hasO_of hW t_x0, ?_⟩
  intro S52 e_S52
  replace h := h S52 e_S52
  replace hW := WT_i hW e_S52
  exact hk _ hW h
theorem ty_X3_tried_136 {d : List (Nat × cK)} {r_X3_block u_X3_block : Nat → Int32 → kS → (kS → Prop) → Prop} (hr_X3_block : ∀ (t0 : Nat) (a0 : Int32), ((t0, Sum.inl 3) ∈ d) → ∀ (S : kS) (K K' : kS → Prop), WT d S → (∀ S1, WT d S1 → K S1 → K' S1) → u_X3_block t0 a0 S K → r_X3_block t0 a0 S K') {K K' : kS → Prop} (hk : ∀ S1, WT d S1 → K S1 → K' S1) {x0 : Nat} {x1 : Int32} {x2 : Int32} {x3 : Int32} (t_x0 : (x0, Sum.inl 3) ∈ d) {S : kS} (hW : WT d S) (h : wT_X3_tried_136 u_X3_block K x0 x1 x2 x3 S) : wp_X3_tried_136 r_X3_block K' x0 x1 x2 x3 S := by
  unfold wT_X3_tried_136 at h
  unfold wp_X3_tried_136
  refine ⟨hasO_of hW t_x0, ?_⟩
  refine ty_X3_take t_x0 hW (fun S35 r35 hW h => ?_) h
  refine ⟨fun c => ?_, fun c => ?_⟩
  · replace h := h.1 c
    exact ty_X3_tried_170 hr_X3_block hk t_x0 hW h
  · replace h := h.2 c
    intro z37 e_z37
    replace h := h z37 e_z37
    intro z38 e_z38
    replace h := h z38 e_z38
    refine ⟨hasO_of hW t_x0, ?_⟩
    intro S39 e_S39
    replace h := h S39 e_S39
    replace hW := WT_i hW e_S39
    refine ⟨hasO_of hW t_x0, ?_⟩
    intro z40 e_z40
    replace h := h z40 e_z40
    have t_z40 : ∀ b, z40 = some b → (b, Sum.inl 7) ∈ d := fun b hb => hW.2.1 16 _ b t_x0 (by rw [← e_z40]; exact hb)
    obtain ⟨q41, e_q41, h9⟩ := h
    replace h := h9
    clear h9
    refine ⟨q41, e_q41, ?_⟩
    have t_q41 := t_z40 q41 e_q41
    refine ⟨hasO_of hW t_q41, ?_⟩
    refine ty_X7_mark t_q41 hW (fun S42 hW h => ?_) h
    refine ⟨hasO_of hW t_x0, ?_⟩
    refine ty_X3_finished hr_X3_block t_x0 hW (fun S43 hW h => ?_) h
    exact ty_X3_tried_170 hr_X3_block hk t_x0 hW h
theorem ty_X3_tried_76 {d : List (Nat × cK)} {r_X3_block u_X3_block : Nat → Int32 → kS → (kS → Prop) → Prop} (hr_X3_block : ∀ (t0 : Nat) (a0 : Int32), ((t0, Sum.inl 3) ∈ d) → ∀ (S : kS) (K K' : kS → Prop), WT d S → (∀ S1, WT d S1 → K S1 → K' S1) → u_X3_block t0 a0 S K → r_X3_block t0 a0 S K') {K K' : kS → Prop} (hk : ∀ S1, WT d S1 → K S1 → K' S1) {x0 : Nat} {x1 : Int32} {x2 : Int32} {x3 : Int32} (t_x0 : (x0, Sum.inl 3) ∈ d) {S : kS} (hW : WT d S) (h : wT_X3_tried_76 u_X3_block K x0 x1 x2 x3 S) : wp_X3_tried_76 r_X3_block K' x0 x1 x2 x3 S := by
  unfold wT_X3_tried_76 at h
  unfold wp_X3_tried_76
  refine ⟨hasO_of hW t_x0, ?_⟩
  refine ty_X3_take t_x0 hW (fun S18 r18 hW h => ?_) h
  refine ⟨fun c => ?_, fun c => ?_⟩
  · replace h := h.1 c
    exact ty_X3_tried_136 hr_X3_block hk t_x0 hW h
  · replace h := h.2 c
    intro z20 e_z20
    replace h := h z20 e_z20
    intro z21 e_z21
    replace h := h z21 e_z21
    refine ⟨hasO_of hW t_x0, ?_⟩
    intro S22 e_S22
    replace h := h S22 e_S22
    replace hW := WT_i hW e_S22
    refine ⟨hasO_of hW t_x0, ?_⟩
    intro z23 e_z23
    replace h := h z23 e_z23
    have t_z23 : ∀ b, z23 = some b → (b, Sum.inl 7) ∈ d := fun b hb => hW.2.1 16 _ b t_x0 (by rw [← e_z23]; exact hb)
    obtain ⟨q24, e_q24, h9⟩ := h
    replace h := h9
    clear h9
    refine ⟨q24, e_q24, ?_⟩
    have t_q24 := t_z23 q24 e_q24
    refine ⟨hasO_of hW t_q24, ?_⟩
    refine ty_X7_mark t_q24 hW (fun S25 hW h => ?_) h
    refine ⟨hasO_of hW t_x0, ?_⟩
    intro z26 e_z26
    replace h := h z26 e_z26
    have t_z26 : ∀ b, z26 = some b → (b, Sum.inl 7) ∈ d := fun b hb => hW.2.1 16 _ b t_x0 (by rw [← e_z26]; exact hb)
    obtain ⟨q27, e_q27, h9⟩ := h
    replace h := h9
    clear h9
    refine ⟨q27, e_q27, ?_⟩
    have t_q27 := t_z26 q27 e_q27
    refine ⟨hasO_of hW t_q27, ?_⟩
    intro z28 e_z28
    replace h := h z28 e_z28
    have t_z28 : ∀ b, z28 = some b → (b, Sum.inr (460, 0)) ∈ d := fun b hb => hW.2.1 46 _ b t_q27 (by rw [← e_z28]; exact hb)
    have n_z28 := wt_nn (f := 46) hW (by decide) t_q27 e_z28
    refine ⟨hasO_of hW t_x0, ?_⟩
    refine ty_X3_cellHere t_x0 hW (fun S29 r29 hW h => ?_) h
    refine ⟨hasO_of hW t_x0, ?_⟩
    refine ty_X3_emit t_x0 hW (fun S30 r30 hW h => ?_) h
    obtain ⟨q31, e_q31⟩ := n_z28
    refine ⟨q31, e_q31, ?_⟩
    replace h := h q31 e_q31
    have t_q31 := t_z28 q31 e_q31
    refine ⟨hasA_of hW t_q31, ?_⟩
    have hin := h.1
    refine ⟨h.1, ?_⟩
    replace h := h.2
    intro S32 e_S32
    replace h := h S32 e_S32
    replace hW := WT_a hW e_S32
    refine ⟨hasO_of hW t_x0, ?_⟩
    refine hr_X3_block _ _ t_x0 _ _ _ hW (fun S33 hW h => ?_) h
    refine ⟨hasO_of hW t_x0, ?_⟩
    refine ty_X3_emit t_x0 hW (fun S34 r34 hW h => ?_) h
    exact ty_X3_tried_136 hr_X3_block hk t_x0 hW h
theorem ty_X3_tried {d : List (Nat × cK)} {r_X3_block u_X3_block : Nat → Int32 → kS → (kS → Prop) → Prop} (hr_X3_block : ∀ (t0 : Nat) (a0 : Int32), ((t0, Sum.inl 3) ∈ d) → ∀ (S : kS) (K K' : kS → Prop), WT d S → (∀ S1, WT d S1 → K S1 → K' S1) → u_X3_block t0 a0 S K → r_X3_block t0 a0 S K') {t0 : Nat} {a0 : Int32} (t_t0 : (t0, Sum.inl 3) ∈ d) {S : kS} {K K' : kS → Prop} (hW : WT d S) (hk : ∀ S1, WT d S1 → K S1 → K' S1) (h : wT_X3_tried u_X3_block t0 a0 S K) : wp_X3_tried r_X3_block t0 a0 S K' := by
  unfold wT_X3_tried at h
  unfold wp_X3_tried
  refine ⟨hasO_of hW t_t0, ?_⟩
  intro z1 e_z1
  replace h := h z1 e_z1
  refine ⟨hasO_of hW t_t0, ?_⟩
  intro z2 e_z2
  replace h := h z2 e_z2
  have t_z2 : ∀ b, z2 = some b → (b, Sum.inl 7) ∈ d := fun b hb => hW.2.1 16 _ b t_t0 (by rw [← e_z2]; exact hb)
  refine ⟨hasO_of hW t_t0, ?_⟩
  intro z3 e_z3
  replace h := h z3 e_z3
  obtain ⟨q4, e_q4, h9⟩ := h
  replace h := h9
  clear h9
  refine ⟨q4, e_q4, ?_⟩
  have t_q4 := t_z2 q4 e_q4
  refine ⟨hasO_of hW t_q4, ?_⟩
  refine ty_X7_newTry t_q4 hW (fun S5 r5 hW h => ?_) h
  refine ⟨fun c => ?_, fun c => ?_⟩
  · replace h := h.1 c
    intro z7 e_z7
    replace h := h z7 e_z7
    intro z8 e_z8
    replace h := h z8 e_z8
    refine ⟨hasO_of hW t_t0, ?_⟩
    intro S9 e_S9
    replace h := h S9 e_S9
    replace hW := WT_i hW e_S9
    refine ⟨hasO_of hW t_t0, ?_⟩
    refine hr_X3_block _ _ t_t0 _ _ _ hW (fun S10 hW h => ?_) h
    refine ⟨hasO_of hW t_t0, ?_⟩
    refine ty_X3_emit t_t0 hW (fun S11 r11 hW h => ?_) h
    refine ⟨hasO_of hW t_t0, ?_⟩
    refine ty_X3_kind t_t0 hW (fun S12 r12 hW h => ?_) h
    refine ⟨fun c => ?_, fun c => ?_⟩
    · replace h := h.1 c
      exact ty_X3_tried_76 hr_X3_block hk t_t0 hW h
    · replace h := h.2 c
      refine ⟨hasO_of hW t_t0, ?_⟩
      refine ty_X3_kind t_t0 hW (fun S14 r14 hW h => ?_) h
      refine ⟨fun c => ?_, fun c => ?_⟩
      · replace h := h.1 c
        exact ty_X3_tried_76 hr_X3_block hk t_t0 hW h
      · replace h := h.2 c
        refine ⟨hasO_of hW t_t0, ?_⟩
        refine ty_X3_wrong t_t0 hW (fun S16 hW h => ?_) h
        exact ty_X3_tried_76 hr_X3_block hk t_t0 hW h
  · replace h := h.2 c
    refine ⟨hasO_of hW t_t0, ?_⟩
    refine ty_X3_wrong t_t0 hW (fun S17 hW h => ?_) h
    exact hk _ hW h
def wT_X3_repeated (r_X3_block : Nat → Int32 → kS → (kS → Prop) → Prop) (t0 : Nat) (a0 : Int32) (a1 : Int32) (S : kS) (K : kS → Prop) : Prop := ∀ z1 : Int32, z1 = S.1 9 t0 → ∀ z2 : Option Nat, z2 = S.2.1 16 t0 → ∀ z3 : Int32, z3 = S.1 8 t0 → ∃ q4 : Nat, z2 = some q4 ∧ wT_X7_newLoop q4 z3 a1 S (fun (S5 : kS) (r5 : Int32) => ((¬ r5 = (-1) → wU_X3_expression t0 0 S5 (fun (S7 : kS) => wT_X3_emit t0 15 0 S7 (fun (S8 : kS) (r8 : Int32) => ∀ S9 : kS, S9 = cI S8 9 t0 r5 → r_X3_block t0 a0 S9 (fun (S10 : kS) => ∀ S11 : kS, S11 = cI S10 9 t0 z1 → wT_X3_emit t0 16 a1 S11 (fun (S12 : kS) (r12 : Int32) => ∀ z13 : Option Nat, z13 = S12.2.1 15 t0 → ∃ q14 : Nat, z13 = some q14 ∧ ∀ z15 : Option Nat, z15 = S12.2.1 29 q14 → ∀ z16 : Option Nat, z16 = S12.2.1 15 t0 → ∃ q17 : Nat, z16 = some q17 ∧ ∀ z18 : Int32, z18 = S12.1 17 q17 → ∀ q19 : Nat, z15 = some q19 → inR r8 8064 ∧ ∀ S20 : kS, S20 = cA S12 q19 (ix r8) z18 → ∀ z21 : Option Nat, z21 = S20.2.1 16 t0 → ∃ q22 : Nat, z21 = some q22 ∧ ∀ z23 : Option Nat, z23 = S20.2.1 52 q22 → ∀ z24 : Option Nat, z24 = S20.2.1 15 t0 → ∃ q25 : Nat, z24 = some q25 ∧ ∀ z26 : Int32, z26 = S20.1 17 q25 → ∀ q27 : Nat, z23 = some q27 → inR r5 460 ∧ ∀ S28 : kS, S28 = cA S20 q27 (ix r5) z26 → K S28))))) ∧ (r5 = (-1) → wT_X3_wrong t0 5 S5 (fun (S29 : kS) => K S29))))
theorem ty_X3_repeated {d : List (Nat × cK)} {r_X3_block u_X3_block : Nat → Int32 → kS → (kS → Prop) → Prop} (hr_X3_block : ∀ (t0 : Nat) (a0 : Int32), ((t0, Sum.inl 3) ∈ d) → ∀ (S : kS) (K K' : kS → Prop), WT d S → (∀ S1, WT d S1 → K S1 → K' S1) → u_X3_block t0 a0 S K → r_X3_block t0 a0 S K') {t0 : Nat} {a0 : Int32} {a1 : Int32} (t_t0 : (t0, Sum.inl 3) ∈ d) {S : kS} {K K' : kS → Prop} (hW : WT d S) (hk : ∀ S1, WT d S1 → K S1 → K' S1) (h : wT_X3_repeated u_X3_block t0 a0 a1 S K) : wp_X3_repeated r_X3_block t0 a0 a1 S K' := by
  unfold wT_X3_repeated at h
  unfold wp_X3_repeated
  refine ⟨hasO_of hW t_t0, ?_⟩
  intro z1 e_z1
  replace h := h z1 e_z1
  refine ⟨hasO_of hW t_t0, ?_⟩
  intro z2 e_z2
  replace h := h z2 e_z2
  have t_z2 : ∀ b, z2 = some b → (b, Sum.inl 7) ∈ d := fun b hb => hW.2.1 16 _ b t_t0 (by rw [← e_z2]; exact hb)
  refine ⟨hasO_of hW t_t0, ?_⟩
  intro z3 e_z3
  replace h := h z3 e_z3
  obtain ⟨q4, e_q4, h9⟩ := h
  replace h := h9
  clear h9
  refine ⟨q4, e_q4, ?_⟩
  have t_q4 := t_z2 q4 e_q4
  refine ⟨hasO_of hW t_q4, ?_⟩
  refine ty_X7_newLoop t_q4 hW (fun S5 r5 hW h => ?_) h
  refine ⟨fun c => ?_, fun c => ?_⟩
  · replace h := h.1 c
    refine ⟨hasO_of hW t_t0, ?_⟩
    refine tq_X3_expression t_t0 hW (fun S7 hW h => ?_) h
    refine ⟨hasO_of hW t_t0, ?_⟩
    refine ty_X3_emit t_t0 hW (fun S8 r8 hW h => ?_) h
    refine ⟨hasO_of hW t_t0, ?_⟩
    intro S9 e_S9
    replace h := h S9 e_S9
    replace hW := WT_i hW e_S9
    refine ⟨hasO_of hW t_t0, ?_⟩
    refine hr_X3_block _ _ t_t0 _ _ _ hW (fun S10 hW h => ?_) h
    refine ⟨hasO_of hW t_t0, ?_⟩
    intro S11 e_S11
    replace h := h S11 e_S11
    replace hW := WT_i hW e_S11
    refine ⟨hasO_of hW t_t0, ?_⟩
    refine ty_X3_emit t_t0 hW (fun S12 r12 hW h => ?_) h
    refine ⟨hasO_of hW t_t0, ?_⟩
    intro z13 e_z13
    replace h := h z13 e_z13
    have t_z13 : ∀ b, z13 = some b → (b, Sum.inl 5) ∈ d := fun b hb => hW.2.1 15 _ b t_t0 (by rw [← e_z13]; exact hb)
    obtain ⟨q14, e_q14, h9⟩ := h
    replace h := h9
    clear h9
    refine ⟨q14, e_q14, ?_⟩
    have t_q14 := t_z13 q14 e_q14
    refine ⟨hasO_of hW t_q14, ?_⟩
    intro z15 e_z15
    replace h := h z15 e_z15
    have t_z15 : ∀ b, z15 = some b → (b, Sum.inr (8064, 0)) ∈ d := fun b hb => hW.2.1 29 _ b t_q14 (by rw [← e_z15]; exact hb)
    have n_z15 := wt_nn (f := 29) hW (by decide) t_q14 e_z15
    refine ⟨hasO_of hW t_t0, ?_⟩
    intro z16 e_z16
    replace h := h z16 e_z16
    have t_z16 : ∀ b, z16 = some b → (b, Sum.inl 5) ∈ d := fun b hb => hW.2.1 15 _ b t_t0 (by rw [← e_z16]; exact hb)
    obtain ⟨q17, e_q17, h9⟩ := h
    replace h := h9
    clear h9
    refine ⟨q17, e_q17, ?_⟩
    have t_q17 := t_z16 q17 e_q17
    refine ⟨hasO_of hW t_q17, ?_⟩
    intro z18 e_z18
    replace h := h z18 e_z18
    obtain ⟨q19, e_q19⟩ := n_z15
    refine ⟨q19, e_q19, ?_⟩
    replace h := h q19 e_q19
    have t_q19 := t_z15 q19 e_q19
    refine ⟨hasA_of hW t_q19, ?_⟩
    have hin := h.1
    refine ⟨h.1, ?_⟩
    replace h := h.2
    intro S20 e_S20
    replace h := h S20 e_S20
    replace hW := WT_a hW e_S20
    refine ⟨hasO_of hW t_t0, ?_⟩
    intro z21 e_z21
    replace h := h z21 e_z21
    have t_z21 : ∀ b, z21 = some b → (b, Sum.inl 7) ∈ d := fun b hb => hW.2.1 16 _ b t_t0 (by rw [← e_z21]; exact hb)
    obtain ⟨q22, e_q22, h9⟩ := h
    replace h := h9
    clear h9
    refine ⟨q22, e_q22, ?_⟩
    have t_q22 := t_z21 q22 e_q22
    refine ⟨hasO_of hW t_q22, ?_⟩
    intro z23 e_z23
    replace h := h z23 e_z23
    have t_z23 : ∀ b, z23 = some b → (b, Sum.inr (460, 0)) ∈ d := fun b hb => hW.2.1 52 _ b t_q22 (by rw [← e_z23]; exact hb)
    have n_z23 := wt_nn (f := 52) hW (by decide) t_q22 e_z23
    refine ⟨hasO_of hW t_t0, ?_⟩
    intro z24 e_z24
    replace h := h z24 e_z24
    have t_z24 : ∀ b, z24 = some b → (b, Sum.inl 5) ∈ d := fun b hb => hW.2.1 15 _ b t_t0 (by rw [← e_z24]; exact hb)
    obtain ⟨q25, e_q25, h9⟩ := h
    replace h := h9
    clear h9
    refine ⟨q25, e_q25, ?_⟩
    have t_q25 := t_z24 q25 e_q25
    refine ⟨hasO_of hW t_q25, ?_⟩
    intro z26 e_z26
    replace h := h z26 e_z26
    obtain ⟨q27, e_q27⟩ := n_z23
    refine ⟨q27, e_q27, ?_⟩
    replace h := h q27 e_q27
    have t_q27 := t_z23 q27 e_q27
    refine ⟨hasA_of hW t_q27, ?_⟩
    have hin := h.1
    refine ⟨h.1, ?_⟩
    replace h := h.2
    intro S28 e_S28
    replace h := h S28 e_S28
    replace hW := WT_a hW e_S28
    exact hk _ hW h
  · replace h := h.2 c
    refine ⟨hasO_of hW t_t0, ?_⟩
    refine ty_X3_wrong t_t0 hW (fun S29 hW h => ?_) h
    exact hk _ hW h
def wT_X3_choice (r_X3_block : Nat → Int32 → kS → (kS → Prop) → Prop) (t0 : Nat) (a0 : Int32) (S : kS) (K : kS → Prop) : Prop := wU_X3_expression t0 0 S (fun (S1 : kS) => wT_X3_emit t0 15 0 S1 (fun (S2 : kS) (r2 : Int32) => r_X3_block t0 a0 S2 (fun (S3 : kS) => wT_X3_take t0 204 S3 (fun (S4 : kS) (r4 : Int32) => ((r4 = 0 → ∀ z6 : Option Nat, z6 = S4.2.1 15 t0 → ∃ q7 : Nat, z6 = some q7 ∧ ∀ z8 : Option Nat, z8 = S4.2.1 29 q7 → ∀ z9 : Option Nat, z9 = S4.2.1 15 t0 → ∃ q10 : Nat, z9 = some q10 ∧ ∀ z11 : Int32, z11 = S4.1 17 q10 → ∀ q12 : Nat, z8 = some q12 → inR r2 8064 ∧ ∀ S13 : kS, S13 = cA S4 q12 (ix r2) z11 → K S13) ∧ (¬ r4 = 0 → wT_X3_emit t0 16 0 S4 (fun (S14 : kS) (r14 : Int32) => ∀ z15 : Option Nat, z15 = S14.2.1 15 t0 → ∃ q16 : Nat, z15 = some q16 ∧ ∀ z17 : Option Nat, z17 = S14.2.1 29 q16 → ∀ z18 : Option Nat, z18 = S14.2.1 15 t0 → ∃ q19 : Nat, z18 = some q19 ∧ ∀ z20 : Int32, z20 = S14.1 17 q19 → ∀ q21 : Nat, z17 = some q21 → inR r2 8064 ∧ ∀ S22 : kS, S22 = cA S14 q21 (ix r2) z20 → r_X3_block t0 a0 S22 (fun (S23 : kS) => ∀ z24 : Option Nat, z24 = S23.2.1 15 t0 → ∃ q25 : Nat, z24 = some q25 ∧ ∀ z26 : Option Nat, z26 = S23.2.1 29 q25 → ∀ z27 : Option Nat, z27 = S23.2.1 15 t0 → ∃ q28 : Nat, z27 = some q28 ∧ ∀ z29 : Int32, z29 = S23.1 17 q28 → ∀ q30 : Nat, z26 = some q30 → inR r14 8064 ∧ ∀ S31 : kS, S31 = cA S23 q30 (ix r14) z29 → K S31))))))))
theorem ty_X3_choice {d : List (Nat × cK)} {r_X3_block u_X3_block : Nat → Int32 → kS → (kS → Prop) → Prop} (hr_X3_block : ∀ (t0 : Nat) (a0 : Int32), ((t0, Sum.inl 3) ∈ d) → ∀ (S : kS) (K K' : kS → Prop), WT d S → (∀ S1, WT d S1 → K S1 → K' S1) → u_X3_block t0 a0 S K → r_X3_block t0 a0 S K') {t0 : Nat} {a0 : Int32} (t_t0 : (t0, Sum.inl 3) ∈ d) {S : kS} {K K' : kS → Prop} (hW : WT d S) (hk : ∀ S1, WT d S1 → K S1 → K' S1) (h : wT_X3_choice u_X3_block t0 a0 S K) : wp_X3_choice r_X3_block t0 a0 S K' := by
  unfold wT_X3_choice at h
  unfold wp_X3_choice
  refine ⟨hasO_of hW t_t0, ?_⟩
  refine tq_X3_expression t_t0 hW (fun S1 hW h => ?_) h
  refine ⟨hasO_of hW t_t0, ?_⟩
  refine ty_X3_emit t_t0 hW (fun S2 r2 hW h => ?_) h
  refine ⟨hasO_of hW t_t0, ?_⟩
  refine hr_X3_block _ _ t_t0 _ _ _ hW (fun S3 hW h => ?_) h
  refine ⟨hasO_of hW t_t0, ?_⟩
  refine ty_X3_take t_t0 hW (fun S4 r4 hW h => ?_) h
  refine ⟨fun c => ?_, fun c => ?_⟩
  · replace h := h.1 c
    refine ⟨hasO_of hW t_t0, ?_⟩
    intro z6 e_z6
    replace h := h z6 e_z6
    have t_z6 : ∀ b, z6 = some b → (b, Sum.inl 5) ∈ d := fun b hb => hW.2.1 15 _ b t_t0 (by rw [← e_z6]; exact hb)
    obtain ⟨q7, e_q7, h9⟩ := h
    replace h := h9
    clear h9
    refine ⟨q7, e_q7, ?_⟩
    have t_q7 := t_z6 q7 e_q7
    refine ⟨hasO_of hW t_q7, ?_⟩
    intro z8 e_z8
    replace h := h z8 e_z8
    have t_z8 : ∀ b, z8 = some b → (b, Sum.inr (8064, 0)) ∈ d := fun b hb => hW.2.1 29 _ b t_q7 (by rw [← e_z8]; exact hb)
    have n_z8 := wt_nn (f := 29) hW (by decide) t_q7 e_z8
    refine ⟨hasO_of hW t_t0, ?_⟩
    intro z9 e_z9
    replace h := h z9 e_z9
    have t_z9 : ∀ b, z9 = some b → (b, Sum.inl 5) ∈ d := fun b hb => hW.2.1 15 _ b t_t0 (by rw [← e_z9]; exact hb)
    obtain ⟨q10, e_q10, h9⟩ := h
    replace h := h9
    clear h9
    refine ⟨q10, e_q10, ?_⟩
    have t_q10 := t_z9 q10 e_q10
    refine ⟨hasO_of hW t_q10, ?_⟩
    intro z11 e_z11
    replace h := h z11 e_z11
    obtain ⟨q12, e_q12⟩ := n_z8
    refine ⟨q12, e_q12, ?_⟩
    replace h := h q12 e_q12
    have t_q12 := t_z8 q12 e_q12
    refine ⟨hasA_of hW t_q12, ?_⟩
    have hin := h.1
    refine ⟨h.1, ?_⟩
    replace h := h.2
    intro S13 e_S13
    replace h := h S13 e_S13
    replace hW := WT_a hW e_S13
    exact hk _ hW h
  · replace h := h.2 c
    refine ⟨hasO_of hW t_t0, ?_⟩
    refine ty_X3_emit t_t0 hW (fun S14 r14 hW h => ?_) h
    refine ⟨hasO_of hW t_t0, ?_⟩
    intro z15 e_z15
    replace h := h z15 e_z15
    have t_z15 : ∀ b, z15 = some b → (b, Sum.inl 5) ∈ d := fun b hb => hW.2.1 15 _ b t_t0 (by rw [← e_z15]; exact hb)
    obtain ⟨q16, e_q16, h9⟩ := h
    replace h := h9
    clear h9
    refine ⟨q16, e_q16, ?_⟩
    have t_q16 := t_z15 q16 e_q16
    refine ⟨hasO_of hW t_q16, ?_⟩
    intro z17 e_z17
    replace h := h z17 e_z17
    have t_z17 : ∀ b, z17 = some b → (b, Sum.inr (8064, 0)) ∈ d := fun b hb => hW.2.1 29 _ b t_q16 (by rw [← e_z17]; exact hb)
    have n_z17 := wt_nn (f := 29) hW (by decide) t_q16 e_z17
    refine ⟨hasO_of hW t_t0, ?_⟩
    intro z18 e_z18
    replace h := h z18 e_z18
    have t_z18 : ∀ b, z18 = some b → (b, Sum.inl 5) ∈ d := fun b hb => hW.2.1 15 _ b t_t0 (by rw [← e_z18]; exact hb)
    obtain ⟨q19, e_q19, h9⟩ := h
    replace h := h9
    clear h9
    refine ⟨q19, e_q19, ?_⟩
    have t_q19 := t_z18 q19 e_q19
    refine ⟨hasO_of hW t_q19, ?_⟩
    intro z20 e_z20
    replace h := h z20 e_z20
    obtain ⟨q21, e_q21⟩ := n_z17
    refine ⟨q21, e_q21, ?_⟩
    replace h := h q21 e_q21
    have t_q21 := t_z17 q21 e_q21
    refine ⟨hasA_of hW t_q21, ?_⟩
    have hin := h.1
    refine ⟨h.1, ?_⟩
    replace h := h.2
    intro S22 e_S22
    replace h := h S22 e_S22
    replace hW := WT_a hW e_S22
    refine ⟨hasO_of hW t_t0, ?_⟩
    refine hr_X3_block _ _ t_t0 _ _ _ hW (fun S23 hW h => ?_) h
    refine ⟨hasO_of hW t_t0, ?_⟩
    intro z24 e_z24
    replace h := h z24 e_z24
    have t_z24 : ∀ b, z24 = some b → (b, Sum.inl 5) ∈ d := fun b hb => hW.2.1 15 _ b t_t0 (by rw [← e_z24]; exact hb)
    obtain ⟨q25, e_q25, h9⟩ := h
    replace h := h9
    clear h9
    refine ⟨q25, e_q25, ?_⟩
    have t_q25 := t_z24 q25 e_q25
    refine ⟨hasO_of hW t_q25, ?_⟩
    intro z26 e_z26
    replace h := h z26 e_z26
    have t_z26 : ∀ b, z26 = some b → (b, Sum.inr (8064, 0)) ∈ d := fun b hb => hW.2.1 29 _ b t_q25 (by rw [← e_z26]; exact hb)
    have n_z26 := wt_nn (f := 29) hW (by decide) t_q25 e_z26
    refine ⟨hasO_of hW t_t0, ?_⟩
    intro z27 e_z27
    replace h := h z27 e_z27
    have t_z27 : ∀ b, z27 = some b → (b, Sum.inl 5) ∈ d := fun b hb => hW.2.1 15 _ b t_t0 (by rw [← e_z27]; exact hb)
    obtain ⟨q28, e_q28, h9⟩ := h
    replace h := h9
    clear h9
    refine ⟨q28, e_q28, ?_⟩
    have t_q28 := t_z27 q28 e_q28
    refine ⟨hasO_of hW t_q28, ?_⟩
    intro z29 e_z29
    replace h := h z29 e_z29
    obtain ⟨q30, e_q30⟩ := n_z26
    refine ⟨q30, e_q30, ?_⟩
    replace h := h q30 e_q30
    have t_q30 := t_z26 q30 e_q30
    refine ⟨hasA_of hW t_q30, ?_⟩
    have hin := h.1
    refine ⟨h.1, ?_⟩
    replace h := h.2
    intro S31 e_S31
    replace h := h S31 e_S31
    replace hW := WT_a hW e_S31
    exact hk _ hW h
def wT_X3_statement_174 (r_X3_block : Nat → Int32 → kS → (kS → Prop) → Prop) (K : kS → Prop) (x0 : Nat) (S : kS) : Prop := wT_X3_need x0 59 S (fun (S27 : kS) => K S27)
def wT_X3_statement (r_X3_block : Nat → Int32 → kS → (kS → Prop) → Prop) (t0 : Nat) (a0 : Int32) (S : kS) (K : kS → Prop) : Prop := wT_X3_emit t0 0 0 S (fun (S1 : kS) (r1 : Int32) => wT_X3_kind t0 S1 (fun (S2 : kS) (r2 : Int32) => ((r2 = 3 → wT_X3_assigned t0 S2 (fun (S4 : kS) => wT_X3_statement_174 r_X3_block K t0 S4)) ∧ (¬ r2 = 3 → ((r2 = 201 → wT_X3_assigned t0 S2 (fun (S6 : kS) => wT_X3_statement_174 r_X3_block K t0 S6)) ∧ (¬ r2 = 201 → ((r2 = 202 → wT_X3_step t0 S2 (fun (S8 : kS) => wU_X3_expression t0 0 S8 (fun (S9 : kS) => wT_X3_emit t0 14 0 S9 (fun (S10 : kS) (r10 : Int32) => wT_X3_statement_174 r_X3_block K t0 S10)))) ∧ (¬ r2 = 202 → ((r2 = 203 → wT_X3_step t0 S2 (fun (S12 : kS) => wT_X3_choice r_X3_block t0 a0 S12 (fun (S13 : kS) => K S13))) ∧ (¬ r2 = 203 → ((r2 = 205 → wT_X3_step t0 S2 (fun (S15 : kS) => wT_X3_repeated r_X3_block t0 a0 r1 S15 (fun (S16 : kS) => K S16))) ∧ (¬ r2 = 205 → ((r2 = 208 → wT_X3_returned t0 S2 (fun (S18 : kS) => wT_X3_statement_174 r_X3_block K t0 S18)) ∧ (¬ r2 = 208 → ((r2 = 209 → wT_X3_step t0 S2 (fun (S20 : kS) => wT_X3_numberOf t0 1 9 S20 (fun (S21 : kS) (r21 : Int32) => wT_X3_emit t0 20 r21 S21 (fun (S22 : kS) (r22 : Int32) => wT_X3_statement_174 r_X3_block K t0 S22)))) ∧ (¬ r2 = 209 → ((r2 = 210 → wT_X3_step t0 S2 (fun (S24 : kS) => wT_X3_tried r_X3_block t0 a0 S24 (fun (S25 : kS) => K S25))) ∧ (¬ r2 = 210 → wT_X3_leftLoop t0 S2 (fun (S26 : kS) => wT_X3_statement_174 r_X3_block K t0 S26)))))))))))))))))))
theorem ty_X3_statement_174 {d : List (Nat × cK)} {r_X3_block u_X3_block : Nat → Int32 → kS → (kS → Prop) → Prop} (hr_X3_block : ∀ (t0 : Nat) (a0 : Int32), ((t0, Sum.inl 3) ∈ d) → ∀ (S : kS) (K K' : kS → Prop), WT d S → (∀ S1, WT d S1 → K S1 → K' S1) → u_X3_block t0 a0 S K → r_X3_block t0 a0 S K') {K K' : kS → Prop} (hk : ∀ S1, WT d S1 → K S1 → K' S1) {x0 : Nat} (t_x0 : (x0, Sum.inl 3) ∈ d) {S : kS} (hW : WT d S) (h : wT_X3_statement_174 u_X3_block K x0 S) : wp_X3_statement_174 r_X3_block K' x0 S := by
  unfold wT_X3_statement_174 at h
  unfold wp_X3_statement_174
  refine ⟨hasO_of hW t_x0, ?_⟩
  refine ty_X3_need t_x0 hW (fun S27 hW h => ?_) h
  exact hk _ hW h
theorem ty_X3_statement {d : List (Nat × cK)} {r_X3_block u_X3_block : Nat → Int32 → kS → (kS → Prop) → Prop} (hr_X3_block : ∀ (t0 : Nat) (a0 : Int32), ((t0, Sum.inl 3) ∈ d) → ∀ (S : kS) (K K' : kS → Prop), WT d S → (∀ S1, WT d S1 → K S1 → K' S1) → u_X3_block t0 a0 S K → r_X3_block t0 a0 S K') {t0 : Nat} {a0 : Int32} (t_t0 : (t0, Sum.inl 3) ∈ d) {S : kS} {K K' : kS → Prop} (hW : WT d S) (hk : ∀ S1, WT d S1 → K S1 → K' S1) (h : wT_X3_statement u_X3_block t0 a0 S K) : wp_X3_statement r_X3_block t0 a0 S K' := by
  unfold wT_X3_statement at h
  unfold wp_X3_statement
  refine ⟨hasO_of hW t_t0, ?_⟩
  refine ty_X3_emit t_t0 hW (fun S1 r1 hW h => ?_) h
  refine ⟨hasO_of hW t_t0, ?_⟩
  refine ty_X3_kind t_t0 hW (fun S2 r2 hW h => ?_) h
  refine ⟨fun c => ?_, fun c => ?_⟩
  · replace h := h.1 c
    refine ⟨hasO_of hW t_t0, ?_⟩
    refine ty_X3_assigned t_t0 hW (fun S4 hW h => ?_) h
    exact ty_X3_statement_174 hr_X3_block hk t_t0 hW h
  · replace h := h.2 c
    refine ⟨fun c => ?_, fun c => ?_⟩
    · replace h := h.1 c
      refine ⟨hasO_of hW t_t0, ?_⟩
      refine ty_X3_assigned t_t0 hW (fun S6 hW h => ?_) h
      exact ty_X3_statement_174 hr_X3_block hk t_t0 hW h
    · replace h := h.2 c
      refine ⟨fun c => ?_, fun c => ?_⟩
      · replace h := h.1 c
        refine ⟨hasO_of hW t_t0, ?_⟩
        refine ty_X3_step t_t0 hW (fun S8 hW h => ?_) h
        refine ⟨hasO_of hW t_t0, ?_⟩
        refine tq_X3_expression t_t0 hW (fun S9 hW h => ?_) h
        refine ⟨hasO_of hW t_t0, ?_⟩
        refine ty_X3_emit t_t0 hW (fun S10 r10 hW h => ?_) h
        exact ty_X3_statement_174 hr_X3_block hk t_t0 hW h
      · replace h := h.2 c
        refine ⟨fun c => ?_, fun c => ?_⟩
        · replace h := h.1 c
          refine ⟨hasO_of hW t_t0, ?_⟩
          refine ty_X3_step t_t0 hW (fun S12 hW h => ?_) h
          refine ⟨hasO_of hW t_t0, ?_⟩
          refine ty_X3_choice hr_X3_block t_t0 hW (fun S13 hW h => ?_) h
          exact hk _ hW h
        · replace h := h.2 c
          refine ⟨fun c => ?_, fun c => ?_⟩
          · replace h := h.1 c
            refine ⟨hasO_of hW t_t0, ?_⟩
            refine ty_X3_step t_t0 hW (fun S15 hW h => ?_) h
            refine ⟨hasO_of hW t_t0, ?_⟩
            refine ty_X3_repeated hr_X3_block t_t0 hW (fun S16 hW h => ?_) h
            exact hk _ hW h
          · replace h := h.2 c
            refine ⟨fun c => ?_, fun c => ?_⟩
            · replace h := h.1 c
              refine ⟨hasO_of hW t_t0, ?_⟩
              refine ty_X3_returned t_t0 hW (fun S18 hW h => ?_) h
              exact ty_X3_statement_174 hr_X3_block hk t_t0 hW h
            · replace h := h.2 c
              refine ⟨fun c => ?_, fun c => ?_⟩
              · replace h := h.1 c
                refine ⟨hasO_of hW t_t0, ?_⟩
                refine ty_X3_step t_t0 hW (fun S20 hW h => ?_) h
                refine ⟨hasO_of hW t_t0, ?_⟩
                refine ty_X3_numberOf t_t0 hW (fun S21 r21 hW h => ?_) h
                refine ⟨hasO_of hW t_t0, ?_⟩
                refine ty_X3_emit t_t0 hW (fun S22 r22 hW h => ?_) h
                exact ty_X3_statement_174 hr_X3_block hk t_t0 hW h
              · replace h := h.2 c
                refine ⟨fun c => ?_, fun c => ?_⟩
                · replace h := h.1 c
                  refine ⟨hasO_of hW t_t0, ?_⟩
                  refine ty_X3_step t_t0 hW (fun S24 hW h => ?_) h
                  refine ⟨hasO_of hW t_t0, ?_⟩
                  refine ty_X3_tried hr_X3_block t_t0 hW (fun S25 hW h => ?_) h
                  exact hk _ hW h
                · replace h := h.2 c
                  refine ⟨hasO_of hW t_t0, ?_⟩
                  refine ty_X3_leftLoop t_t0 hW (fun S26 hW h => ?_) h
                  exact ty_X3_statement_174 hr_X3_block hk t_t0 hW h
def wT_X3_block_67 (r_X3_block : Nat → Int32 → kS → (kS → Prop) → Prop) (K : kS → Prop) (x0 : Nat) (S : kS) : Prop := wT_X3_need x0 125 S (fun (S14 : kS) => K S14)
def wT_X3_block_37 (r_X3_block : Nat → Int32 → kS → (kS → Prop) → Prop) (K : kS → Prop) (k37 : Nat × Int32 × Int32 × kS → Prop) (x0 : Nat) (x1 : Int32) (x2 : Int32) (S : kS) : Prop := ((4000 ≤ x2 → wT_X3_block_67 r_X3_block K x0 S) ∧ (¬ 4000 ≤ x2 → wT_X3_kind x0 S (fun (S8 : kS) (r8 : Int32) => wT_X3_startsStatement r8 S8 (fun (S9 : kS) (r9 : Int32) => ((r9 = 0 → wT_X3_block_67 r_X3_block K x0 S9) ∧ (¬ r9 = 0 → ∀ z11 : Int32, z11 = x1 + 1 → wT_X3_statement r_X3_block x0 z11 S9 (fun (S12 : kS) => ∀ z13 : Int32, z13 = x2 + 1 → k37 (x0, x1, z13, S12))))))))
def lT_X3_block_37 (r_X3_block : Nat → Int32 → kS → (kS → Prop) → Prop) (K : kS → Prop) (k37 : Nat × Int32 × Int32 × kS → Prop) (u : Nat × Int32 × Int32 × kS) : Prop := wT_X3_block_37 r_X3_block K k37 u.1 u.2.1 u.2.2.1 u.2.2.2
def wT_X3_block (r_X3_block : Nat → Int32 → kS → (kS → Prop) → Prop) (t0 : Nat) (a0 : Int32) (S : kS) (K : kS → Prop) : Prop := wT_X3_kind t0 S (fun (S1 : kS) (r1 : Int32) => ((r1 = 123 → ((a0 < 10 → wT_X3_step t0 S1 (fun (S4 : kS) => (∃ n9, it (lT_X3_block_37 r_X3_block K) n9 (t0, a0, 0, S4)))) ∧ (¬ a0 < 10 → wT_X3_wrong t0 5 S1 (fun (S5 : kS) => K S5)))) ∧ (¬ r1 = 123 → wT_X3_wrong t0 1 S1 (fun (S6 : kS) => K S6))))
theorem ty_X3_block_67 {d : List (Nat × cK)} {r_X3_block u_X3_block : Nat → Int32 → kS → (kS → Prop) → Prop} (hr_X3_block : ∀ (t0 : Nat) (a0 : Int32), ((t0, Sum.inl 3) ∈ d) → ∀ (S : kS) (K K' : kS → Prop), WT d S → (∀ S1, WT d S1 → K S1 → K' S1) → u_X3_block t0 a0 S K → r_X3_block t0 a0 S K') {K K' : kS → Prop} (hk : ∀ S1, WT d S1 → K S1 → K' S1) {x0 : Nat} (t_x0 : (x0, Sum.inl 3) ∈ d) {S : kS} (hW : WT d S) (h : wT_X3_block_67 u_X3_block K x0 S) : wp_X3_block_67 r_X3_block K' x0 S := by
  unfold wT_X3_block_67 at h
  unfold wp_X3_block_67
  refine ⟨hasO_of hW t_x0, ?_⟩
  refine ty_X3_need t_x0 hW (fun S14 hW h => ?_) h
  exact hk _ hW h
theorem ty_X3_block_37 {d : List (Nat × cK)} {r_X3_block u_X3_block : Nat → Int32 → kS → (kS → Prop) → Prop} (hr_X3_block : ∀ (t0 : Nat) (a0 : Int32), ((t0, Sum.inl 3) ∈ d) → ∀ (S : kS) (K K' : kS → Prop), WT d S → (∀ S1, WT d S1 → K S1 → K' S1) → u_X3_block t0 a0 S K → r_X3_block t0 a0 S K') {K K' : kS → Prop} {k37 k37' : Nat × Int32 × Int32 × kS → Prop} (hk : ∀ S1, WT d S1 → K S1 → K' S1) (hk37 : ∀ (x0 : Nat) (x1 : Int32) (x2 : Int32), ((x0, Sum.inl 3) ∈ d) → ∀ S : kS, WT d S → k37 (x0, x1, x2, S) → k37' (x0, x1, x2, S)) {x0 : Nat} {x1 : Int32} {x2 : Int32} (t_x0 : (x0, Sum.inl 3) ∈ d) {S : kS} (hW : WT d S) (h : wT_X3_block_37 u_X3_block K k37 x0 x1 x2 S) : wp_X3_block_37 r_X3_block K' k37' x0 x1 x2 S := by
  unfold wT_X3_block_37 at h
  unfold wp_X3_block_37
  refine ⟨fun c => ?_, fun c => ?_⟩
  · replace h := h.1 c
    exact ty_X3_block_67 hr_X3_block hk t_x0 hW h
  · replace h := h.2 c
    refine ⟨hasO_of hW t_x0, ?_⟩
    refine ty_X3_kind t_x0 hW (fun S8 r8 hW h => ?_) h
    refine ty_X3_startsStatement  hW (fun S9 r9 hW h => ?_) h
    refine ⟨fun c => ?_, fun c => ?_⟩
    · replace h := h.1 c
      exact ty_X3_block_67 hr_X3_block hk t_x0 hW h
    · replace h := h.2 c
      intro z11 e_z11
      replace h := h z11 e_z11
      refine ⟨hasO_of hW t_x0, ?_⟩
      refine ty_X3_statement hr_X3_block t_x0 hW (fun S12 hW h => ?_) h
      intro z13 e_z13
      replace h := h z13 e_z13
      exact hk37 _ _ _ t_x0 _ hW h
theorem tyl_X3_block_37 {d : List (Nat × cK)} {r_X3_block u_X3_block : Nat → Int32 → kS → (kS → Prop) → Prop} (hr_X3_block : ∀ (t0 : Nat) (a0 : Int32), ((t0, Sum.inl 3) ∈ d) → ∀ (S : kS) (K K' : kS → Prop), WT d S → (∀ S1, WT d S1 → K S1 → K' S1) → u_X3_block t0 a0 S K → r_X3_block t0 a0 S K') {K K' : kS → Prop} (hk : ∀ S1, WT d S1 → K S1 → K' S1) : ∀ (n : Nat) (x0 : Nat) (x1 : Int32) (x2 : Int32), ((x0, Sum.inl 3) ∈ d) → ∀ S : kS, WT d S → it (lT_X3_block_37 u_X3_block K) n (x0, x1, x2, S) → it (ls_X3_block_37 r_X3_block K') n (x0, x1, x2, S) := by
  intro n
  induction n with
  | zero => exact fun _ _ _ _ _ _ h => h
  | succ n ih => exact fun x0 x1 x2 t_x0 S hW h => ty_X3_block_37 hr_X3_block hk ih t_x0 hW h
theorem ty_X3_block {d : List (Nat × cK)} {r_X3_block u_X3_block : Nat → Int32 → kS → (kS → Prop) → Prop} (hr_X3_block : ∀ (t0 : Nat) (a0 : Int32), ((t0, Sum.inl 3) ∈ d) → ∀ (S : kS) (K K' : kS → Prop), WT d S → (∀ S1, WT d S1 → K S1 → K' S1) → u_X3_block t0 a0 S K → r_X3_block t0 a0 S K') {t0 : Nat} {a0 : Int32} (t_t0 : (t0, Sum.inl 3) ∈ d) {S : kS} {K K' : kS → Prop} (hW : WT d S) (hk : ∀ S1, WT d S1 → K S1 → K' S1) (h : wT_X3_block u_X3_block t0 a0 S K) : wp_X3_block r_X3_block t0 a0 S K' := by
  unfold wT_X3_block at h
  unfold wp_X3_block
  refine ⟨hasO_of hW t_t0, ?_⟩
  refine ty_X3_kind t_t0 hW (fun S1 r1 hW h => ?_) h
  refine ⟨fun c => ?_, fun c => ?_⟩
  · replace h := h.1 c
    refine ⟨fun c => ?_, fun c => ?_⟩
    · replace h := h.1 c
      refine ⟨hasO_of hW t_t0, ?_⟩
      refine ty_X3_step t_t0 hW (fun S4 hW h => ?_) h
      obtain ⟨n9, h⟩ := h
      exact ⟨n9, tyl_X3_block_37 hr_X3_block hk n9 _ _ _ t_t0 _ hW h⟩
    · replace h := h.2 c
      refine ⟨hasO_of hW t_t0, ?_⟩
      refine ty_X3_wrong t_t0 hW (fun S5 hW h => ?_) h
      exact hk _ hW h
  · replace h := h.2 c
    refine ⟨hasO_of hW t_t0, ?_⟩
    refine ty_X3_wrong t_t0 hW (fun S6 hW h => ?_) h
    exact hk _ hW h
def wV_X3_block : Nat → Nat → Int32 → kS → (kS → Prop) → Prop
  | 0 => fun _ _ _ _ => False
  | n + 1 => wT_X3_block (wV_X3_block n)
def wU_X3_finished : Nat → Int32 → Int32 → kS → (kS → Prop) → Prop := wT_X3_finished (wV_X3_block 12)
def wU_X3_tried : Nat → Int32 → kS → (kS → Prop) → Prop := wT_X3_tried (wV_X3_block 12)
def wU_X3_repeated : Nat → Int32 → Int32 → kS → (kS → Prop) → Prop := wT_X3_repeated (wV_X3_block 12)
def wU_X3_choice : Nat → Int32 → kS → (kS → Prop) → Prop := wT_X3_choice (wV_X3_block 12)
def wU_X3_statement : Nat → Int32 → kS → (kS → Prop) → Prop := wT_X3_statement (wV_X3_block 12)
def wU_X3_block : Nat → Int32 → kS → (kS → Prop) → Prop := wV_X3_block 12
theorem tr_X3_block {d : List (Nat × cK)} : ∀ n : Nat, ∀ (t0 : Nat) (a0 : Int32), ((t0, Sum.inl 3) ∈ d) → ∀ (S : kS) (K K' : kS → Prop), WT d S → (∀ S1, WT d S1 → K S1 → K' S1) → wV_X3_block n t0 a0 S K → wr_X3_block n t0 a0 S K' := by
  intro n
  induction n with
  | zero => exact fun _ _ _ _ _ _ _ _ h => h
  | succ n ih => exact fun t0 a0 t0 S K K' hW hk h => ty_X3_block ih t0 hW hk h
theorem tq_X3_finished {d : List (Nat × cK)} {t0 : Nat} {a0 : Int32} {a1 : Int32} (t_t0 : (t0, Sum.inl 3) ∈ d) {S : kS} {K K' : kS → Prop} (hW : WT d S) (hk : ∀ S1, WT d S1 → K S1 → K' S1) (h : wU_X3_finished t0 a0 a1 S K) : wq_X3_finished t0 a0 a1 S K' := ty_X3_finished (tr_X3_block 12) t_t0 hW hk h
theorem tq_X3_tried {d : List (Nat × cK)} {t0 : Nat} {a0 : Int32} (t_t0 : (t0, Sum.inl 3) ∈ d) {S : kS} {K K' : kS → Prop} (hW : WT d S) (hk : ∀ S1, WT d S1 → K S1 → K' S1) (h : wU_X3_tried t0 a0 S K) : wq_X3_tried t0 a0 S K' := ty_X3_tried (tr_X3_block 12) t_t0 hW hk h
theorem tq_X3_repeated {d : List (Nat × cK)} {t0 : Nat} {a0 : Int32} {a1 : Int32} (t_t0 : (t0, Sum.inl 3) ∈ d) {S : kS} {K K' : kS → Prop} (hW : WT d S) (hk : ∀ S1, WT d S1 → K S1 → K' S1) (h : wU_X3_repeated t0 a0 a1 S K) : wq_X3_repeated t0 a0 a1 S K' := ty_X3_repeated (tr_X3_block 12) t_t0 hW hk h
theorem tq_X3_choice {d : List (Nat × cK)} {t0 : Nat} {a0 : Int32} (t_t0 : (t0, Sum.inl 3) ∈ d) {S : kS} {K K' : kS → Prop} (hW : WT d S) (hk : ∀ S1, WT d S1 → K S1 → K' S1) (h : wU_X3_choice t0 a0 S K) : wq_X3_choice t0 a0 S K' := ty_X3_choice (tr_X3_block 12) t_t0 hW hk h
theorem tq_X3_statement {d : List (Nat × cK)} {t0 : Nat} {a0 : Int32} (t_t0 : (t0, Sum.inl 3) ∈ d) {S : kS} {K K' : kS → Prop} (hW : WT d S) (hk : ∀ S1, WT d S1 → K S1 → K' S1) (h : wU_X3_statement t0 a0 S K) : wq_X3_statement t0 a0 S K' := ty_X3_statement (tr_X3_block 12) t_t0 hW hk h
theorem tq_X3_block {d : List (Nat × cK)} {t0 : Nat} {a0 : Int32} (t_t0 : (t0, Sum.inl 3) ∈ d) {S : kS} {K K' : kS → Prop} (hW : WT d S) (hk : ∀ S1, WT d S1 → K S1 → K' S1) (h : wU_X3_block t0 a0 S K) : wq_X3_block t0 a0 S K' := tr_X3_block 12 t0 a0 t_t0 S K K' hW hk h
