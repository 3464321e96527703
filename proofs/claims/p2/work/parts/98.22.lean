
def wT_X11_begin_108 (K : kS → Int32 → Prop) (x6 : Nat) (y0 : Nat) (y1 : Int32) (y2 : Int32) (S : kS) : Prop := wT_X9_set y0 y1 y2 S (fun (S21 : kS) => ∀ z22 : Int32, z22 = S21.1 28 x6 → K S21 z22)
def wT_X11_begin_90 (K : kS → Int32 → Prop) (x5 : Int32) (x6 : Nat) (x7 : Int32) (y0 : Nat) (y1 : Int32) (y2 : Int32) (S : kS) : Prop := wT_X9_set y0 y1 y2 S (fun (S19 : kS) => ((x7 ≤ 3 → wT_X11_begin_108 K x6 x6 3 0 S19) ∧ (¬ x7 ≤ 3 → wT_X11_begin_108 K x6 x6 3 x5 S19)))
def wT_X11_begin_72 (K : kS → Int32 → Prop) (x4 : Int32) (x5 : Int32) (x6 : Nat) (x7 : Int32) (y0 : Nat) (y1 : Int32) (y2 : Int32) (S : kS) : Prop := wT_X9_set y0 y1 y2 S (fun (S17 : kS) => ((x7 ≤ 2 → wT_X11_begin_90 K x5 x6 x7 x6 2 0 S17) ∧ (¬ x7 ≤ 2 → wT_X11_begin_90 K x5 x6 x7 x6 2 x4 S17)))
def wT_X11_begin_55 (K : kS → Int32 → Prop) (x3 : Int32) (x4 : Int32) (x5 : Int32) (x6 : Nat) (x7 : Int32) (y0 : Nat) (y1 : Int32) (y2 : Int32) (S : kS) : Prop := wT_X9_set y0 y1 y2 S (fun (S15 : kS) => ((x7 ≤ 1 → wT_X11_begin_72 K x4 x5 x6 x7 x6 1 0 S15) ∧ (¬ x7 ≤ 1 → wT_X11_begin_72 K x4 x5 x6 x7 x6 1 x3 S15)))
def wT_X11_begin (t0 : Nat) (a0 : Int32) (a1 : Int32) (a2 : Int32) (a3 : Int32) (a4 : Int32) (S : kS) (K : kS → Int32 → Prop) : Prop := ∀ z1 : Option Nat, z1 = S.2.1 74 t0 → ∃ q2 : Nat, z1 = some q2 ∧ wT_X5_has q2 a0 S (fun (S3 : kS) (r3 : Int32) => ((¬ r3 = 0 → ∀ z5 : Option Nat, z5 = S3.2.1 72 t0 → ∀ q6 : Nat, z5 = some q6 → wT_X1_newTask q6 a0 none S3 (fun (S7 : kS) (o7 : Option Nat) => ((o7 = none → K S7 (-1)) ∧ (∀ q8 : Nat, o7 = some q8 → ∀ z9 : Option Nat, z9 = S7.2.1 74 t0 → ∃ q10 : Nat, z9 = some q10 ∧ ∀ z11 : Option Nat, z11 = S7.2.1 34 q10 → ∀ q12 : Nat, z11 = some q12 → inR a0 12 ∧ ∀ z13 : Int32, z13 = S7.2.2.1 q12 (ix a0) → ((z13 ≤ 0 → wT_X11_begin_55 K a2 a3 a4 q8 z13 q8 0 0 S7) ∧ (¬ z13 ≤ 0 → wT_X11_begin_55 K a2 a3 a4 q8 z13 q8 0 a1 S7)))))) ∧ (r3 = 0 → K S3 (-1))))
theorem ty_X11_begin_108 {d : List (Nat × cK)} {K K' : kS → Int32 → Prop} (hk : ∀ (d1 : List (Nat × cK)) (S1 : kS) (r1 : Int32), (∀ q, q ∈ d → q ∈ d1) → WT d1 S1 → K S1 r1 → K' S1 r1) {x6 : Nat} {y0 : Nat} {y1 : Int32} {y2 : Int32} (t_x6 : (x6, Sum.inl 9) ∈ d) (t_y0 : (y0, Sum.inl 9) ∈ d) {S : kS} (hW : WT d S) (h : wT_X11_begin_108 K x6 y0 y1 y2 S) : wp_X11_begin_108 K' x6 y0 y1 y2 S := by
  unfold wT_X11_begin_108 at h
  unfold wp_X11_begin_108
  refine ⟨hasO_of hW t_y0, ?_⟩
  refine ty_X9_set t_y0 hW (fun S21 hW h => ?_) h
  refine ⟨hasO_of hW t_x6, ?_⟩
  intro z22 e_z22
  replace h := h z22 e_z22
  exact hk _ _ _ (fun _ h => h) hW h
theorem ty_X11_begin_90 {d : List (Nat × cK)} {K K' : kS → Int32 → Prop} (hk : ∀ (d1 : List (Nat × cK)) (S1 : kS) (r1 : Int32), (∀ q, q ∈ d → q ∈ d1) → WT d1 S1 → K S1 r1 → K' S1 r1) {x5 : Int32} {x6 : Nat} {x7 : Int32} {y0 : Nat} {y1 : Int32} {y2 : Int32} (t_x6 : (x6, Sum.inl 9) ∈ d) (t_y0 : (y0, Sum.inl 9) ∈ d) {S : kS} (hW : WT d S) (h : wT_X11_begin_90 K x5 x6 x7 y0 y1 y2 S) : wp_X11_begin_90 K' x5 x6 x7 y0 y1 y2 S := by
  unfold wT_X11_begin_90 at h
  unfold wp_X11_begin_90
  refine ⟨hasO_of hW t_y0, ?_⟩
  refine ty_X9_set t_y0 hW (fun S19 hW h => ?_) h
  refine ⟨fun c => ?_, fun c => ?_⟩
  · replace h := h.1 c
    exact ty_X11_begin_108 (fun d1 S1 r1 hs9 hw9 h9 => hk d1 S1 r1 (fun q hq => hs9 q ((fun _ h => h) q hq)) hw9 h9) t_x6 t_x6 hW h
  · replace h := h.2 c
    exact ty_X11_begin_108 (fun d1 S1 r1 hs9 hw9 h9 => hk d1 S1 r1 (fun q hq => hs9 q ((fun _ h => h) q hq)) hw9 h9) t_x6 t_x6 hW h
theorem ty_X11_begin_72 {d : List (Nat × cK)} {K K' : kS → Int32 → Prop} (hk : ∀ (d1 : List (Nat × cK)) (S1 : kS) (r1 : Int32), (∀ q, q ∈ d → q ∈ d1) → WT d1 S1 → K S1 r1 → K' S1 r1) {x4 : Int32} {x5 : Int32} {x6 : Nat} {x7 : Int32} {y0 : Nat} {y1 : Int32} {y2 : Int32} (t_x6 : (x6, Sum.inl 9) ∈ d) (t_y0 : (y0, Sum.inl 9) ∈ d) {S : kS} (hW : WT d S) (h : wT_X11_begin_72 K x4 x5 x6 x7 y0 y1 y2 S) : wp_X11_begin_72 K' x4 x5 x6 x7 y0 y1 y2 S := by
  unfold wT_X11_begin_72 at h
  unfold wp_X11_begin_72
  refine ⟨hasO_of hW t_y0, ?_⟩
  refine ty_X9_set t_y0 hW (fun S17 hW h => ?_) h
  refine ⟨fun c => ?_, fun c => ?_⟩
  · replace h := h.1 c
    exact ty_X11_begin_90 (fun d1 S1 r1 hs9 hw9 h9 => hk d1 S1 r1 (fun q hq => hs9 q ((fun _ h => h) q hq)) hw9 h9) t_x6 t_x6 hW h
  · replace h := h.2 c
    exact ty_X11_begin_90 (fun d1 S1 r1 hs9 hw9 h9 => hk d1 S1 r1 (fun q hq => hs9 q ((fun _ h => h) q hq)) hw9 h9) t_x6 t_x6 hW h
theorem ty_X11_begin_55 {d : List (Nat × cK)} {K K' : kS → Int32 → Prop} (hk : ∀ (d1 : List (Nat × cK)) (S1 : kS) (r1 : Int32), (∀ q, q ∈ d → q ∈ d1) → WT d1 S1 → K S1 r1 → K' S1 r1) {x3 : Int32} {x4 : Int32} {x5 : Int32} {x6 : Nat} {x7 : Int32} {y0 : Nat} {y1 : Int32} {y2 : Int32} (t_x6 : (x6, Sum.inl 9) ∈ d) (t_y0 : (y0, Sum.inl 9) ∈ d) {S : kS} (hW : WT d S) (h : wT_X11_begin_55 K x3 x4 x5 x6 x7 y0 y1 y2 S) : wp_X11_begin_55 K' x3 x4 x5 x6 x7 y0 y1 y2 S := by
  unfold wT_X11_begin_55 at h
  unfold wp_X11_begin_55
  refine ⟨hasO_of hW t_y0, ?_⟩
  refine ty_X9_set t_y0 hW (fun S15 hW h => ?_) h
  refine ⟨fun c => ?_, fun c => ?_⟩
  · replace h := h.1 c
    exact ty_X11_begin_72 (fun d1 S1 r1 hs9 hw9 h9 => hk d1 S1 r1 (fun q hq => hs9 q ((fun _ h => h) q hq)) hw9 h9) t_x6 t_x6 hW h
  · replace h := h.2 c
    exact ty_X11_begin_72 (fun d1 S1 r1 hs9 hw9 h9 => hk d1 S1 r1 (fun q hq => hs9 q ((fun _ h => h) q hq)) hw9 h9) t_x6 t_x6 hW h
theorem ty_X11_begin {d : List (Nat × cK)} {t0 : Nat} {a0 : Int32} {a1 : Int32} {a2 : Int32} {a3 : Int32} {a4 : Int32} (t_t0 : (t0, Sum.inl 11) ∈ d) {S : kS} {K K' : kS → Int32 → Prop} (hW : WT d S) (hk : ∀ (d1 : List (Nat × cK)) (S1 : kS) (r1 : Int32), (∀ q, q ∈ d → q ∈ d1) → WT d1 S1 → K S1 r1 → K' S1 r1) (h : wT_X11_begin t0 a0 a1 a2 a3 a4 S K) : wp_X11_begin t0 a0 a1 a2 a3 a4 S K' := by
  unfold wT_X11_begin at h
  unfold wp_X11_begin
  refine ⟨hasO_of hW t_t0, ?_⟩
  intro z1 e_z1
  replace h := h z1 e_z1
  have t_z1 : ∀ b, z1 = some b → (b, Sum.inl 5) ∈ d := fun b hb => hW.2.1 74 _ b t_t0 (by rw [← e_z1]; exact hb)
  obtain ⟨q2, e_q2, h9⟩ := h
  replace h := h9
  clear h9
  refine ⟨q2, e_q2, ?_⟩
  have t_q2 := t_z1 q2 e_q2
  refine ⟨hasO_of hW t_q2, ?_⟩
  refine ty_X5_has t_q2 hW (fun S3 r3 hW h => ?_) h
  refine ⟨fun c => ?_, fun c => ?_⟩
  · replace h := h.1 c
    refine ⟨hasO_of hW t_t0, ?_⟩
    intro z5 e_z5
    replace h := h z5 e_z5
    have t_z5 : ∀ b, z5 = some b → (b, Sum.inl 1) ∈ d := fun b hb => hW.2.1 72 _ b t_t0 (by rw [← e_z5]; exact hb)
    have n_z5 := wt_nn (f := 72) hW (by decide) t_t0 e_z5
    obtain ⟨q6, e_q6⟩ := n_z5
    refine ⟨q6, e_q6, ?_⟩
    replace h := h q6 e_q6
    have t_q6 := t_z5 q6 e_q6
    refine ⟨hasO_of hW t_q6, ?_⟩
    refine ty_X1_newTask t_q6 (fun b hb => by cases hb) hW (fun d11 S7 o7 hu1 hW t_o7 h => ?_) h
    replace t_t0 := hu1 _ t_t0
    replace t_z1 := (fun b hb => hu1 _ (t_z1 b hb))
    replace t_q2 := hu1 _ t_q2
    replace t_z5 := (fun b hb => hu1 _ (t_z5 b hb))
    replace t_q6 := hu1 _ t_q6
    have hs1 : ∀ q, q ∈ d → q ∈ d11 := fun q h => hu1 q ((fun _ h => h) q h)
    refine ⟨fun c => ?_, fun q8 c => ?_⟩
    · replace h := h.1 c
      exact hk _ _ _ hs1 hW h
    · replace h := h.2 q8 c
      have t_q8 := t_o7 q8 c
      refine ⟨hasO_of hW t_t0, ?_⟩
      intro z9 e_z9
      replace h := h z9 e_z9
      have t_z9 : ∀ b, z9 = some b → (b, Sum.inl 5) ∈ d11 := fun b hb => hW.2.1 74 _ b t_t0 (by rw [← e_z9]; exact hb)
      obtain ⟨q10, e_q10, h9⟩ := h
      replace h := h9
      clear h9
      refine ⟨q10, e_q10, ?_⟩
      have t_q10 := t_z9 q10 e_q10
      refine ⟨hasO_of hW t_q10, ?_⟩
      intro z11 e_z11
      replace h := h z11 e_z11
      have t_z11 : ∀ b, z11 = some b → (b, Sum.inr (12, 0)) ∈ d11 := fun b hb => hW.2.1 34 _ b t_q10 (by rw [← e_z11]; exact hb)
      have n_z11 := wt_nn (f := 34) hW (by decide) t_q10 e_z11
      obtain ⟨q12, e_q12⟩ := n_z11
      refine ⟨q12, e_q12, ?_⟩
      replace h := h q12 e_q12
      have t_q12 := t_z11 q12 e_q12
      refine ⟨hasA_of hW t_q12, ?_⟩
      have hin := h.1
      refine ⟨h.1, ?_⟩
      replace h := h.2
      intro z13 e_z13
      replace h := h z13 e_z13
      refine ⟨fun c => ?_, fun c => ?_⟩
      · replace h := h.1 c
        exact ty_X11_begin_55 (fun d1 S1 r1 hs9 hw9 h9 => hk d1 S1 r1 (fun q hq => hs9 q (hs1 q hq)) hw9 h9) t_q8 t_q8 hW h
      · replace h := h.2 c
        exact ty_X11_begin_55 (fun d1 S1 r1 hs9 hw9 h9 => hk d1 S1 r1 (fun q hq => hs9 q (hs1 q hq)) hw9 h9) t_q8 t_q8 hW h
  · replace h := h.2 c
    exact hk _ _ _ (fun _ h => h) hW h
