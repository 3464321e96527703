
def wT_X3_product_82 (r_X3_part : Nat → Int32 → kS → (kS → Prop) → Prop) (K : kS → Prop) (k12 : Nat × Int32 × Int32 × Int32 × kS → Prop) (x0 : Nat) (x1 : Int32) (x3 : Int32) (S : kS) : Prop := wT_X3_kind x0 S (fun (S12 : kS) (r12 : Int32) => ∀ z13 : Int32, z13 = x3 + 1 → k12 (x0, x1, r12, z13, S12))
def wT_X3_product_77 (r_X3_part : Nat → Int32 → kS → (kS → Prop) → Prop) (K : kS → Prop) (k12 : Nat × Int32 × Int32 × Int32 × kS → Prop) (x0 : Nat) (x1 : Int32) (x3 : Int32) (y0 : Nat) (y1 : Int32) (S : kS) : Prop := wT_X3_emit y0 y1 0 S (fun (S14 : kS) (r14 : Int32) => wT_X3_product_82 r_X3_part K k12 x0 x1 x3 S14)
def wT_X3_product_37 (r_X3_part : Nat → Int32 → kS → (kS → Prop) → Prop) (K : kS → Prop) (k12 : Nat × Int32 × Int32 × Int32 × kS → Prop) (x0 : Nat) (x1 : Int32) (x2 : Int32) (x3 : Int32) (S : kS) : Prop := wT_X3_step x0 S (fun (S7 : kS) => r_X3_part x0 x1 S7 (fun (S8 : kS) => ((¬ x2 = 42 → ((¬ x2 = 47 → wT_X3_product_77 r_X3_part K k12 x0 x1 x3 x0 10 S8) ∧ (x2 = 47 → wT_X3_product_77 r_X3_part K k12 x0 x1 x3 x0 9 S8))) ∧ (x2 = 42 → wT_X3_emit x0 8 0 S8 (fun (S11 : kS) (r11 : Int32) => wT_X3_product_82 r_X3_part K k12 x0 x1 x3 S11)))))
def wT_X3_product_12 (r_X3_part : Nat → Int32 → kS → (kS → Prop) → Prop) (K : kS → Prop) (k12 : Nat × Int32 × Int32 × Int32 × kS → Prop) (x0 : Nat) (x1 : Int32) (x2 : Int32) (x3 : Int32) (S : kS) : Prop := ((4000 ≤ x3 → K S) ∧ (¬ 4000 ≤ x3 → ((x2 = 42 → wT_X3_product_37 r_X3_part K k12 x0 x1 x2 x3 S) ∧ (¬ x2 = 42 → ((x2 = 47 → wT_X3_product_37 r_X3_part K k12 x0 x1 x2 x3 S) ∧ (¬ x2 = 47 → ((¬ x2 = 37 → K S) ∧ (x2 = 37 → wT_X3_product_37 r_X3_part K k12 x0 x1 x2 x3 S))))))))
def lT_X3_product_12 (r_X3_part : Nat → Int32 → kS → (kS → Prop) → Prop) (K : kS → Prop) (k12 : Nat × Int32 × Int32 × Int32 × kS → Prop) (u : Nat × Int32 × Int32 × Int32 × kS) : Prop := wT_X3_product_12 r_X3_part K k12 u.1 u.2.1 u.2.2.1 u.2.2.2.1 u.2.2.2.2
def wT_X3_product (r_X3_part : Nat → Int32 → kS → (kS → Prop) → Prop) (t0 : Nat) (a0 : Int32) (S : kS) (K : kS → Prop) : Prop := r_X3_part t0 a0 S (fun (S1 : kS) => wT_X3_kind t0 S1 (fun (S2 : kS) (r2 : Int32) => (∃ n9, it (lT_X3_product_12 r_X3_part K) n9 (t0, a0, r2, 0, S2))))
theorem ty_X3_product_82 {d : List (Nat × cK)} {r_X3_part u_X3_part : Nat → Int32 → kS → (kS → Prop) → Prop} (hr_X3_part : ∀ (t0 : Nat) (a0 : Int32), ((t0, Sum.inl 3) ∈ d) → ∀ (S : kS) (K K' : kS → Prop), WT d S → (∀ S1, WT d S1 → K S1 → K' S1) → u_X3_part t0 a0 S K → r_X3_part t0 a0 S K') {K K' : kS → Prop} {k12 k12' : Nat × Int32 × Int32 × Int32 × kS → Prop} (hk : ∀ S1, WT d S1 → K S1 → K' S1) (hk12 : ∀ (x0 : Nat) (x1 : Int32) (x2 : Int32) (x3 : Int32), ((x0, Sum.inl 3) ∈ d) → ∀ S : kS, WT d S → k12 (x0, x1, x2, x3, S) → k12' (x0, x1, x2, x3, S)) {x0 : Nat} {x1 : Int32} {x3 : Int32} (t_x0 : (x0, Sum.inl 3) ∈ d) {S : kS} (hW : WT d S) (h : wT_X3_product_82 u_X3_part K k12 x0 x1 x3 S) : wp_X3_product_82 r_X3_part K' k12' x0 x1 x3 S := by
  unfold wT_X3_product_82 at h
  unfold wp_X3_product_82
  refine ⟨hasO_of hW t_x0, ?_⟩
  refine ty_X3_kind t_x0 hW (fun S12 r12 hW h => ?_) h
  intro z13 e_z13
  replace h := h z13 e_z13
  exact hk12 _ _ _ _ t_x0 _ hW h
theorem ty_X3_product_77 {d : List (Nat × cK)} {r_X3_part u_X3_part : Nat → Int32 → kS → (kS → Prop) → Prop} (hr_X3_part : ∀ (t0 : Nat) (a0 : Int32), ((t0, Sum.inl 3) ∈ d) → ∀ (S : kS) (K K' : kS → Prop), WT d S → (∀ S1, WT d S1 → K S1 → K' S1) → u_X3_part t0 a0 S K → r_X3_part t0 a0 S K') {K K' : kS → Prop} {k12 k12' : Nat × Int32 × Int32 × Int32 × kS → Prop} (hk : ∀ S1, WT d S1 → K S1 → K' S1) (hk12 : ∀ (x0 : Nat) (x1 : Int32) (x2 : Int32) (x3 : Int32), ((x0, Sum.inl 3) ∈ d) → ∀ S : kS, WT d S → k12 (x0, x1, x2, x3, S) → k12' (x0, x1, x2, x3, S)) {x0 : Nat} {x1 : Int32} {x3 : Int32} {y0 : Nat} {y1 : Int32} (t_x0 : (x0, Sum.inl 3) ∈ d) (t_y0 : (y0, Sum.inl 3) ∈ d) {S : kS} (hW : WT d S) (h : wT_X3_product_77 u_X3_part K k12 x0 x1 x3 y0 y1 S) : wp_X3_product_77 r_X3_part K' k12' x0 x1 x3 y0 y1 S := by
  unfold wT_X3_product_77 at h
  unfold wp_X3_product_77
  refine ⟨hasO_of hW t_y0, ?_⟩
  refine ty_X3_emit t_y0 hW (fun S14 r14 hW h => ?_) h
  exact ty_X3_product_82 hr_X3_part hk hk12 t_x0 hW h
theorem ty_X3_product_37 {d : List (Nat × cK)} {r_X3_part u_X3_part : Nat → Int32 → kS → (kS → Prop) → Prop} (hr_X3_part : ∀ (t0 : Nat) (a0 : Int32), ((t0, Sum.inl 3) ∈ d) → ∀ (S : kS) (K K' : kS → Prop), WT d S → (∀ S1, WT d S1 → K S1 → K' S1) → u_X3_part t0 a0 S K → r_X3_part t0 a0 S K') {K K' : kS → Prop} {k12 k12' : Nat × Int32 × Int32 × Int32 × kS → Prop} (hk : ∀ S1, WT d S1 → K S1 → K' S1) (hk12 : ∀ (x0 : Nat) (x1 : Int32) (x2 : Int32) (x3 : Int32), ((x0, Sum.inl 3) ∈ d) → ∀ S : kS, WT d S → k12 (x0, x1, x2, x3, S) → k12' (x0, x1, x2, x3, S)) {x0 : Nat} {x1 : Int32} {x2 : Int32} {x3 : Int32} (t_x0 : (x0, Sum.inl 3) ∈ d) {S : kS} (hW : WT d S) (h : wT_X3_product_37 u_X3_part K k12 x0 x1 x2 x3 S) : wp_X3_product_37 r_X3_part K' k12' x0 x1 x2 x3 S := by
  unfold wT_X3_product_37 at h
  unfold wp_X3_product_37
  refine ⟨hasO_of hW t_x0, ?_⟩
  refine ty_X3_step t_x0 hW (fun S7 hW h => ?_) h
  refine ⟨hasO_of hW t_x0, ?_⟩
  refine hr_X3_part _ _ t_x0 _ _ _ hW (fun S8 hW h => ?_) h
  refine ⟨fun c => ?_, fun c => ?_⟩
  · replace h := h.1 c
    refine ⟨fun c => ?_, fun c => ?_⟩
    · replace h := h.1 c
      exact ty_X3_product_77 hr_X3_part hk hk12 t_x0 t_x0 hW h
    · replace h := h.2 c
      exact ty_X3_product_77 hr_X3_part hk hk12 t_x0 t_x0 hW h
  · replace h := h.2 c
    refine ⟨hasO_of hW t_x0, ?_⟩
    refine ty_X3_emit t_x0 hW (fun S11 r11 hW h => ?_) h
    exact ty_X3_product_82 hr_X3_part hk hk12 t_x0 hW h
theorem ty_X3_product_12 {d : List (Nat × cK)} {r_X3_part u_X3_part : Nat → Int32 → kS → (kS → Prop) → Prop} (hr_X3_part : ∀ (t0 : Nat) (a0 : Int32), ((t0, Sum.inl 3) ∈ d) → ∀ (S : kS) (K K' : kS → Prop), WT d S → (∀ S1, WT d S1 → K S1 → K' S1) → u_X3_part t0 a0 S K → r_X3_part t0 a0 S K') {K K' : kS → Prop} {k12 k12' : Nat × Int32 × Int32 × Int32 × kS → Prop} (hk : ∀ S1, WT d S1 → K S1 → K' S1) (hk12 : ∀ (x0 : Nat) (x1 : Int32) (x2 : Int32) (x3 : Int32), ((x0, Sum.inl 3) ∈ d) → ∀ S : kS, WT d S → k12 (x0, x1, x2, x3, S) → k12' (x0, x1, x2, x3, S)) {x0 : Nat} {x1 : Int32} {x2 : Int32} {x3 : Int32} (t_x0 : (x0, Sum.inl 3) ∈ d) {S : kS} (hW : WT d S) (h : wT_X3_product_12 u_X3_part K k12 x0 x1 x2 x3 S) : wp_X3_product_12 r_X3_part K' k12' x0 x1 x2 x3 S := by
  unfold wT_X3_product_12 at h
  unfold wp_X3_product_12
  refine ⟨fun c => ?_, fun c => ?_⟩
  · replace h := h.1 c
    exact hk _ hW h
  · replace h := h.2 c
    refine ⟨fun c => ?_, fun c => ?_⟩
    · replace h := h.1 c
      exact ty_X3_product_37 hr_X3_part hk hk12 t_x0 hW h
    · replace h := h.2 c
      refine ⟨fun c => ?_, fun c => ?_⟩
      · replace h := h.1 c
        exact ty_X3_product_37 hr_X3_part hk hk12 t_x0 hW h
      · replace h := h.2 c
        refine ⟨fun c => ?_, fun c => ?_⟩
        · replace h := h.1 c
          exact hk _ hW h
        · replace h := h.2 c
          exact ty_X3_product_37 hr_X3_part hk hk12 t_x0 hW h
theorem tyl_X3_product_12 {d : List (Nat × cK)} {r_X3_part u_X3_part : Nat → Int32 → kS → (kS → Prop) → Prop} (hr_X3_part : ∀ (t0 : Nat) (a0 : Int32), ((t0, Sum.inl 3) ∈ d) → ∀ (S : kS) (K K' : kS → Prop), WT d S → (∀ S1, WT d S1 → K S1 → K' S1) → u_X3_part t0 a0 S K → r_X3_part t0 a0 S K') {K K' : kS → Prop} (hk : ∀ S1, WT d S1 → K S1 → K' S1) : ∀ (n : Nat) (x0 : Nat) (x1 : Int32) (x2 : Int32) (x3 : Int32), ((x0, Sum.inl 3) ∈ d) → ∀ S : kS, WT d S → it (lT_X3_product_12 u_X3_part K) n (x0, x1, x2, x3, S) → it (ls_X3_product_12 r_X3_part K') n (x0, x1, x2, x3, S) := by
  intro n
  induction n with
  | zero => exact fun _ _ _ _ _ _ _ h => h
  | succ n ih => exact fun x0 x1 x2 x3 t_x0 S hW h => ty_X3_product_12 hr_X3_part hk ih t_x0 hW h
theorem ty_X3_product {d : List (Nat × cK)} {r_X3_part u_X3_part : Nat → Int32 → kS → (kS → Prop) → Prop} (hr_X3_part : ∀ (t0 : Nat) (a0 : Int32), ((t0, Sum.inl 3) ∈ d) → ∀ (S : kS) (K K' : kS → Prop), WT d S → (∀ S1, WT d S1 → K S1 → K' S1) → u_X3_part t0 a0 S K → r_X3_part t0 a0 S K') {t0 : Nat} {a0 : Int32} (t_t0 : (t0, Sum.inl 3) ∈ d) {S : kS} {K K' : kS → Prop} (hW : WT d S) (hk : ∀ S1, WT d S1 → K S1 → K' S1) (h : wT_X3_product u_X3_part t0 a0 S K) : wp_X3_product r_X3_part t0 a0 S K' := by
  unfold wT_X3_product at h
  unfold wp_X3_product
  refine ⟨hasO_of hW t_t0, ?_⟩
  refine hr_X3_part _ _ t_t0 _ _ _ hW (fun S1 hW h => ?_) h
  refine ⟨hasO_of hW t_t0, ?_⟩
  refine ty_X3_kind t_t0 hW (fun S2 r2 hW h => ?_) h
  obtain ⟨n9, h⟩ := h
  exact ⟨n9, tyl_X3_product_12 hr_X3_part hk n9 _ _ _ _ t_t0 _ hW h⟩
def wT_X3_sum_54 (r_X3_part : Nat → Int32 → kS → (kS → Prop) → Prop) (K : kS → Prop) (k12 : Nat × Int32 × Int32 × Int32 × kS → Prop) (x0 : Nat) (x1 : Int32) (x3 : Int32) (y0 : Nat) (y1 : Int32) (S : kS) : Prop := wT_X3_emit y0 y1 0 S (fun (S9 : kS) (r9 : Int32) => wT_X3_kind x0 S9 (fun (S10 : kS) (r10 : Int32) => ∀ z11 : Int32, z11 = x3 + 1 → k12 (x0, x1, r10, z11, S10)))
def wT_X3_sum_31 (r_X3_part : Nat → Int32 → kS → (kS → Prop) → Prop) (K : kS → Prop) (k12 : Nat × Int32 × Int32 × Int32 × kS → Prop) (x0 : Nat) (x1 : Int32) (x2 : Int32) (x3 : Int32) (S : kS) : Prop := wT_X3_step x0 S (fun (S6 : kS) => wT_X3_product r_X3_part x0 x1 S6 (fun (S7 : kS) => ((¬ x2 = 43 → wT_X3_sum_54 r_X3_part K k12 x0 x1 x3 x0 7 S7) ∧ (x2 = 43 → wT_X3_sum_54 r_X3_part K k12 x0 x1 x3 x0 6 S7))))
def wT_X3_sum_12 (r_X3_part : Nat → Int32 → kS → (kS → Prop) → Prop) (K : kS → Prop) (k12 : Nat × Int32 × Int32 × Int32 × kS → Prop) (x0 : Nat) (x1 : Int32) (x2 : Int32) (x3 : Int32) (S : kS) : Prop := ((4000 ≤ x3 → K S) ∧ (¬ 4000 ≤ x3 → ((x2 = 43 → wT_X3_sum_31 r_X3_part K k12 x0 x1 x2 x3 S) ∧ (¬ x2 = 43 → ((¬ x2 = 45 → K S) ∧ (x2 = 45 → wT_X3_sum_31 r_X3_part K k12 x0 x1 x2 x3 S))))))
def lT_X3_sum_12 (r_X3_part : Nat → Int32 → kS → (kS → Prop) → Prop) (K : kS → Prop) (k12 : Nat × Int32 × Int32 × Int32 × kS → Prop) (u : Nat × Int32 × Int32 × Int32 × kS) : Prop := wT_X3_sum_12 r_X3_part K k12 u.1 u.2.1 u.2.2.1 u.2.2.2.1 u.2.2.2.2
def wT_X3_sum (r_X3_part : Nat → Int32 → kS → (kS → Prop) → Prop) (t0 : Nat) (a0 : Int32) (S : kS) (K : kS → Prop) : Prop := wT_X3_product r_X3_part t0 a0 S (fun (S1 : kS) => wT_X3_kind t0 S1 (fun (S2 : kS) (r2 : Int32) => (∃ n9, it (lT_X3_sum_12 r_X3_part K) n9 (t0, a0, r2, 0, S2))))
theorem ty_X3_sum_54 {d : List (Nat × cK)} {r_X3_part u_X3_part : Nat → Int32 → kS → (kS → Prop) → Prop} (hr_X3_part : ∀ (t0 : Nat) (a0 : Int32), ((t0, Sum.inl 3) ∈ d) → ∀ (S : kS) (K K' : kS → Prop), WT d S → (∀ S1, WT d S1 → K S1 → K' S1) → u_X3_part t0 a0 S K → r_X3_part t0 a0 S K') {K K' : kS → Prop} {k12 k12' : Nat × Int32 × Int32 × Int32 × kS → Prop} (hk : ∀ S1, WT d S1 → K S1 → K' S1) (hk12 : ∀ (x0 : Nat) (x1 : Int32) (x2 : Int32) (x3 : Int32), ((x0, Sum.inl 3) ∈ d) → ∀ S : kS, WT d S → k12 (x0, x1, x2, x3, S) → k12' (x0, x1, x2, x3, S)) {x0 : Nat} {x1 : Int32} {x3 : Int32} {y0 : Nat} {y1 : Int32} (t_x0 : (x0, Sum.inl 3) ∈ d) (t_y0 : (y0, Sum.inl 3) ∈ d) {S : kS} (hW : WT d S) (h : wT_X3_sum_54 u_X3_part K k12 x0 x1 x3 y0 y1 S) : wp_X3_sum_54 r_X3_part K' k12' x0 x1 x3 y0 y1 S := by
  unfold wT_X3_sum_54 at h
  unfold wp_X3_sum_54
  refine ⟨hasO_of hW t_y0, ?_⟩
  refine ty_X3_emit t_y0 hW (fun S9 r9 hW h => ?_) h
  refine ⟨hasO_of hW t_x0, ?_⟩
  refine ty_X3_kind t_x0 hW (fun S10 r10 hW h => ?_) h
  intro z11 e_z11
  replace h := h z11 e_z11
  exact hk12 _ _ _ _ t_x0 _ hW h
theorem ty_X3_sum_31 {d : List (Nat × cK)} {r_X3_part u_X3_part : Nat → Int32 → kS → (kS → Prop) → Prop} (hr_X3_part : ∀ (t0 : Nat) (a0 : Int32), ((t0, Sum.inl 3) ∈ d) → ∀ (S : kS) (K K' : kS → Prop), WT d S → (∀ S1, WT d S1 → K S1 → K' S1) → u_X3_part t0 a0 S K → r_X3_part t0 a0 S K') {K K' : kS → Prop} {k12 k12' : Nat × Int32 × Int32 × Int32 × kS → Prop} (hk : ∀ S1, WT d S1 → K S1 → K' S1) (hk12 : ∀ (x0 : Nat) (x1 : Int32) (x2 : Int32) (x3 : Int32), ((x0, Sum.inl 3) ∈ d) → ∀ S : kS, WT d S → k12 (x0, x1, x2, x3, S) → k12' (x0, x1, x2, x3, S)) {x0 : Nat} {x1 : Int32} {x2 : Int32} {x3 : Int32} (t_x0 : (x0, Sum.inl 3) ∈ d) {S : kS} (hW : WT d S) (h : wT_X3_sum_31 u_X3_part K k12 x0 x1 x2 x3 S) : wp_X3_sum_31 r_X3_part K' k12' x0 x1 x2 x3 S := by
  unfold wT_X3_sum_31 at h
  unfold wp_X3_sum_31
  refine ⟨hasO_of hW t_x0, ?_⟩
  refine ty_X3_step t_x0 hW (fun S6 hW h => ?_) h
  refine ⟨hasO_of hW t_x0, ?_⟩
  refine ty_X3_product hr_X3_part t_x0 hW (fun S7 hW h => ?_) h
  refine ⟨fun c => ?_, fun c => ?_⟩
  · replace h := h.1 c
    exact ty_X3_sum_54 hr_X3_part hk hk12 t_x0 t_x0 hW h
  · replace h := h.2 c
    exact ty_X3_sum_54 hr_X3_part hk hk12 t_x0 t_x0 hW h
theorem ty_X3_sum_12 {d : List (Nat × cK)} {r_X3_part u_X3_part : Nat → Int32 → kS → (kS → Prop) → Prop} (hr_X3_part : ∀ (t0 : Nat) (a0 : Int32), ((t0, Sum.inl 3) ∈ d) → ∀ (S : kS) (K K' : kS → Prop), WT d S → (∀ S1, WT d S1 → K S1 → K' S1) → u_X3_part t0 a0 S K → r_X3_part t0 a0 S K') {K K' : kS → Prop} {k12 k12' : Nat × Int32 × Int32 × Int32 × kS → Prop} (hk : ∀ S1, WT d S1 → K S1 → K' S1) (hk12 : ∀ (x0 : Nat) (x1 : Int32) (x2 : Int32) (x3 : Int32), ((x0, Sum.inl 3) ∈ d) → ∀ S : kS, WT d S → k12 (x0, x1, x2, x3, S) → k12' (x0, x1, x2, x3, S)) {x0 : Nat} {x1 : Int32} {x2 : Int32} {x3 : Int32} (t_x0 : (x0, Sum.inl 3) ∈ d) {S : kS} (hW : WT d S) (h : wT_X3_sum_12 u_X3_part K k12 x0 x1 x2 x3 S) : wp_X3_sum_12 r_X3_part K' k12' x0 x1 x2 x3 S := by
  unfold wT_X3_sum_12 at h
  unfold wp_X3_sum_12
  refine ⟨fun c => ?_, fun c => ?_⟩
  · replace h := h.1 c
    exact hk _ hW h
  · replace h := h.2 c
    refine ⟨fun c => ?_, fun c => ?_⟩
    · replace h := h.1 c
      exact ty_X3_sum_31 hr_X3_part hk hk12 t_x0 hW h
    · replace h := h.2 c
      refine ⟨fun c => ?_, fun c => ?_⟩
      · replace h := h.1 c
        exact hk _ hW h
      · replace h := h.2 c
        exact ty_X3_sum_31 hr_X3_part hk hk12 t_x0 hW h
theorem tyl_X3_sum_12 {d : List (Nat × cK)} {r_X3_part u_X3_part : Nat → Int32 → kS → (kS → Prop) → Prop} (hr_X3_part : ∀ (t0 : Nat) (a0 : Int32), ((t0, Sum.inl 3) ∈ d) → ∀ (S : kS) (K K' : kS → Prop), WT d S → (∀ S1, WT d S1 → K S1 → K' S1) → u_X3_part t0 a0 S K → r_X3_part t0 a0 S K') {K K' : kS → Prop} (hk : ∀ S1, WT d S1 → K S1 → K' S1) : ∀ (n : Nat) (x0 : Nat) (x1 : Int32) (x2 : Int32) (x3 : Int32), ((x0, Sum.inl 3) ∈ d) → ∀ S : kS, WT d S → it (lT_X3_sum_12 u_X3_part K) n (x0, x1, x2, x3, S) → it (ls_X3_sum_12 r_X3_part K') n (x0, x1, x2, x3, S) := by
  intro n
  induction n with
  | zero => exact fun _ _ _ _ _ _ _ h => h
  | succ n ih => exact fun x0 x1 x2 x3 t_x0 S hW h => ty_X3_sum_12 hr_X3_part hk ih t_x0 hW h
theorem ty_X3_sum {d : List (Nat × cK)} {r_X3_part u_X3_part : Nat → Int32 → kS → (kS → Prop) → Prop} (hr_X3_part : ∀ (t0 : Nat) (a0 : Int32), ((t0, Sum.inl 3) ∈ d) → ∀ (S : kS) (K K' : kS → Prop), WT d S → (∀ S1, WT d S1 → K S1 → K' S1) → u_X3_part t0 a0 S K → r_X3_part t0 a0 S K') {t0 : Nat} {a0 : Int32} (t_t0 : (t0, Sum.inl 3) ∈ d) {S : kS} {K K' : kS → Prop} (hW : WT d S) (hk : ∀ S1, WT d S1 → K S1 → K' S1) (h : wT_X3_sum u_X3_part t0 a0 S K) : wp_X3_sum r_X3_part t0 a0 S K' := by
  unfold wT_X3_sum at h
  unfold wp_X3_sum
  refine ⟨hasO_of hW t_t0, ?_⟩
  refine ty_X3_product hr_X3_part t_t0 hW (fun S1 hW h => ?_) h
  refine ⟨hasO_of hW t_t0, ?_⟩
  refine ty_X3_kind t_t0 hW (fun S2 r2 hW h => ?_) h
  obtain ⟨n9, h⟩ := h
  exact ⟨n9, tyl_X3_sum_12 hr_X3_part hk n9 _ _ _ _ t_t0 _ hW h⟩
def wT_X3_expression_45 (r_X3_part : Nat → Int32 → kS → (kS → Prop) → Prop) (K : kS → Prop) (y0 : Nat) (y1 : Int32) (S : kS) : Prop := wT_X3_emit y0 y1 0 S (fun (S8 : kS) (r8 : Int32) => K S8)
def wT_X3_expression_22 (r_X3_part : Nat → Int32 → kS → (kS → Prop) → Prop) (K : kS → Prop) (x0 : Nat) (x1 : Int32) (x2 : Int32) (S : kS) : Prop := wT_X3_step x0 S (fun (S5 : kS) => wT_X3_sum r_X3_part x0 x1 S5 (fun (S6 : kS) => ((¬ x2 = 60 → wT_X3_expression_45 r_X3_part K x0 12 S6) ∧ (x2 = 60 → wT_X3_expression_45 r_X3_part K x0 11 S6))))
def wT_X3_expression (r_X3_part : Nat → Int32 → kS → (kS → Prop) → Prop) (t0 : Nat) (a0 : Int32) (S : kS) (K : kS → Prop) : Prop := wT_X3_sum r_X3_part t0 a0 S (fun (S1 : kS) => wT_X3_kind t0 S1 (fun (S2 : kS) (r2 : Int32) => ((r2 = 60 → wT_X3_expression_22 r_X3_part K t0 a0 r2 S2) ∧ (¬ r2 = 60 → ((¬ r2 = 61 → K S2) ∧ (r2 = 61 → wT_X3_expression_22 r_X3_part K t0 a0 r2 S2))))))
theorem ty_X3_expression_45 {d : List (Nat × cK)} {r_X3_part u_X3_part : Nat → Int32 → kS → (kS → Prop) → Prop} (hr_X3_part : ∀ (t0 : Nat) (a0 : Int32), ((t0, Sum.inl 3) ∈ d) → ∀ (S : kS) (K K' : kS → Prop), WT d S → (∀ S1, WT d S1 → K S1 → K' S1) → u_X3_part t0 a0 S K → r_X3_part t0 a0 S K') {K K' : kS → Prop} (hk : ∀ S1, WT d S1 → K S1 → K' S1) {y0 : Nat} {y1 : Int32} (t_y0 : (y0, Sum.inl 3) ∈ d) {S : kS} (hW : WT d S) (h : wT_X3_expression_45 u_X3_part K y0 y1 S) : wp_X3_expression_45 r_X3_part K' y0 y1 S := by
  unfold wT_X3_expression_45 at h
  unfold wp_X3_expression_45
  refine ⟨hasO_of hW t_y0, ?_⟩
  refine ty_X3_emit t_y0 hW (fun S8 r8 hW h => ?_) h
  exact hk _ hW h
theorem ty_X3_expression_22 {d : List (Nat × cK)} {r_X3_part u_X3_part : Nat → Int32 → kS → (kS → Prop) → Prop} (hr_X3_part : ∀ (t0 : Nat) (a0 : Int32), ((t0, Sum.inl 3) ∈ d) → ∀ (S : kS) (K K' : kS → Prop), WT d S → (∀ S1, WT d S1 → K S1 → K' S1) → u_X3_part t0 a0 S K → r_X3_part t0 a0 S K') {K K' : kS → Prop} (hk : ∀ S1, WT d S1 → K S1 → K' S1) {x0 : Nat} {x1 : Int32} {x2 : Int32} (t_x0 : (x0, Sum.inl 3) ∈ d) {S : kS} (hW : WT d S) (h : wT_X3_expression_22 u_X3_part K x0 x1 x2 S) : wp_X3_expression_22 r_X3_part K' x0 x1 x2 S := by
  unfold wT_X3_expression_22 at h
  unfold wp_X3_expression_22
  refine ⟨hasO_of hW t_x0, ?_⟩
  refine ty_X3_step t_x0 hW (fun S5 hW h => ?_) h
  refine ⟨hasO_of hW t_x0, ?_⟩
  refine ty_X3_sum hr_X3_part t_x0 hW (fun S6 hW h => ?_) h
  refine ⟨fun c => ?_, fun c => ?_⟩
  · replace h := h.1 c
    exact ty_X3_expression_45 hr_X3_part hk t_x0 hW h
  · replace h := h.2 c
    exact ty_X3_expression_45 hr_X3_part hk t_x0 hW h
theorem ty_X3_expression {d : List (Nat × cK)} {r_X3_part u_X3_part : Nat → Int32 → kS → (kS → Prop) → Prop} (hr_X3_part : ∀ (t0 : Nat) (a0 : Int32), ((t0, Sum.inl 3) ∈ d) → ∀ (S : kS) (K K' : kS → Prop), WT d S → (∀ S1, WT d S1 → K S1 → K' S1) → u_X3_part t0 a0 S K → r_X3_part t0 a0 S K') {t0 : Nat} {a0 : Int32} (t_t0 : (t0, Sum.inl 3) ∈ d) {S : kS} {K K' : kS → Prop} (hW : WT d S) (hk : ∀ S1, WT d S1 → K S1 → K' S1) (h : wT_X3_expression u_X3_part t0 a0 S K) : wp_X3_expression r_X3_part t0 a0 S K' := by
  unfold wT_X3_expression at h
  unfold wp_X3_expression
  refine ⟨hasO_of hW t_t0, ?_⟩
  refine ty_X3_sum hr_X3_part t_t0 hW (fun S1 hW h => ?_) h
  refine ⟨hasO_of hW t_t0, ?_⟩
  refine ty_X3_kind t_t0 hW (fun S2 r2 hW h => ?_) h
  refine ⟨fun c => ?_, fun c => ?_⟩
  · replace h := h.1 c
    exact ty_X3_expression_22 hr_X3_part hk t_t0 hW h
  · replace h := h.2 c
    refine ⟨fun c => ?_, fun c => ?_⟩
    · replace h := h.1 c
      exact hk _ hW h
    · replace h := h.2 c
      exact ty_X3_expression_22 hr_X3_part hk t_t0 hW h
def wT_X3_part_60 (r_X3_part : Nat → Int32 → kS → (kS → Prop) → Prop) (K : kS → Prop) (y0 : Nat) (y1 : Int32) (S : kS) : Prop := wT_X3_wrong y0 y1 S (fun (S34 : kS) => K S34)
def wT_X3_part_50 (r_X3_part : Nat → Int32 → kS → (kS → Prop) → Prop) (K : kS → Prop) (x0 : Nat) (x3 : Int32) (S : kS) : Prop := ((x3 = 0 → wT_X3_part_60 r_X3_part K x0 1 S) ∧ (¬ x3 = 0 → wT_X3_part_60 r_X3_part K x0 5 S))
def wT_X3_part_39 (r_X3_part : Nat → Int32 → kS → (kS → Prop) → Prop) (K : kS → Prop) (x0 : Nat) (x1 : Int32) (x2 : Int32) (y0 : Int32) (S : kS) : Prop := ((y0 = 0 → wT_X3_part_50 r_X3_part K x0 y0 S) ∧ (¬ y0 = 0 → ((x1 < 10 → ((¬ x2 = 3 → ∀ z10 : Option Nat, z10 = S.2.1 14 x0 → ∀ q11 : Nat, z10 = some q11 → ∀ z12 : Option Nat, z12 = S.2.1 66 q11 → ∀ z13 : Int32, z13 = S.1 6 x0 → ∀ q14 : Nat, z12 = some q14 → inR z13 4002 ∧ ∀ z15 : Int64, z15 = S.2.2.2.1 q14 (ix z13) → ∀ z16 : Int32, z16 = Int64.toInt32 z15 → wT_X3_step x0 S (fun (S17 : kS) => ((¬ x2 = 2 → ((¬ x2 = 220 → ((¬ x2 = 40 → wT_X3_emit x0 1 0 S17 (fun (S21 : kS) (r21 : Int32) => ∀ z22 : Int32, z22 = x1 + 1 → r_X3_part x0 z22 S21 (fun (S23 : kS) => wT_X3_emit x0 5 0 S23 (fun (S24 : kS) (r24 : Int32) => K S24)))) ∧ (x2 = 40 → wT_X3_emit x0 1 0 S17 (fun (S25 : kS) (r25 : Int32) => ∀ z26 : Int32, z26 = x1 + 1 → wT_X3_expression r_X3_part x0 z26 S25 (fun (S27 : kS) => wT_X3_need x0 41 S27 (fun (S28 : kS) => K S28)))))) ∧ (x2 = 220 → wT_X3_emit x0 4 0 S17 (fun (S29 : kS) (r29 : Int32) => K S29)))) ∧ (x2 = 2 → wT_X3_emit x0 2 z16 S17 (fun (S30 : kS) (r30 : Int32) => K S30))))) ∧ (x2 = 3 → wT_X3_cellHere x0 S (fun (S31 : kS) (r31 : Int32) => wT_X3_emit x0 3 r31 S31 (fun (S32 : kS) (r32 : Int32) => K S32))))) ∧ (¬ x1 < 10 → wT_X3_part_50 r_X3_part K x0 y0 S))))
def wT_X3_part_34 (r_X3_part : Nat → Int32 → kS → (kS → Prop) → Prop) (K : kS → Prop) (x0 : Nat) (x1 : Int32) (x2 : Int32) (S : kS) : Prop := wT_X3_part_39 r_X3_part K x0 x1 x2 1 S
def wT_X3_part (r_X3_part : Nat → Int32 → kS → (kS → Prop) → Prop) (t0 : Nat) (a0 : Int32) (S : kS) (K : kS → Prop) : Prop := wT_X3_kind t0 S (fun (S1 : kS) (r1 : Int32) => ((r1 = 2 → wT_X3_part_34 r_X3_part K t0 a0 r1 S1) ∧ (¬ r1 = 2 → ((r1 = 3 → wT_X3_part_34 r_X3_part K t0 a0 r1 S1) ∧ (¬ r1 = 3 → ((r1 = 220 → wT_X3_part_34 r_X3_part K t0 a0 r1 S1) ∧ (¬ r1 = 220 → ((r1 = 40 → wT_X3_part_34 r_X3_part K t0 a0 r1 S1) ∧ (¬ r1 = 40 → ((¬ r1 = 45 → wT_X3_part_39 r_X3_part K t0 a0 r1 0 S1) ∧ (r1 = 45 → wT_X3_part_34 r_X3_part K t0 a0 r1 S1)))))))))))
theorem ty_X3_part_60 {d : List (Nat × cK)} {r_X3_part u_X3_part : Nat → Int32 → kS → (kS → Prop) → Prop} (hr_X3_part : ∀ (t0 : Nat) (a0 : Int32), ((t0, Sum.inl 3) ∈ d) → ∀ (S : kS) (K K' : kS → Prop), WT d S → (∀ S1, WT d S1 → K S1 → K' S1) → u_X3_part t0 a0 S K → r_X3_part t0 a0 S K') {K K' : kS → Prop} (hk : ∀ S1, WT d S1 → K S1 → K' S1) {y0 : Nat} {y1 : Int32} (t_y0 : (y0, Sum.inl 3) ∈ d) {S : kS} (hW : WT d S) (h : wT_X3_part_60 u_X3_part K y0 y1 S) : wp_X3_part_60 r_X3_part K' y0 y1 S := by
  unfold wT_X3_part_60 at h
  unfold wp_X3_part_60
  refine ⟨hasO_of hW t_y0, ?_⟩
  refine ty_X3_wrong t_y0 hW (fun S34 hW h => ?_) h
  exact hk _ hW h
theorem ty_X3_part_50 {d : List (Nat × cK)} {r_X3_part u_X3_part : Nat → Int32 → kS → (kS → Prop) → Prop} (hr_X3_part : ∀ (t0 : Nat) (a0 : Int32), ((t0, Sum.inl 3) ∈ d) → ∀ (S : kS) (K K' : kS → Prop), WT d S → (∀ S1, WT d S1 → K S1 → K' S1) → u_X3_part t0 a0 S K → r_X3_part t0 a0 S K') {K K' : kS → Prop} (hk : ∀ S1, WT d S1 → K S1 → K' S1) {x0 : Nat} {x3 : Int32} (t_x0 : (x0, Sum.inl 3) ∈ d) {S : kS} (hW : WT d S) (h : wT_X3_part_50 u_X3_part K x0 x3 S) : wp_X3_part_50 r_X3_part K' x0 x3 S := by
  unfold wT_X3_part_50 at h
  unfold wp_X3_part_50
  refine ⟨fun c => ?_, fun c => ?_⟩
  · replace h := h.1 c
    exact ty_X3_part_60 hr_X3_part hk t_x0 hW h
  · replace h := h.2 c
    exact ty_X3_part_60 hr_X3_part hk t_x0 hW h
theorem ty_X3_part_39 {d : List (Nat × cK)} {r_X3_part u_X3_part : Nat → Int32 → kS → (kS → Prop) → Prop} (hr_X3_part : ∀ (t0 : Nat) (a0 : Int32), ((t0, Sum.inl 3) ∈ d) → ∀ (S : kS) (K K' : kS → Prop), WT d S → (∀ S1, WT d S1 → K S1 → K' S1) → u_X3_part t0 a0 S K → r_X3_part t0 a0 S K') {K K' : kS → Prop} (hk : ∀ S1, WT d S1 → K S1 → K' S1) {x0 : Nat} {x1 : Int32} {x2 : Int32} {y0 : Int32} (t_x0 : (x0, Sum.inl 3) ∈ d) {S : kS} (hW : WT d S) (h : wT_X3_part_39 u_X3_part K x0 x1 x2 y0 S) : wp_X3_part_39 r_X3_part K' x0 x1 x2 y0 S := by
  unfold wT_X3_part_39 at h
  unfold wp_X3_part_39
  refine ⟨fun c => ?_, fun c => ?_⟩
  · replace h := h.1 c
    exact ty_X3_part_50 hr_X3_part hk t_x0 hW h
  · replace h := h.2 c
    refine ⟨fun c => ?_, fun c => ?_⟩
    · replace h := h.1 c
      refine ⟨fun c => ?_, fun c => ?_⟩
      · replace h := h.1 c
        refine ⟨hasO_of hW t_x0, ?_⟩
        intro z10 e_z10
        replace h := h z10 e_z10
        have t_z10 : ∀ b, z10 = some b → (b, Sum.inl 10) ∈ d := fun b hb => hW.2.1 14 _ b t_x0 (by rw [← e_z10]; exact hb)
        have n_z10 := wt_nn (f := 14) hW (by decide) t_x0 e_z10
        obtain ⟨q11, e_q11⟩ := n_z10
        refine ⟨q11, e_q11, ?_⟩
        replace h := h q11 e_q11
        have t_q11 := t_z10 q11 e_q11
        refine ⟨hasO_of hW t_q11, ?_⟩
        intro z12 e_z12
        replace h := h z12 e_z12
        have t_z12 : ∀ b, z12 = some b → (b, Sum.inr (4002, 1)) ∈ d := fun b hb => hW.2.1 66 _ b t_q11 (by rw [← e_z12]; exact hb)
        have n_z12 := wt_nn (f := 66) hW (by decide) t_q11 e_z12
        refine ⟨hasO_of hW t_x0, ?_⟩
        intro z13 e_z13
        replace h := h z13 e_z13
        obtain ⟨q14, e_q14⟩ := n_z12
        refine ⟨q14, e_q14, ?_⟩
        replace h := h q14 e_q14
        have t_q14 := t_z12 q14 e_q14
        refine ⟨hasA_of hW t_q14, ?_⟩
        have hin := h.1
        refine ⟨h.1, ?_⟩
        replace h := h.2
        intro z15 e_z15
        replace h := h z15 e_z15
        intro z16 e_z16
        replace h := h z16 e_z16
        refine ⟨hasO_of hW t_x0, ?_⟩
        refine ty_X3_step t_x0 hW (fun S17 hW h => ?_) h
        refine ⟨fun c => ?_, fun c => ?_⟩
        · replace h := h.1 c
          refine ⟨fun c => ?_, fun c => ?_⟩
          · replace h := h.1 c
            refine ⟨fun c => ?_, fun c => ?_⟩
            · replace h := h.1 c
              refine ⟨hasO_of hW t_x0, ?_⟩
              refine ty_X3_emit t_x0 hW (fun S21 r21 hW h => ?_) h
              intro z22 e_z22
              replace h := h z22 e_z22
              refine ⟨hasO_of hW t_x0, ?_⟩
              refine hr_X3_part _ _ t_x0 _ _ _ hW (fun S23 hW h => ?_) h
              refine ⟨hasO_of hW t_x0, ?_⟩
              refine ty_X3_emit t_x0 hW (fun S24 r24 hW h => ?_) h
              exact hk _ hW h
            · replace h := h.2 c
              refine ⟨hasO_of hW t_x0, ?_⟩
              refine ty_X3_emit t_x0 hW (fun S25 r25 hW h => ?_) h
              intro z26 e_z26
              replace h := h z26 e_z26
              refine ⟨hasO_of hW t_x0, ?_⟩
              refine ty_X3_expression hr_X3_part t_x0 hW (fun S27 hW h => ?_) h
              refine ⟨hasO_of hW t_x0, ?_⟩
              refine ty_X3_need t_x0 hW (fun S28 hW h => ?_) h
              exact hk _ hW h
          · replace h := h.2 c
            refine ⟨hasO_of hW t_x0, ?_⟩
            refine ty_X3_emit t_x0 hW (fun S29 r29 hW h => ?_) h
            exact hk _ hW h
        · replace h := h.2 c
          refine ⟨hasO_of hW t_x0, ?_⟩
          refine ty_X3_emit t_x0 hW (fun S30 r30 hW h => ?_) h
          exact hk _ hW h
      · replace h := h.2 c
        refine ⟨hasO_of hW t_x0, ?_⟩
        refine ty_X3_cellHere t_x0 hW (fun S31 r31 hW h => ?_) h
        refine ⟨hasO_of hW t_x0, ?_⟩
        refine ty_X3_emit t_x0 hW (fun S32 r32 hW h => ?_) h
        exact hk _ hW h
    · replace h := h.2 c
      exact ty_X3_part_50 hr_X3_part hk t_x0 hW h
theorem ty_X3_part_34 {d : List (Nat × cK)} {r_X3_part u_X3_part : Nat → Int32 → kS → (kS → Prop) → Prop} (hr_X3_part : ∀ (t0 : Nat) (a0 : Int32), ((t0, Sum.inl 3) ∈ d) → ∀ (S : kS) (K K' : kS → Prop), WT d S → (∀ S1, WT d S1 → K S1 → K' S1) → u_X3_part t0 a0 S K → r_X3_part t0 a0 S K') {K K' : kS → Prop} (hk : ∀ S1, WT d S1 → K S1 → K' S1) {x0 : Nat} {x1 : Int32} {x2 : Int32} (t_x0 : (x0, Sum.inl 3) ∈ d) {S : kS} (hW : WT d S) (h : wT_X3_part_34 u_X3_part K x0 x1 x2 S) : wp_X3_part_34 r_X3_part K' x0 x1 x2 S := by
  unfold wT_X3_part_34 at h
  unfold wp_X3_part_34
  exact ty_X3_part_39 hr_X3_part hk t_x0 hW h
theorem ty_X3_part {d : List (Nat × cK)} {r_X3_part u_X3_part : Nat → Int32 → kS → (kS → Prop) → Prop} (hr_X3_part : ∀ (t0 : Nat) (a0 : Int32), ((t0, Sum.inl 3) ∈ d) → ∀ (S : kS) (K K' : kS → Prop), WT d S → (∀ S1, WT d S1 → K S1 → K' S1) → u_X3_part t0 a0 S K → r_X3_part t0 a0 S K') {t0 : Nat} {a0 : Int32} (t_t0 : (t0, Sum.inl 3) ∈ d) {S : kS} {K K' : kS → Prop} (hW : WT d S) (hk : ∀ S1, WT d S1 → K S1 → K' S1) (h : wT_X3_part u_X3_part t0 a0 S K) : wp_X3_part r_X3_part t0 a0 S K' := by
  unfold wT_X3_part at h
  unfold wp_X3_part
  refine ⟨hasO_of hW t_t0, ?_⟩
  refine ty_X3_kind t_t0 hW (fun S1 r1 hW h => ?_) h
  refine ⟨fun c => ?_, fun c => ?_⟩
  · replace h := h.1 c
    exact ty_X3_part_34 hr_X3_part hk t_t0 hW h
  · replace h := h.2 c
    refine ⟨fun c => ?_, fun c => ?_⟩
    · replace h := h.1 c
      exact ty_X3_part_34 hr_X3_part hk t_t0 hW h
    · replace h := h.2 c
      refine ⟨fun c => ?_, fun c => ?_⟩
      · replace h := h.1 c
        exact ty_X3_part_34 hr_X3_part hk t_t0 hW h
      · replace h := h.2 c
        refine ⟨fun c => ?_, fun c => ?_⟩
        · replace h := h.1 c
          exact ty_X3_part_34 hr_X3_part hk t_t0 hW h
        · replace h := h.2 c
          refine ⟨fun c => ?_, fun c => ?_⟩
          · replace h := h.1 c
            exact ty_X3_part_39 hr_X3_part hk t_t0 hW h
          · replace h := h.2 c
            exact ty_X3_part_34 hr_X3_part hk t_t0 hW h
def wV_X3_part : Nat → Nat → Int32 → kS → (kS → Prop) → Prop
  | 0 => fun _ _ _ _ => False
  | n + 1 => wT_X3_part (wV_X3_part n)
def wU_X3_part : Nat → Int32 → kS → (kS → Prop) → Prop := wV_X3_part 12
def wU_X3_product : Nat → Int32 → kS → (kS → Prop) → Prop := wT_X3_product (wV_X3_part 12)
def wU_X3_sum : Nat → Int32 → kS → (kS → Prop) → Prop := wT_X3_sum (wV_X3_part 12)
def wU_X3_expression : Nat → Int32 → kS → (kS → Prop) → Prop := wT_X3_expression (wV_X3_part 12)
theorem tr_X3_part {d : List (Nat × cK)} : ∀ n : Nat, ∀ (t0 : Nat) (a0 : Int32), ((t0, Sum.inl 3) ∈ d) → ∀ (S : kS) (K K' : kS → Prop), WT d S → (∀ S1, WT d S1 → K S1 → K' S1) → wV_X3_part n t0 a0 S K → wr_X3_part n t0 a0 S K' := by
  intro n
  induction n with
  | zero => exact fun _ _ _ _ _ _ _ _ h => h
  | succ n ih => exact fun t0 a0 t0 S K K' hW hk h => ty_X3_part ih t0 hW hk h
theorem tq_X3_part {d : List (Nat × cK)} {t0 : Nat} {a0 : Int32} (t_t0 : (t0, Sum.inl 3) ∈ d) {S : kS} {K K' : kS → Prop} (hW : WT d S) (hk : ∀ S1, WT d S1 → K S1 → K' S1) (h : wU_X3_part t0 a0 S K) : wq_X3_part t0 a0 S K' := tr_X3_part 12 t0 a0 t_t0 S K K' hW hk h
theorem tq_X3_product {d : List (Nat × cK)} {t0 : Nat} {a0 : Int32} (t_t0 : (t0, Sum.inl 3) ∈ d) {S : kS} {K K' : kS → Prop} (hW : WT d S) (hk : ∀ S1, WT d S1 → K S1 → K' S1) (h : wU_X3_product t0 a0 S K) : wq_X3_product t0 a0 S K' := ty_X3_product (tr_X3_part 12) t_t0 hW hk h
theorem tq_X3_sum {d : List (Nat × cK)} {t0 : Nat} {a0 : Int32} (t_t0 : (t0, Sum.inl 3) ∈ d) {S : kS} {K K' : kS → Prop} (hW : WT d S) (hk : ∀ S1, WT d S1 → K S1 → K' S1) (h : wU_X3_sum t0 a0 S K) : wq_X3_sum t0 a0 S K' := ty_X3_sum (tr_X3_part 12) t_t0 hW hk h
theorem tq_X3_expression {d : List (Nat × cK)} {t0 : Nat} {a0 : Int32} (t_t0 : (t0, Sum.inl 3) ∈ d) {S : kS} {K K' : kS → Prop} (hW : WT d S) (hk : ∀ S1, WT d S1 → K S1 → K' S1) (h : wU_X3_expression t0 a0 S K) : wq_X3_expression t0 a0 S K' := ty_X3_expression (tr_X3_part 12) t_t0 hW hk h
def wT_X3_keepChild (t0 : Nat) (a0 : Int32) (a1 : Int32) (a2 : Int32) (S : kS) (K : kS → Prop) : Prop := ∀ z1 : Int32, z1 = S.1 11 t0 → ((460 ≤ z1 → K S) ∧ (¬ 460 ≤ z1 → ∀ z3 : Option Nat, z3 = S.2.1 17 t0 → ∀ z4 : Int32, z4 = S.1 11 t0 → ∀ q5 : Nat, z3 = some q5 → inR z4 460 ∧ ∀ S6 : kS, S6 = cA S q5 (ix z4) a2 → ∀ z7 : Option Nat, z7 = S6.2.1 18 t0 → ∀ z8 : Int32, z8 = S6.1 11 t0 → ∀ z9 : Option Nat, z9 = S6.2.1 14 t0 → ∀ q10 : Nat, z9 = some q10 → ∀ z11 : Option Nat, z11 = S6.2.1 65 q10 → ∀ q12 : Nat, z11 = some q12 → inR a0 4002 ∧ ∀ z13 : Int32, z13 = S6.2.2.1 q12 (ix a0) → ∀ q14 : Nat, z7 = some q14 → inR z8 460 ∧ ∀ S15 : kS, S15 = cA S6 q14 (ix z8) z13 → ∀ z16 : Option Nat, z16 = S15.2.1 20 t0 → ∀ z17 : Int32, z17 = S15.1 11 t0 → ∀ z18 : Option Nat, z18 = S15.2.1 14 t0 → ∀ q19 : Nat, z18 = some q19 → ∀ z20 : Option Nat, z20 = S15.2.1 66 q19 → ∀ q21 : Nat, z20 = some q21 → inR a0 4002 ∧ ∀ z22 : Int64, z22 = S15.2.2.2.1 q21 (ix a0) → ∀ q23 : Nat, z16 = some q23 → inR z17 460 ∧ ∀ S24 : kS, S24 = cL S15 q23 (ix z17) z22 → ∀ z25 : Option Nat, z25 = S24.2.1 19 t0 → ∀ z26 : Int32, z26 = S24.1 11 t0 → ∀ q27 : Nat, z25 = some q27 → inR z26 460 ∧ ∀ S28 : kS, S28 = cA S24 q27 (ix z26) a1 → ∀ z29 : Int32, z29 = S28.1 11 t0 → ∀ z30 : Int32, z30 = z29 + 1 → ∀ S31 : kS, S31 = cI S28 11 t0 z30 → K S31))
theorem ty_X3_keepChild {d : List (Nat × cK)} {t0 : Nat} {a0 : Int32} {a1 : Int32} {a2 : Int32} (t_t0 : (t0, Sum.inl 3) ∈ d) {S : kS} {K K' : kS → Prop} (hW : WT d S) (hk : ∀ S1, WT d S1 → K S1 → K' S1) (h : wT_X3_keepChild t0 a0 a1 a2 S K) : wp_X3_keepChild t0 a0 a1 a2 S K' := by
  unfold wT_X3_keepChild at h
  unfold wp_X3_keepChild
  refine ⟨hasO_of hW t_t0, ?_⟩
  intro z1 e_z1
  replace h := h z1 e_z1
  refine ⟨fun c => ?_, fun c => ?_⟩
  · replace h := h.1 c
    exact hk _ hW h
  · replace h := h.2 c
    refine ⟨hasO_of hW t_t0, ?_⟩
    intro z3 e_z3
    replace h := h z3 e_z3
    have t_z3 : ∀ b, z3 = some b → (b, Sum.inr (460, 0)) ∈ d := fun b hb => hW.2.1 17 _ b t_t0 (by rw [← e_z3]; exact hb)
    have n_z3 := wt_nn (f := 17) hW (by decide) t_t0 e_z3
    refine ⟨hasO_of hW t_t0, ?_⟩
    intro z4 e_z4
    replace h := h z4 e_z4
    obtain ⟨q5, e_q5⟩ := n_z3
    refine ⟨q5, e_q5, ?_⟩
    replace h := h q5 e_q5
    have t_q5 := t_z3 q5 e_q5
    refine ⟨hasA_of hW t_q5, ?_⟩
    have hin := h.1
    refine ⟨h.1, ?_⟩
    replace h := h.2
    intro S6 e_S6
    replace h := h S6 e_S6
    replace hW := WT_a hW e_S6
    refine ⟨hasO_of hW t_t0, ?_⟩
    intro z7 e_z7
    replace h := h z7 e_z7
    have t_z7 : ∀ b, z7 = some b → (b, Sum.inr (460, 0)) ∈ d := fun b hb => hW.2.1 18 _ b t_t0 (by rw [← e_z7]; exact hb)
    have n_z7 := wt_nn (f := 18) hW (by decide) t_t0 e_z7
    refine ⟨hasO_of hW t_t0, ?_⟩
    intro z8 e_z8
    replace h := h z8 e_z8
    refine ⟨hasO_of hW t_t0, ?_⟩
    intro z9 e_z9
    replace h := h z9 e_z9
    have t_z9 : ∀ b, z9 = some b → (b, Sum.inl 10) ∈ d := fun b hb => hW.2.1 14 _ b t_t0 (by rw [← e_z9]; exact hb)
    have n_z9 := wt_nn (f := 14) hW (by decide) t_t0 e_z9
    obtain ⟨q10, e_q10⟩ := n_z9
    refine ⟨q10, e_q10, ?_⟩
    replace h := h q10 e_q10
    have t_q10 := t_z9 q10 e_q10
    refine ⟨hasO_of hW t_q10, ?_⟩
    intro z11 e_z11
    replace h := h z11 e_z11
    have t_z11 : ∀ b, z11 = some b → (b, Sum.inr (4002, 0)) ∈ d := fun b hb => hW.2.1 65 _ b t_q10 (by rw [← e_z11]; exact hb)
    have n_z11 := wt_nn (f := 65) hW (by decide) t_q10 e_z11
    obtain ⟨q12, e_q12⟩ := n_z11
    refine ⟨q12, e_q12, ?_⟩
    replace h := h q12 e_q12
    have t_q12 := t_z11 q12 e_q12
    refine ⟨hasA_of hW t_q12, ?_⟩
    have hin := h.1
    refine ⟨h.1, ?_⟩
    replace h := h.2
    intro z13 e_z13
    replace h := h z13 e_z13
    obtain ⟨q14, e_q14⟩ := n_z7
    refine ⟨q14, e_q14, ?_⟩
    replace h := h q14 e_q14
    have t_q14 := t_z7 q14 e_q14
    refine ⟨hasA_of hW t_q14, ?_⟩
    have hin := h.1
    refine ⟨h.1, ?_⟩
    replace h := h.2
    intro S15 e_S15
    replace h := h S15 e_S15
    replace hW := WT_a hW e_S15
    refine ⟨hasO_of hW t_t0, ?_⟩
    intro z16 e_z16
    replace h := h z16 e_z16
    have t_z16 : ∀ b, z16 = some b → (b, Sum.inr (460, 1)) ∈ d := fun b hb => hW.2.1 20 _ b t_t0 (by rw [← e_z16]; exact hb)
    have n_z16 := wt_nn (f := 20) hW (by decide) t_t0 e_z16
    refine ⟨hasO_of hW t_t0, ?_⟩
    intro z17 e_z17
    replace h := h z17 e_z17
    refine ⟨hasO_of hW t_t0, ?_⟩
    intro z18 e_z18
    replace h := h z18 e_z18
    have t_z18 : ∀ b, z18 = some b → (b, Sum.inl 10) ∈ d := fun b hb => hW.2.1 14 _ b t_t0 (by rw [← e_z18]; exact hb)
    have n_z18 := wt_nn (f := 14) hW (by decide) t_t0 e_z18
    obtain ⟨q19, e_q19⟩ := n_z18
    refine ⟨q19, e_q19, ?_⟩
    replace h := h q19 e_q19
    have t_q19 := t_z18 q19 e_q19
    refine ⟨hasO_of hW t_q19, ?_⟩
    intro z20 e_z20
    replace h := h z20 e_z20
    have t_z20 : ∀ b, z20 = some b → (b, Sum.inr (4002, 1)) ∈ d := fun b hb => hW.2.1 66 _ b t_q19 (by rw [← e_z20]; exact hb)
    have n_z20 := wt_nn (f := 66) hW (by decide) t_q19 e_z20
    obtain ⟨q21, e_q21⟩ := n_z20
    refine ⟨q21, e_q21, ?_⟩
    replace h := h q21 e_q21
    have t_q21 := t_z20 q21 e_q21
    refine ⟨hasA_of hW t_q21, ?_⟩
    have hin := h.1
    refine ⟨h.1, ?_⟩
    replace h := h.2
    intro z22 e_z22
    replace h := h z22 e_z22
    obtain ⟨q23, e_q23⟩ := n_z16
    refine ⟨q23, e_q23, ?_⟩
    replace h := h q23 e_q23
    have t_q23 := t_z16 q23 e_q23
    refine ⟨hasA_of hW t_q23, ?_⟩
    have hin := h.1
    refine ⟨h.1, ?_⟩
    replace h := h.2
    intro S24 e_S24
    replace h := h S24 e_S24
    replace hW := WT_l hW e_S24
    refine ⟨hasO_of hW t_t0, ?_⟩
    intro z25 e_z25
    replace h := h z25 e_z25
    have t_z25 : ∀ b, z25 = some b → (b, Sum.inr (460, 0)) ∈ d := fun b hb => hW.2.1 19 _ b t_t0 (by rw [← e_z25]; exact hb)
    have n_z25 := wt_nn (f := 19) hW (by decide) t_t0 e_z25
    refine ⟨hasO_of hW t_t0, ?_⟩
    intro z26 e_z26
    replace h := h z26 e_z26
    obtain ⟨q27, e_q27⟩ := n_z25
    refine ⟨q27, e_q27, ?_⟩
    replace h := h q27 e_q27
    have t_q27 := t_z25 q27 e_q27
    refine ⟨hasA_of hW t_q27, ?_⟩
    have hin := h.1
    refine ⟨h.1, ?_⟩
    replace h := h.2
    intro S28 e_S28
    replace h := h S28 e_S28
    replace hW := WT_a hW e_S28
    refine ⟨hasO_of hW t_t0, ?_⟩
    intro z29 e_z29
    replace h := h z29 e_z29
    intro z30 e_z30
    replace h := h z30 e_z30
    refine ⟨hasO_of hW t_t0, ?_⟩
    intro S31 e_S31
    replace h := h S31 e_S31
    replace hW := WT_i hW e_S31
    exact hk _ hW h
def wT_X3_startsWait (a0 : Int32) (S : kS) (K : kS → Int32 → Prop) : Prop := ((a0 < 213 → K S 0) ∧ (¬ a0 < 213 → ((219 < a0 → K S 0) ∧ (¬ 219 < a0 → K S 1))))
theorem ty_X3_startsWait {d : List (Nat × cK)} {a0 : Int32} {S : kS} {K K' : kS → Int32 → Prop} (hW : WT d S) (hk : ∀ S1 r1, WT d S1 → K S1 r1 → K' S1 r1) (h : wT_X3_startsWait a0 S K) : wp_X3_startsWait a0 S K' := by
  unfold wT_X3_startsWait at h
  unfold wp_X3_startsWait
  refine ⟨fun c => ?_, fun c => ?_⟩
  · replace h := h.1 c
    exact hk _ _ hW h
  · replace h := h.2 c
    refine ⟨fun c => ?_, fun c => ?_⟩
    · replace h := h.1 c
      exact hk _ _ hW h
    · replace h := h.2 c
      exact hk _ _ hW h
def wT_X3_numberOf_42 (K : kS → Int32 → Prop) (x0 : Nat) (x1 : Int32) (S : kS) : Prop := wT_X3_wrong x0 4 S (fun (S18 : kS) => K S18 x1)
def wT_X3_numberOf (t0 : Nat) (a0 : Int32) (a1 : Int32) (S : kS) (K : kS → Int32 → Prop) : Prop := ∀ z1 : Option Nat, z1 = S.2.1 14 t0 → ∀ q2 : Nat, z1 = some q2 → ∀ z3 : Option Nat, z3 = S.2.1 66 q2 → ∀ z4 : Int32, z4 = S.1 6 t0 → ∀ q5 : Nat, z3 = some q5 → inR z4 4002 ∧ ∀ z6 : Int64, z6 = S.2.2.2.1 q5 (ix z4) → wT_X3_kind t0 S (fun (S7 : kS) (r7 : Int32) => ((r7 = 2 → ∀ z9 : Int64, z9 = Int32.toInt64 a0 → ∀ z10 : Int32, z10 = lg_cmp z6 z9 → ((z10 < 0 → wT_X3_numberOf_42 K t0 a0 S7) ∧ (¬ z10 < 0 → ∀ z12 : Int64, z12 = Int32.toInt64 a1 → ∀ z13 : Int32, z13 = lg_cmp z6 z12 → ((z13 ≤ 0 → wT_X3_step t0 S7 (fun (S15 : kS) => ∀ z16 : Int32, z16 = Int64.toInt32 z6 → K S15 z16)) ∧ (¬ z13 ≤ 0 → wT_X3_numberOf_42 K t0 a0 S7))))) ∧ (¬ r7 = 2 → wT_X3_wrong t0 1 S7 (fun (S17 : kS) => K S17 a0))))
theorem ty_X3_numberOf_42 {d : List (Nat × cK)} {K K' : kS → Int32 → Prop} (hk : ∀ S1 r1, WT d S1 → K S1 r1 → K' S1 r1) {x0 : Nat} {x1 : Int32} (t_x0 : (x0, Sum.inl 3) ∈ d) {S : kS} (hW : WT d S) (h : wT_X3_numberOf_42 K x0 x1 S) : wp_X3_numberOf_42 K' x0 x1 S := by
  unfold wT_X3_numberOf_42 at h
  unfold wp_X3_numberOf_42
  refine ⟨hasO_of hW t_x0, ?_⟩
  refine ty_X3_wrong t_x0 hW (fun S18 hW h => ?_) h
  exact hk _ _ hW h
theorem ty_X3_numberOf {d : List (Nat × cK)} {t0 : Nat} {a0 : Int32} {a1 : Int32} (t_t0 : (t0, Sum.inl 3) ∈ d) {S : kS} {K K' : kS → Int32 → Prop} (hW : WT d S) (hk : ∀ S1 r1, WT d S1 → K S1 r1 → K' S1 r1) (h : wT_X3_numberOf t0 a0 a1 S K) : wp_X3_numberOf t0 a0 a1 S K' := by
  unfold wT_X3_numberOf at h
  unfold wp_X3_numberOf
  refine ⟨hasO_of hW t_t0, ?_⟩
  intro z1 e_z1
  replace h := h z1 e_z1
  have t_z1 : ∀ b, z1 = some b → (b, Sum.inl 10) ∈ d := fun b hb => hW.2.1 14 _ b t_t0 (by rw [← e_z1]; exact hb)
  have n_z1 := wt_nn (f := 14) hW (by decide) t_t0 e_z1
  obtain ⟨q2, e_q2⟩ := n_z1
  refine ⟨q2, e_q2, ?_⟩
  replace h := h q2 e_q2
  have t_q2 := t_z1 q2 e_q2
  refine ⟨hasO_of hW t_q2, ?_⟩
  intro z3 e_z3
  replace h := h z3 e_z3
  have t_z3 : ∀ b, z3 = some b → (b, Sum.inr (4002, 1)) ∈ d := fun b hb => hW.2.1 66 _ b t_q2 (by rw [← e_z3]; exact hb)
  have n_z3 := wt_nn (f := 66) hW (by decide) t_q2 e_z3
  refine ⟨hasO_of hW t_t0, ?_⟩
  intro z4 e_z4
  replace h := h z4 e_z4
  obtain ⟨q5, e_q5⟩ := n_z3
  refine ⟨q5, e_q5, ?_⟩
  replace h := h q5 e_q5
  have t_q5 := t_z3 q5 e_q5
  refine ⟨hasA_of hW t_q5, ?_⟩
  have hin := h.1
  refine ⟨h.1, ?_⟩
  replace h := h.2
  intro z6 e_z6
  replace h := h z6 e_z6
  refine ⟨hasO_of hW t_t0, ?_⟩
  refine ty_X3_kind t_t0 hW (fun S7 r7 hW h => ?_) h
  refine ⟨fun c => ?_, fun c => ?_⟩
  · replace h := h.1 c
    intro z9 e_z9
    replace h := h z9 e_z9
    intro z10 e_z10
    replace h := h z10 e_z10
    refine ⟨fun c => ?_, fun c => ?_⟩
    · replace h := h.1 c
      exact ty_X3_numberOf_42 hk t_t0 hW h
    · replace h := h.2 c
      intro z12 e_z12
      replace h := h z12 e_z12
      intro z13 e_z13
      replace h := h z13 e_z13
      refine ⟨fun c => ?_, fun c => ?_⟩
      · replace h := h.1 c
        refine ⟨hasO_of hW t_t0, ?_⟩
        refine ty_X3_step t_t0 hW (fun S15 hW h => ?_) h
        intro z16 e_z16
        replace h := h z16 e_z16
        exact hk _ _ hW h
      · replace h := h.2 c
        exact ty_X3_numberOf_42 hk t_t0 hW h
  · replace h := h.2 c
    refine ⟨hasO_of hW t_t0, ?_⟩
    refine ty_X3_wrong t_t0 hW (fun S17 hW h => ?_) h
    exact hk _ _ hW h
def wT_X3_listed_114 (r_X3_waitFor : Nat → Int32 → kS → (kS → Prop) → Prop) (K : kS → Int32 → Prop) (x0 : Nat) (x4 : Int32) (S : kS) : Prop := wT_X3_need x0 41 S (fun (S20 : kS) => K S20 x4)
def wT_X3_listed_97 (r_X3_waitFor : Nat → Int32 → kS → (kS → Prop) → Prop) (K : kS → Int32 → Prop) (k44 : Nat × Int32 × Int32 × Int32 × Int32 × Int32 × kS → Prop) (x0 : Nat) (x2 : Int32) (x3 : Int32) (x4 : Int32) (x6 : Int32) (S : kS) : Prop := ∀ z15 : Int32, z15 = x4 + 1 → wT_X3_take x0 44 S (fun (S16 : kS) (r16 : Int32) => ∀ z17 : Int32, z17 = x6 + 1 → k44 (x0, x2, x3, z15, r16, z17, S16))
def wT_X3_listed_90 (r_X3_waitFor : Nat → Int32 → kS → (kS → Prop) → Prop) (K : kS → Int32 → Prop) (k44 : Nat × Int32 × Int32 × Int32 × Int32 × Int32 × kS → Prop) (x0 : Nat) (x2 : Int32) (x3 : Int32) (x4 : Int32) (x6 : Int32) (S : kS) : Prop := ∀ z18 : Int32, z18 = x2 + 1 → r_X3_waitFor x0 z18 S (fun (S19 : kS) => wT_X3_listed_97 r_X3_waitFor K k44 x0 x2 x3 x4 x6 S19)
def wT_X3_listed_44 (r_X3_waitFor : Nat → Int32 → kS → (kS → Prop) → Prop) (K : kS → Int32 → Prop) (k44 : Nat × Int32 × Int32 × Int32 × Int32 × Int32 × kS → Prop) (x0 : Nat) (x2 : Int32) (x3 : Int32) (x4 : Int32) (x5 : Int32) (x6 : Int32) (S : kS) : Prop := ((4000 ≤ x6 → wT_X3_listed_114 r_X3_waitFor K x0 x4 S) ∧ (¬ 4000 ≤ x6 → ((x5 = 0 → wT_X3_listed_114 r_X3_waitFor K x0 x4 S) ∧ (¬ x5 = 0 → ((x3 = 0 → ((x4 < 4 → wT_X3_listed_90 r_X3_waitFor K k44 x0 x2 x3 x4 x6 S) ∧ (¬ x4 < 4 → wT_X3_kind x0 S (fun (S10 : kS) (r10 : Int32) => wT_X3_startsWait r10 S10 (fun (S11 : kS) (r11 : Int32) => ((r11 = 0 → wT_X3_listed_90 r_X3_waitFor K k44 x0 x2 x3 x4 x6 S11) ∧ (¬ r11 = 0 → wT_X3_wrong x0 5 S11 (fun (S13 : kS) => wT_X3_listed_90 r_X3_waitFor K k44 x0 x2 x3 x4 x6 S13)))))))) ∧ (¬ x3 = 0 → wU_X3_expression x0 0 S (fun (S14 : kS) => wT_X3_listed_97 r_X3_waitFor K k44 x0 x2 x3 x4 x6 S14)))))))
def lT_X3_listed_44 (r_X3_waitFor : Nat → Int32 → kS → (kS → Prop) → Prop) (K : kS → Int32 → Prop) (k44 : Nat × Int32 × Int32 × Int32 × Int32 × Int32 × kS → Prop) (u : Nat × Int32 × Int32 × Int32 × Int32 × Int32 × kS) : Prop := wT_X3_listed_44 r_X3_waitFor K k44 u.1 u.2.1 u.2.2.1 u.2.2.2.1 u.2.2.2.2.1 u.2.2.2.2.2.1 u.2.2.2.2.2.2
def wT_X3_listed_39 (r_X3_waitFor : Nat → Int32 → kS → (kS → Prop) → Prop) (K : kS → Int32 → Prop) (x0 : Nat) (x2 : Int32) (x3 : Int32) (x4 : Int32) (y0 : Int32) (S : kS) : Prop := (∃ n9, it (lT_X3_listed_44 r_X3_waitFor K) n9 (x0, x2, x3, x4, y0, 0, S))
def wT_X3_listed_34 (r_X3_waitFor : Nat → Int32 → kS → (kS → Prop) → Prop) (K : kS → Int32 → Prop) (x0 : Nat) (x2 : Int32) (x3 : Int32) (x4 : Int32) (S : kS) : Prop := wT_X3_listed_39 r_X3_waitFor K x0 x2 x3 x4 1 S
def wT_X3_listed_11 (r_X3_waitFor : Nat → Int32 → kS → (kS → Prop) → Prop) (K : kS → Int32 → Prop) (x0 : Nat) (x2 : Int32) (y0 : Int32) (S : kS) : Prop := wT_X3_need x0 40 S (fun (S2 : kS) => ((y0 = 0 → wT_X3_listed_34 r_X3_waitFor K x0 x2 y0 0 S2) ∧ (¬ y0 = 0 → wT_X3_kind x0 S2 (fun (S4 : kS) (r4 : Int32) => ((r4 = 41 → wT_X3_listed_39 r_X3_waitFor K x0 x2 y0 0 0 S4) ∧ (¬ r4 = 41 → wT_X3_listed_34 r_X3_waitFor K x0 x2 y0 0 S4))))))
def wT_X3_listed (r_X3_waitFor : Nat → Int32 → kS → (kS → Prop) → Prop) (t0 : Nat) (a0 : Int32) (a1 : Int32) (S : kS) (K : kS → Int32 → Prop) : Prop := ((¬ a0 = 30 → wT_X3_listed_11 r_X3_waitFor K t0 a1 0 S) ∧ (a0 = 30 → wT_X3_listed_11 r_X3_waitFor K t0 a1 1 S))
theorem ty_X3_listed_114 {d : List (Nat × cK)} {r_X3_waitFor u_X3_waitFor : Nat → Int32 → kS → (kS → Prop) → Prop} (hr_X3_waitFor : ∀ (t0 : Nat) (a0 : Int32), ((t0, Sum.inl 3) ∈ d) → ∀ (S : kS) (K K' : kS → Prop), WT d S → (∀ S1, WT d S1 → K S1 → K' S1) → u_X3_waitFor t0 a0 S K → r_X3_waitFor t0 a0 S K') {K K' : kS → Int32 → Prop} (hk : ∀ S1 r1, WT d S1 → K S1 r1 → K' S1 r1) {x0 : Nat} {x4 : Int32} (t_x0 : (x0, Sum.inl 3) ∈ d) {S : kS} (hW : WT d S) (h : wT_X3_listed_114 u_X3_waitFor K x0 x4 S) : wp_X3_listed_114 r_X3_waitFor K' x0 x4 S := by
  unfold wT_X3_listed_114 at h
  unfold wp_X3_listed_114
  refine ⟨hasO_of hW t_x0, ?_⟩
  refine ty_X3_need t_x0 hW (fun S20 hW h => ?_) h
  exact hk _ _ hW h
theorem ty_X3_listed_97 {d : List (Nat × cK)} {r_X3_waitFor u_X3_waitFor : Nat → Int32 → kS → (kS → Prop) → Prop} (hr_X3_waitFor : ∀ (t0 : Nat) (a0 : Int32), ((t0, Sum.inl 3) ∈ d) → ∀ (S : kS) (K K' : kS → Prop), WT d S → (∀ S1, WT d S1 → K S1 → K' S1) → u_X3_waitFor t0 a0 S K → r_X3_waitFor t0 a0 S K') {K K' : kS → Int32 → Prop} {k44 k44' : Nat × Int32 × Int32 × Int32 × Int32 × Int32 × kS → Prop} (hk : ∀ S1 r1, WT d S1 → K S1 r1 → K' S1 r1) (hk44 : ∀ (x0 : Nat) (x2 : Int32) (x3 : Int32) (x4 : Int32) (x5 : Int32) (x6 : Int32), ((x0, Sum.inl 3) ∈ d) → ∀ S : kS, WT d S → k44 (x0, x2, x3, x4, x5, x6, S) → k44' (x0, x2, x3, x4, x5, x6, S)) {x0 : Nat} {x2 : Int32} {x3 : Int32} {x4 : Int32} {x6 : Int32} (t_x0 : (x0, Sum.inl 3) ∈ d) {S : kS} (hW : WT d S) (h : wT_X3_listed_97 u_X3_waitFor K k44 x0 x2 x3 x4 x6 S) : wp_X3_listed_97 r_X3_waitFor K' k44' x0 x2 x3 x4 x6 S := by
  unfold wT_X3_listed_97 at h
  unfold wp_X3_listed_97
  intro z15 e_z15
  replace h := h z15 e_z15
  refine ⟨hasO_of hW t_x0, ?_⟩
  refine ty_X3_take t_x0 hW (fun S16 r16 hW h => ?_) h
  intro z17 e_z17
  replace h := h z17 e_z17
  exact hk44 _ _ _ _ _ _ t_x0 _ hW h
theorem ty_X3_listed_90 {d : List (Nat × cK)} {r_X3_waitFor u_X3_waitFor : Nat → Int32 → kS → (kS → Prop) → Prop} (hr_X3_waitFor : ∀ (t0 : Nat) (a0 : Int32), ((t0, Sum.inl 3) ∈ d) → ∀ (S : kS) (K K' : kS → Prop), WT d S → (∀ S1, WT d S1 → K S1 → K' S1) → u_X3_waitFor t0 a0 S K → r_X3_waitFor t0 a0 S K') {K K' : kS → Int32 → Prop} {k44 k44' : Nat × Int32 × Int32 × Int32 × Int32 × Int32 × kS → Prop} (hk : ∀ S1 r1, WT d S1 → K S1 r1 → K' S1 r1) (hk44 : ∀ (x0 : Nat) (x2 : Int32) (x3 : Int32) (x4 : Int32) (x5 : Int32) (x6 : Int32), ((x0, Sum.inl 3) ∈ d) → ∀ S : kS, WT d S → k44 (x0, x2, x3, x4, x5, x6, S) → k44' (x0, x2, x3, x4, x5, x6, S)) {x0 : Nat} {x2 : Int32} {x3 : Int32} {x4 : Int32} {x6 : Int32} (t_x0 : (x0, Sum.inl 3) ∈ d) {S : kS} (hW : WT d S) (h : wT_X3_listed_90 u_X3_waitFor K k44 x0 x2 x3 x4 x6 S) : wp_X3_listed_90 r_X3_waitFor K' k44' x0 x2 x3 x4 x6 S := by
  unfold wT_X3_listed_90 at h
  unfold wp_X3_listed_90
  intro z18 e_z18
  replace h := h z18 e_z18
  refine ⟨hasO_of hW t_x0, ?_⟩
  refine hr_X3_waitFor _ _ t_x0 _ _ _ hW (fun S19 hW h => ?_) h
  exact ty_X3_listed_97 hr_X3_waitFor hk hk44 t_x0 hW h
theorem ty_X3_listed_44 {d : List (Nat × cK)} {r_X3_waitFor u_X3_waitFor : Nat → Int32 → kS → (kS → Prop) → Prop} (hr_X3_waitFor : ∀ (t0 : Nat) (a0 : Int32), ((t0, Sum.inl 3) ∈ d) → ∀ (S : kS) (K K' : kS → Prop), WT d S → (∀ S1, WT d S1 → K S1 → K' S1) → u_X3_waitFor t0 a0 S K → r_X3_waitFor t0 a0 S K') {K K' : kS → Int32 → Prop} {k44 k44' : Nat × Int32 × Int32 × Int32 × Int32 × Int32 × kS → Prop} (hk : ∀ S1 r1, WT d S1 → K S1 r1 → K' S1 r1) (hk44 : ∀ (x0 : Nat) (x2 : Int32) (x3 : Int32) (x4 : Int32) (x5 : Int32) (x6 : Int32), ((x0, Sum.inl 3) ∈ d) → ∀ S : kS, WT d S → k44 (x0, x2, x3, x4, x5, x6, S) → k44' (x0, x2, x3, x4, x5, x6, S)) {x0 : Nat} {x2 : Int32} {x3 : Int32} {x4 : Int32} {x5 : Int32} {x6 : Int32} (t_x0 : (x0, Sum.inl 3) ∈ d) {S : kS} (hW : WT d S) (h : wT_X3_listed_44 u_X3_waitFor K k44 x0 x2 x3 x4 x5 x6 S) : wp_X3_listed_44 r_X3_waitFor K' k44' x0 x2 x3 x4 x5 x6 S := by
  unfold wT_X3_listed_44 at h
  unfold wp_X3_listed_44
  refine ⟨fun c => ?_, fun c => ?_⟩
  · replace h := h.1 c
    exact ty_X3_listed_114 hr_X3_waitFor hk t_x0 hW h
  · replace h := h.2 c
    refine ⟨fun c => ?_, fun c => ?_⟩
    · replace h := h.1 c
      exact ty_X3_listed_114 hr_X3_waitFor hk t_x0 hW h
    · replace h := h.2 c
      refine ⟨fun c => ?_, fun c => ?_⟩
      · replace h := h.1 c
        refine ⟨fun c => ?_, fun c => ?_⟩
        · replace h := h.1 c
          exact ty_X3_listed_90 hr_X3_waitFor hk hk44 t_x0 hW h
        · replace h := h.2 c
          refine ⟨hasO_of hW t_x0, ?_⟩
          refine ty_X3_kind t_x0 hW (fun S10 r10 hW h => ?_) h
          refine ty_X3_startsWait  hW (fun S11 r11 hW h => ?_) h
          refine ⟨fun c => ?_, fun c => ?_⟩
          · replace h := h.1 c
            exact ty_X3_listed_90 hr_X3_waitFor hk hk44 t_x0 hW h
          · replace h := h.2 c
            refine ⟨hasO_of hW t_x0, ?_⟩
            refine ty_X3_wrong t_x0 hW (fun S13 hW h => ?_) h
            exact ty_X3_listed_90 hr_X3_waitFor hk hk44 t_x0 hW h
      · replace h := h.2 c
        refine ⟨hasO_of hW t_x0, ?_⟩
        refine tq_X3_expression t_x0 hW (fun S14 hW h => ?_) h
        exact ty_X3_listed_97 hr_X3_waitFor hk hk44 t_x0 hW h
theorem tyl_X3_listed_44 {d : List (Nat × cK)} {r_X3_waitFor u_X3_waitFor : Nat → Int32 → kS → (kS → Prop) → Prop} (hr_X3_waitFor : ∀ (t0 : Nat) (a0 : Int32), ((t0, Sum.inl 3) ∈ d) → ∀ (S : kS) (K K' : kS → Prop), WT d S → (∀ S1, WT d S1 → K S1 → K' S1) → u_X3_waitFor t0 a0 S K → r_X3_waitFor t0 a0 S K') {K K' : kS → Int32 → Prop} (hk : ∀ S1 r1, WT d S1 → K S1 r1 → K' S1 r1) : ∀ (n : Nat) (x0 : Nat) (x2 : Int32) (x3 : Int32) (x4 : Int32) (x5 : Int32) (x6 : Int32), ((x0, Sum.inl 3) ∈ d) → ∀ S : kS, WT d S → it (lT_X3_listed_44 u_X3_waitFor K) n (x0, x2, x3, x4, x5, x6, S) → it (ls_X3_listed_44 r_X3_waitFor K') n (x0, x2, x3, x4, x5, x6, S) := by
  intro n
  induction n with
  | zero => exact fun _ _ _ _ _ _ _ _ _ h => h
  | succ n ih => exact fun x0 x2 x3 x4 x5 x6 t_x0 S hW h => ty_X3_listed_44 hr_X3_waitFor hk ih t_x0 hW h
theorem ty_X3_listed_39 {d : List (Nat × cK)} {r_X3_waitFor u_X3_waitFor : Nat → Int32 → kS → (kS → Prop) → Prop} (hr_X3_waitFor : ∀ (t0 : Nat) (a0 : Int32), ((t0, Sum.inl 3) ∈ d) → ∀ (S : kS) (K K' : kS → Prop), WT d S → (∀ S1, WT d S1 → K S1 → K' S1) → u_X3_waitFor t0 a0 S K → r_X3_waitFor t0 a0 S K') {K K' : kS → Int32 → Prop} (hk : ∀ S1 r1, WT d S1 → K S1 r1 → K' S1 r1) {x0 : Nat} {x2 : Int32} {x3 : Int32} {x4 : Int32} {y0 : Int32} (t_x0 : (x0, Sum.inl 3) ∈ d) {S : kS} (hW : WT d S) (h : wT_X3_listed_39 u_X3_waitFor K x0 x2 x3 x4 y0 S) : wp_X3_listed_39 r_X3_waitFor K' x0 x2 x3 x4 y0 S := by
  unfold wT_X3_listed_39 at h
  unfold wp_X3_listed_39
  obtain ⟨n9, h⟩ := h
  exact ⟨n9, tyl_X3_listed_44 hr_X3_waitFor hk n9 _ _ _ _ _ _ t_x0 _ hW h⟩
theorem ty_X3_listed_34 {d : List (Nat × cK)} {r_X3_waitFor u_X3_waitFor : Nat → Int32 → kS → (kS → Prop) → Prop} (hr_X3_waitFor : ∀ (t0 : Nat) (a0 : Int32), ((t0, Sum.inl 3) ∈ d) → ∀ (S : kS) (K K' : kS → Prop), WT d S → (∀ S1, WT d S1 → K S1 → K' S1) → u_X3_waitFor t0 a0 S K → r_X3_waitFor t0 a0 S K') {K K' : kS → Int32 → Prop} (hk : ∀ S1 r1, WT d S1 → K S1 r1 → K' S1 r1) {x0 : Nat} {x2 : Int32} {x3 : Int32} {x4 : Int32} (t_x0 : (x0, Sum.inl 3) ∈ d) {S : kS} (hW : WT d S) (h : wT_X3_listed_34 u_X3_waitFor K x0 x2 x3 x4 S) : wp_X3_listed_34 r_X3_waitFor K' x0 x2 x3 x4 S := by
  unfold wT_X3_listed_34 at h
  unfold wp_X3_listed_34
  exact ty_X3_listed_39 hr_X3_waitFor hk t_x0 hW h
theorem ty_X3_listed_11 {d : List (Nat × cK)} {r_X3_waitFor u_X3_waitFor : Nat → Int32 → kS → (kS → Prop) → Prop} (hr_X3_waitFor : ∀ (t0 : Nat) (a0 : Int32), ((t0, Sum.inl 3) ∈ d) → ∀ (S : kS) (K K' : kS → Prop), WT d S → (∀ S1, WT d S1 → K S1 → K' S1) → u_X3_waitFor t0 a0 S K → r_X3_waitFor t0 a0 S K') {K K' : kS → Int32 → Prop} (hk : ∀ S1 r1, WT d S1 → K S1 r1 → K' S1 r1) {x0 : Nat} {x2 : Int32} {y0 : Int32} (t_x0 : (x0, Sum.inl 3) ∈ d) {S : kS} (hW : WT d S) (h : wT_X3_listed_11 u_X3_waitFor K x0 x2 y0 S) : wp_X3_listed_11 r_X3_waitFor K' x0 x2 y0 S := by
  unfold wT_X3_listed_11 at h
  unfold wp_X3_listed_11
  refine ⟨hasO_of hW t_x0, ?_⟩
  refine ty_X3_need t_x0 hW (fun S2 hW h => ?_) h
  refine ⟨fun c => ?_, fun c => ?_⟩
  · replace h := h.1 c
    exact ty_X3_listed_34 hr_X3_waitFor hk t_x0 hW h
  · replace h := h.2 c
    refine ⟨hasO_of hW t_x0, ?_⟩
    refine ty_X3_kind t_x0 hW (fun S4 r4 hW h => ?_) h
    refine ⟨fun c => ?_, fun c => ?_⟩
    · replace h := h.1 c
      exact ty_X3_listed_39 hr_X3_waitFor hk t_x0 hW h
    · replace h := h.2 c
      exact ty_X3_listed_34 hr_X3_waitFor hk t_x0 hW h
theorem ty_X3_listed {d : List (Nat × cK)} {r_X3_waitFor u_X3_waitFor : Nat → Int32 → kS → (kS → Prop) → Prop} (hr_X3_waitFor : ∀ (t0 : Nat) (a0 : Int32), ((t0, Sum.inl 3) ∈ d) → ∀ (S : kS) (K K' : kS → Prop), WT d S → (∀ S1, WT d S1 → K S1 → K' S1) → u_X3_waitFor t0 a0 S K → r_X3_waitFor t0 a0 S K') {t0 : Nat} {a0 : Int32} {a1 : Int32} (t_t0 : (t0, Sum.inl 3) ∈ d) {S : kS} {K K' : kS → Int32 → Prop} (hW : WT d S) (hk : ∀ S1 r1, WT d S1 → K S1 r1 → K' S1 r1) (h : wT_X3_listed u_X3_waitFor t0 a0 a1 S K) : wp_X3_listed r_X3_waitFor t0 a0 a1 S K' := by
  unfold wT_X3_listed at h
  unfold wp_X3_listed
  refine ⟨fun c => ?_, fun c => ?_⟩
  · replace h := h.1 c
    exact ty_X3_listed_11 hr_X3_waitFor hk t_t0 hW h
  · replace h := h.2 c
    exact ty_X3_listed_11 hr_X3_waitFor hk t_t0 hW h
def wT_X3_waitFor_225 (r_X3_waitFor : Nat → Int32 → kS → (kS → Prop) → Prop) (K : kS → Prop) (x0 : Nat) (x1 : Int32) (y0 : Int32) (S : kS) : Prop := wT_X3_emit x0 y0 0 S (fun (S36 : kS) (r36 : Int32) => ∀ z37 : Option Nat, z37 = S36.2.1 15 x0 → ∃ q38 : Nat, z37 = some q38 ∧ ∀ z39 : Option Nat, z39 = S36.2.1 29 q38 → wT_X3_listed r_X3_waitFor x0 y0 x1 S36 (fun (S40 : kS) (r40 : Int32) => ∀ q41 : Nat, z39 = some q41 → inR r36 8064 ∧ ∀ S42 : kS, S42 = cA S40 q41 (ix r36) r40 → wT_X3_emit x0 34 0 S42 (fun (S43 : kS) (r43 : Int32) => K S43)))
def wT_X3_waitFor (r_X3_waitFor : Nat → Int32 → kS → (kS → Prop) → Prop) (t0 : Nat) (a0 : Int32) (S : kS) (K : kS → Prop) : Prop := wT_X3_kind t0 S (fun (S1 : kS) (r1 : Int32) => wT_X3_startsWait r1 S1 (fun (S2 : kS) (r2 : Int32) => ((¬ r2 = 0 → ((a0 < 10 → wT_X3_step t0 S2 (fun (S5 : kS) => ((r1 = 213 → wT_X3_numberOf t0 0 7 S5 (fun (S7 : kS) (r7 : Int32) => wT_X3_emit t0 27 r7 S7 (fun (S8 : kS) (r8 : Int32) => K S8))) ∧ (¬ r1 = 213 → ((r1 = 214 → wT_X3_emit t0 26 0 S5 (fun (S10 : kS) (r10 : Int32) => wU_X3_expression t0 0 S10 (fun (S11 : kS) => wT_X3_emit t0 28 0 S11 (fun (S12 : kS) (r12 : Int32) => K S12)))) ∧ (¬ r1 = 214 → ((r1 = 215 → wT_X3_emit t0 29 0 S5 (fun (S14 : kS) (r14 : Int32) => K S14)) ∧ (¬ r1 = 215 → ((r1 = 216 → wT_X3_emit t0 26 0 S5 (fun (S16 : kS) (r16 : Int32) => ∀ z17 : Int32, z17 = S16.1 6 t0 → wT_X3_need t0 3 S16 (fun (S18 : kS) => wT_X3_listed r_X3_waitFor t0 30 a0 S18 (fun (S19 : kS) (r19 : Int32) => wT_X3_emit t0 30 0 S19 (fun (S20 : kS) (r20 : Int32) => wT_X3_keepChild t0 z17 r19 r20 S20 (fun (S21 : kS) => K S21)))))) ∧ (¬ r1 = 216 → ((r1 = 217 → ((¬ r1 = 217 → wT_X3_waitFor_225 r_X3_waitFor K t0 a0 32 S5) ∧ (r1 = 217 → wT_X3_waitFor_225 r_X3_waitFor K t0 a0 31 S5))) ∧ (¬ r1 = 217 → ((r1 = 218 → ((¬ r1 = 217 → wT_X3_waitFor_225 r_X3_waitFor K t0 a0 32 S5) ∧ (r1 = 217 → wT_X3_waitFor_225 r_X3_waitFor K t0 a0 31 S5))) ∧ (¬ r1 = 218 → ((r1 = 219 → wT_X3_emit t0 26 0 S5 (fun (S27 : kS) (r27 : Int32) => wU_X3_expression t0 0 S27 (fun (S28 : kS) => wT_X3_emit t0 33 0 S28 (fun (S29 : kS) (r29 : Int32) => ∀ z30 : Int32, z30 = a0 + 1 → r_X3_waitFor t0 z30 S29 (fun (S31 : kS) => wT_X3_emit t0 34 0 S31 (fun (S32 : kS) (r32 : Int32) => K S32)))))) ∧ (¬ r1 = 219 → ((¬ r1 = 217 → wT_X3_waitFor_225 r_X3_waitFor K t0 a0 32 S5) ∧ (r1 = 217 → wT_X3_waitFor_225 r_X3_waitFor K t0 a0 31 S5)))))))))))))))))) ∧ (¬ a0 < 10 → wT_X3_wrong t0 5 S2 (fun (S34 : kS) => K S34)))) ∧ (r2 = 0 → wT_X3_wrong t0 1 S2 (fun (S35 : kS) => K S35)))))
theorem ty_X3_waitFor_225 {d : List (Nat × cK)} {r_X3_waitFor u_X3_waitFor : Nat → Int32 → kS → (kS → Prop) → Prop} (hr_X3_waitFor : ∀ (t0 : Nat) (a0 : Int32), ((t0, Sum.inl 3) ∈ d) → ∀ (S : kS) (K K' : kS → Prop), WT d S → (∀ S1, WT d S1 → K S1 → K' S1) → u_X3_waitFor t0 a0 S K → r_X3_waitFor t0 a0 S K') {K K' : kS → Prop} (hk : ∀ S1, WT d S1 → K S1 → K' S1) {x0 : Nat} {x1 : Int32} {y0 : Int32} (t_x0 : (x0, Sum.inl 3) ∈ d) {S : kS} (hW : WT d S) (h : wT_X3_waitFor_225 u_X3_waitFor K x0 x1 y0 S) : wp_X3_waitFor_225 r_X3_waitFor K' x0 x1 y0 S := by
  unfold wT_X3_waitFor_225 at h
  unfold wp_X3_waitFor_225
  refine ⟨hasO_of hW t_x0, ?_⟩
  refine ty_X3_emit t_x0 hW (fun S36 r36 hW h => ?_) h
  refine ⟨hasO_of hW t_x0, ?_⟩
  intro z37 e_z37
  replace h := h z37 e_z37
  have t_z37 : ∀ b, z37 = some b → (b, Sum.inl 5) ∈ d := fun b hb => hW.2.1 15 _ b t_x0 (by rw [← e_z37]; exact hb)
  obtain ⟨q38, e_q38, h9⟩ := h
  replace h := h9
  clear h9
  refine ⟨q38, e_q38, ?_⟩
  have t_q38 := t_z37 q38 e_q38
  refine ⟨hasO_of hW t_q38, ?_⟩
  intro z39 e_z39
  replace h := h z39 e_z39
  have t_z39 : ∀ b, z39 = some b → (b, Sum.inr (8064, 0)) ∈ d := fun b hb => hW.2.1 29 _ b t_q38 (by rw [← e_z39]; exact hb)
  have n_z39 := wt_nn (f := 29) hW (by decide) t_q38 e_z39
  refine ⟨hasO_of hW t_x0, ?_⟩
  refine ty_X3_listed hr_X3_waitFor t_x0 hW (fun S40 r40 hW h => ?_) h
  obtain ⟨q41, e_q41⟩ := n_z39
  refine ⟨q41, e_q41, ?_⟩
  replace h := h q41 e_q41
  have t_q41 := t_z39 q41 e_q41
  refine ⟨hasA_of hW t_q41, ?_⟩
  have hin := h.1
  refine ⟨h.1, ?_⟩
  replace h := h.2
  intro S42 e_S42
  replace h := h S42 e_S42
  replace hW := WT_a hW e_S42
  refine ⟨hasO_of hW t_x0, ?_⟩
  refine ty_X3_emit t_x0 hW (fun S43 r43 hW h => ?_) h
  exact hk _ hW h
theorem ty_X3_waitFor {d : List (Nat × cK)} {r_X3_waitFor u_X3_waitFor : Nat → Int32 → kS → (kS → Prop) → Prop} (hr_X3_waitFor : ∀ (t0 : Nat) (a0 : Int32), ((t0, Sum.inl 3) ∈ d) → ∀ (S : kS) (K K' : kS → Prop), WT d S → (∀ S1, WT d S1 → K S1 → K' S1) → u_X3_waitFor t0 a0 S K → r_X3_waitFor t0 a0 S K') {t0 : Nat} {a0 : Int32} (t_t0 : (t0, Sum.inl 3) ∈ d) {S : kS} {K K' : kS → Prop} (hW : WT d S) (hk : ∀ S1, WT d S1 → K S1 → K' S1) (h : wT_X3_waitFor u_X3_waitFor t0 a0 S K) : wp_X3_waitFor r_X3_waitFor t0 a0 S K' := by
  unfold wT_X3_waitFor at h
  unfold wp_X3_waitFor
  refine ⟨hasO_of hW t_t0, ?_⟩
  refine ty_X3_kind t_t0 hW (fun S1 r1 hW h => ?_) h
  refine ty_X3_startsWait  hW (fun S2 r2 hW h => ?_) h
  refine ⟨fun c => ?_, fun c => ?_⟩
  · replace h := h.1 c
    refine ⟨fun c => ?_, fun c => ?_⟩
    · replace h := h.1 c
      refine ⟨hasO_of hW t_t0, ?_⟩
      refine ty_X3_step t_t0 hW (fun S5 hW h => ?_) h
      refine ⟨fun c => ?_, fun c => ?_⟩
      · replace h := h.1 c
        refine ⟨hasO_of hW t_t0, ?_⟩
        refine ty_X3_numberOf t_t0 hW (fun S7 r7 hW h => ?_) h
        refine ⟨hasO_of hW t_t0, ?_⟩
        refine ty_X3_emit t_t0 hW (fun S8 r8 hW h => ?_) h
        exact hk _ hW h
      · replace h := h.2 c
        refine ⟨fun c => ?_, fun c => ?_⟩
        · replace h := h.1 c
          refine ⟨hasO_of hW t_t0, ?_⟩
          refine ty_X3_emit t_t0 hW (fun S10 r10 hW h => ?_) h
          refine ⟨hasO_of hW t_t0, ?_⟩
          refine tq_X3_expression t_t0 hW (fun S11 hW h => ?_) h
          refine ⟨hasO_of hW t_t0, ?_⟩
          refine ty_X3_emit t_t0 hW (fun S12 r12 hW h => ?_) h
          exact hk _ hW h
        · replace h := h.2 c
          refine ⟨fun c => ?_, fun c => ?_⟩
          · replace h := h.1 c
            refine ⟨hasO_of hW t_t0, ?_⟩
            refine ty_X3_emit t_t0 hW (fun S14 r14 hW h => ?_) h
            exact hk _ hW h
          · replace h := h.2 c
            refine ⟨fun c => ?_, fun c => ?_⟩
            · replace h := h.1 c
              refine ⟨hasO_of hW t_t0, ?_⟩
              refine ty_X3_emit t_t0 hW (fun S16 r16 hW h => ?_) h
              refine ⟨hasO_of hW t_t0, ?_⟩
              intro z17 e_z17
              replace h := h z17 e_z17
              refine ⟨hasO_of hW t_t0, ?_⟩
              refine ty_X3_need t_t0 hW (fun S18 hW h => ?_) h
              refine ⟨hasO_of hW t_t0, ?_⟩
              refine ty_X3_listed hr_X3_waitFor t_t0 hW (fun S19 r19 hW h => ?_) h
              refine ⟨hasO_of hW t_t0, ?_⟩
              refine ty_X3_emit t_t0 hW (fun S20 r20 hW h => ?_) h
              refine ⟨hasO_of hW t_t0, ?_⟩
              refine ty_X3_keepChild t_t0 hW (fun S21 hW h => ?_) h
              exact hk _ hW h
            · replace h := h.2 c
              refine ⟨fun c => ?_, fun c => ?_⟩
              · replace h := h.1 c
                refine ⟨fun c => ?_, fun c => ?_⟩
                · replace h := h.1 c
                  exact ty_X3_waitFor_225 hr_X3_waitFor hk t_t0 hW h
                · replace h := h.2 c
                  exact ty_X3_waitFor_225 hr_X3_waitFor hk t_t0 hW h
              · replace h := h.2 c
                refine ⟨fun c => ?_, fun c => ?_⟩
                · replace h := h.1 c
                  refine ⟨fun c => ?_, fun c => ?_⟩
                  · replace h := h.1 c
                    exact ty_X3_waitFor_225 hr_X3_waitFor hk t_t0 hW h
                  · replace h := h.2 c
                    exact ty_X3_waitFor_225 hr_X3_waitFor hk t_t0 hW h
                · replace h := h.2 c
                  refine ⟨fun c => ?_, fun c => ?_⟩
                  · replace h := h.1 c
                    refine ⟨hasO_of hW t_t0, ?_⟩
                    refine ty_X3_emit t_t0 hW (fun S27 r27 hW h => ?_) h
                    refine ⟨hasO_of hW t_t0, ?_⟩
                    refine tq_X3_expression t_t0 hW (fun S28 hW h => ?_) h
                    refine ⟨hasO_of hW t_t0, ?_⟩
                    refine ty_X3_emit t_t0 hW (fun S29 r29 hW h => ?_) h
                    intro z30 e_z30
                    replace h := h z30 e_z30
                    refine ⟨hasO_of hW t_t0, ?_⟩
                    refine hr_X3_waitFor _ _ t_t0 _ _ _ hW (fun S31 hW h => ?_) h
                    refine ⟨hasO_of hW t_t0, ?_⟩
                    refine ty_X3_emit t_t0 hW (fun S32 r32 hW h => ?_) h
                    exact hk _ hW h
                  · replace h := h.2 c
                    refine ⟨fun c => ?_, fun c => ?_⟩
                    · replace h := h.1 c
                      exact ty_X3_waitFor_225 hr_X3_waitFor hk t_t0 hW h
                    · replace h := h.2 c
                      exact ty_X3_waitFor_225 hr_X3_waitFor hk t_t0 hW h
    · replace h := h.2 c
      refine ⟨hasO_of hW t_t0, ?_⟩
      refine ty_X3_wrong t_t0 hW (fun S34 hW h => ?_) h
      exact hk _ hW h
  · replace h := h.2 c
    refine ⟨hasO_of hW t_t0, ?_⟩
    refine ty_X3_wrong t_t0 hW (fun S35 hW h => ?_) h
    exact hk _ hW h
def wV_X3_waitFor : Nat → Nat → Int32 → kS → (kS → Prop) → Prop
  | 0 => fun _ _ _ _ => False
  | n + 1 => wT_X3_waitFor (wV_X3_waitFor n)
def wU_X3_listed : Nat → Int32 → Int32 → kS → (kS → Int32 → Prop) → Prop := wT_X3_listed (wV_X3_waitFor 12)
def wU_X3_waitFor : Nat → Int32 → kS → (kS → Prop) → Prop := wV_X3_waitFor 12
theorem tr_X3_waitFor {d : List (Nat × cK)} : ∀ n : Nat, ∀ (t0 : Nat) (a0 : Int32), ((t0, Sum.inl 3) ∈ d) → ∀ (S : kS) (K K' : kS → Prop), WT d S → (∀ S1, WT d S1 → K S1 → K' S1) → wV_X3_waitFor n t0 a0 S K → wr_X3_waitFor n t0 a0 S K' := by
  intro n
  induction n with
  | zero => exact fun _ _ _ _ _ _ _ _ h => h
  | succ n ih => exact fun t0 a0 t0 S K K' hW hk h => ty_X3_waitFor ih t0 hW hk h
theorem tq_X3_listed {d : List (Nat × cK)} {t0 : Nat} {a0 : Int32} {a1 : Int32} (t_t0 : (t0, Sum.inl 3) ∈ d) {S : kS} {K K' : kS → Int32 → Prop} (hW : WT d S) (hk : ∀ S1 r1, WT d S1 → K S1 r1 → K' S1 r1) (h : wU_X3_listed t0 a0 a1 S K) : wq_X3_listed t0 a0 a1 S K' := ty_X3_listed (tr_X3_waitFor 12) t_t0 hW hk h
theorem tq_X3_waitFor {d : List (Nat × cK)} {t0 : Nat} {a0 : Int32} (t_t0 : (t0, Sum.inl 3) ∈ d) {S : kS} {K K' : kS → Prop} (hW : WT d S) (hk : ∀ S1, WT d S1 → K S1 → K' S1) (h : wU_X3_waitFor t0 a0 S K) : wq_X3_waitFor t0 a0 S K' := tr_X3_waitFor 12 t0 a0 t_t0 S K K' hW hk h
def wT_X5_newWait (t0 : Nat) (S : kS) (K : kS → Int32 → Prop) : Prop := ∀ z1 : Int32, z1 = S.1 18 t0 → ∀ z2 : Int32, z2 = z1 - 1 → ((z2 < 0 → K S (-1)) ∧ (¬ z2 < 0 → ∀ z4 : Option Nat, z4 = S.2.1 36 t0 → ∀ q5 : Nat, z4 = some q5 → inR z2 12 ∧ ∀ z6 : Int32, z6 = S.2.2.1 q5 (ix z2) → ((z6 < 16 → ∀ z8 : Option Nat, z8 = S.2.1 36 t0 → ∀ q9 : Nat, z8 = some q9 → inR z2 12 ∧ ∀ z10 : Int32, z10 = S.2.2.1 q9 (ix z2) → ∀ z11 : Int32, z11 = z10 + 1 → inR z2 12 ∧ ∀ S12 : kS, S12 = cA S q9 (ix z2) z11 → ∀ z13 : Option Nat, z13 = S12.2.1 36 t0 → ∀ q14 : Nat, z13 = some q14 → inR z2 12 ∧ ∀ z15 : Int32, z15 = S12.2.2.1 q14 (ix z2) → ∀ z16 : Int32, z16 = z15 - 1 → K S12 z16) ∧ (¬ z6 < 16 → K S (-1)))))
theorem ty_X5_newWait {d : List (Nat × cK)} {t0 : Nat} (t_t0 : (t0, Sum.inl 5) ∈ d) {S : kS} {K K' : kS → Int32 → Prop} (hW : WT d S) (hk : ∀ S1 r1, WT d S1 → K S1 r1 → K' S1 r1) (h : wT_X5_newWait t0 S K) : wp_X5_newWait t0 S K' := by
  unfold wT_X5_newWait at h
  unfold wp_X5_newWait
  refine ⟨hasO_of hW t_t0, ?_⟩
  intro z1 e_z1
  replace h := h z1 e_z1
  intro z2 e_z2
  replace h := h z2 e_z2
  refine ⟨fun c => ?_, fun c => ?_⟩
  · replace h := h.1 c
    exact hk _ _ hW h
  · replace h := h.2 c
    refine ⟨hasO_of hW t_t0, ?_⟩
    intro z4 e_z4
    replace h := h z4 e_z4
    have t_z4 : ∀ b, z4 = some b → (b, Sum.inr (12, 0)) ∈ d := fun b hb => hW.2.1 36 _ b t_t0 (by rw [← e_z4]; exact hb)
    have n_z4 := wt_nn (f := 36) hW (by decide) t_t0 e_z4
    obtain ⟨q5, e_q5⟩ := n_z4
    refine ⟨q5, e_q5, ?_⟩
    replace h := h q5 e_q5
    have t_q5 := t_z4 q5 e_q5
    refine ⟨hasA_of hW t_q5, ?_⟩
    have hin := h.1
    refine ⟨h.1, ?_⟩
    replace h := h.2
    intro z6 e_z6
    replace h := h z6 e_z6
    refine ⟨fun c => ?_, fun c => ?_⟩
    · replace h := h.1 c
      refine ⟨hasO_of hW t_t0, ?_⟩
      intro z8 e_z8
      replace h := h z8 e_z8
      have t_z8 : ∀ b, z8 = some b → (b, Sum.inr (12, 0)) ∈ d := fun b hb => hW.2.1 36 _ b t_t0 (by rw [← e_z8]; exact hb)
      have n_z8 := wt_nn (f := 36) hW (by decide) t_t0 e_z8
      obtain ⟨q9, e_q9⟩ := n_z8
      refine ⟨q9, e_q9, ?_⟩
      replace h := h q9 e_q9
      have t_q9 := t_z8 q9 e_q9
      refine ⟨hasA_of hW t_q9, ?_⟩
      have hin := h.1
      refine ⟨h.1, ?_⟩
      replace h := h.2
      intro z10 e_z10
      replace h := h z10 e_z10
      intro z11 e_z11
      replace h := h z11 e_z11
      refine ⟨hasA_of hW t_q9, ?_⟩
      have hin := h.1
      refine ⟨h.1, ?_⟩
      replace h := h.2
      intro S12 e_S12
      replace h := h S12 e_S12
      replace hW := WT_a hW e_S12
      refine ⟨hasO_of hW t_t0, ?_⟩
      intro z13 e_z13
      replace h := h z13 e_z13
      have t_z13 : ∀ b, z13 = some b → (b, Sum.inr (12, 0)) ∈ d := fun b hb => hW.2.1 36 _ b t_t0 (by rw [← e_z13]; exact hb)
      have n_z13 := wt_nn (f := 36) hW (by decide) t_t0 e_z13
      obtain ⟨q14, e_q14⟩ := n_z13
      refine ⟨q14, e_q14, ?_⟩
      replace h := h q14 e_q14
      have t_q14 := t_z13 q14 e_q14
      refine ⟨hasA_of hW t_q14, ?_⟩
      have hin := h.1
      refine ⟨h.1, ?_⟩
      replace h := h.2
      intro z15 e_z15
      replace h := h z15 e_z15
      intro z16 e_z16
      replace h := h z16 e_z16
      exact hk _ _ hW h
    · replace h := h.2 c
      exact hk _ _ hW h
def wT_X5_setStand (t0 : Nat) (a0 : Int32) (a1 : Int32) (S : kS) (K : kS → Prop) : Prop := ∀ z1 : Int32, z1 = S.1 18 t0 → ((z1 ≤ 0 → K S) ∧ (¬ z1 ≤ 0 → ((a0 < 0 → K S) ∧ (¬ a0 < 0 → ((16 ≤ a0 → K S) ∧ (¬ 16 ≤ a0 → ∀ z5 : Option Nat, z5 = S.2.1 37 t0 → ∀ z6 : Int32, z6 = S.1 18 t0 → ∀ z7 : Int32, z7 = z6 - 1 → ∀ z8 : Int32, z8 = z7 * 16 → ∀ z9 : Int32, z9 = z8 + a0 → ∀ q10 : Nat, z5 = some q10 → inR z9 192 ∧ ∀ S11 : kS, S11 = cA S q10 (ix z9) a1 → K S11))))))
theorem ty_X5_setStand {d : List (Nat × cK)} {t0 : Nat} {a0 : Int32} {a1 : Int32} (t_t0 : (t0, Sum.inl 5) ∈ d) {S : kS} {K K' : kS → Prop} (hW : WT d S) (hk : ∀ S1, WT d S1 → K S1 → K' S1) (h : wT_X5_setStand t0 a0 a1 S K) : wp_X5_setStand t0 a0 a1 S K' := by
  unfold wT_X5_setStand at h
  unfold wp_X5_setStand
  refine ⟨hasO_of hW t_t0, ?_⟩
  intro z1 e_z1
  replace h := h z1 e_z1
  refine ⟨fun c => ?_, fun c => ?_⟩
  · replace h := h.1 c
    exact hk _ hW h
  · replace h := h.2 c
    refine ⟨fun c => ?_, fun c => ?_⟩
    · replace h := h.1 c
      exact hk _ hW h
    · replace h := h.2 c
      refine ⟨fun c => ?_, fun c => ?_⟩
      · replace h := h.1 c
        exact hk _ hW h
      · replace h := h.2 c
        refine ⟨hasO_of hW t_t0, ?_⟩
        intro z5 e_z5
        replace h := h z5 e_z5
        have t_z5 : ∀ b, z5 = some b → (b, Sum.inr (192, 0)) ∈ d := fun b hb => hW.2.1 37 _ b t_t0 (by rw [← e_z5]; exact hb)
        have n_z5 := wt_nn (f := 37) hW (by decide) t_t0 e_z5
        refine ⟨hasO_of hW t_t0, ?_⟩
        intro z6 e_z6
        replace h := h z6 e_z6
        intro z7 e_z7
        replace h := h z7 e_z7
        intro z8 e_z8
        replace h := h z8 e_z8
        intro z9 e_z9
        replace h := h z9 e_z9
        obtain ⟨q10, e_q10⟩ := n_z5
        refine ⟨q10, e_q10, ?_⟩
        replace h := h q10 e_q10
        have t_q10 := t_z5 q10 e_q10
        refine ⟨hasA_of hW t_q10, ?_⟩
        have hin := h.1
        refine ⟨h.1, ?_⟩
        replace h := h.2
        intro S11 e_S11
        replace h := h S11 e_S11
        replace hW := WT_a hW e_S11
        exact hk _ hW h
