
def wT_X6_leave_295 (K : kS → Prop) (y0 : Nat) (y1 : Nat) (y2 : Int32) (S : kS) : Prop := wT_X6_end y0 y1 y2 0 S (fun (S68 : kS) => K S68)
def wT_X6_leave_230 (K : kS → Prop) (x0 : Nat) (x1 : Nat) (x3 : Int32) (x5 : Option Nat) (x6 : Int32) (x8 : Int32) (S : kS) : Prop := ((x6 = 0 → ((¬ x8 = 3 → ((¬ x8 = 5 → wT_X6_leave_295 K x0 x1 x3 S) ∧ (x8 = 5 → wT_X6_leave_295 K x0 x1 22 S))) ∧ (x8 = 3 → wT_X6_end x0 x1 0 x3 S (fun (S56 : kS) => K S56)))) ∧ (¬ x6 = 0 → ((¬ x8 = 1 → ∀ q58 : Nat, x5 = some q58 → ∀ z59 : Option Nat, z59 = S.2.1 51 q58 → ∀ q60 : Nat, z59 = some q60 → inR x3 460 ∧ ∀ z61 : Int32, z61 = S.2.2.1 q60 (ix x3) → ∀ S62 : kS, S62 = cI S 36 x1 z61 → K S62) ∧ (x8 = 1 → ∀ q63 : Nat, x5 = some q63 → ∀ z64 : Option Nat, z64 = S.2.1 52 q63 → ∀ q65 : Nat, z64 = some q65 → inR x3 460 ∧ ∀ z66 : Int32, z66 = S.2.2.1 q65 (ix x3) → ∀ S67 : kS, S67 = cI S 36 x1 z66 → K S67))))
def wT_X6_leave_214 (K : kS → Prop) (k57 : Nat × Nat × Int32 × Option Nat × Int32 × Int32 × Int32 × Int32 × Int32 × kS → Prop) (x0 : Nat) (x1 : Nat) (x3 : Int32) (x5 : Nat) (x6 : Int32) (x7 : Int32) (x8 : Int32) (x10 : Int32) (x11 : Int32) (S : kS) : Prop := ∀ z37 : Option Nat, z37 = S.2.1 43 x5 → ∀ q38 : Nat, z37 = some q38 → inR x11 460 ∧ ∀ z39 : Int32, z39 = S.2.2.1 q38 (ix x11) → ∀ z40 : Int32, z40 = x10 + 1 → k57 (x0, x1, x3, some x5, x6, x7, x8, z39, z40, S)
def wT_X6_leave_173 (K : kS → Prop) (k57 : Nat × Nat × Int32 × Option Nat × Int32 × Int32 × Int32 × Int32 × Int32 × kS → Prop) (x0 : Nat) (x1 : Nat) (x3 : Int32) (x5 : Nat) (x6 : Int32) (x7 : Int32) (x8 : Int32) (x10 : Int32) (x11 : Int32) (x13 : Int32) (S : kS) : Prop := wT_X7_is x5 x11 2 S (fun (S41 : kS) (r41 : Int32) => ((r41 = 0 → wT_X6_leave_214 K k57 x0 x1 x3 x5 x6 x7 x8 x10 x11 S41) ∧ (¬ r41 = 0 → ∀ z43 : Option Nat, z43 = S41.2.1 59 x1 → ∀ q44 : Nat, z43 = some q44 → inR x13 10 ∧ ∀ S45 : kS, S45 = cA S41 q44 (ix x13) x8 → ∀ z46 : Option Nat, z46 = S45.2.1 60 x1 → ∀ q47 : Nat, z46 = some q47 → inR x13 10 ∧ ∀ S48 : kS, S48 = cA S45 q47 (ix x13) x3 → ∀ z49 : Option Nat, z49 = S48.2.1 47 x5 → ∀ q50 : Nat, z49 = some q50 → inR x11 460 ∧ ∀ z51 : Int32, z51 = S48.2.2.1 q50 (ix x11) → ∀ S52 : kS, S52 = cI S48 36 x1 z51 → K S52)))
def wT_X6_leave_128 (K : kS → Prop) (k57 : Nat × Nat × Int32 × Option Nat × Int32 × Int32 × Int32 × Int32 × Int32 × kS → Prop) (x0 : Nat) (x1 : Nat) (x3 : Int32) (x5 : Nat) (x6 : Int32) (x7 : Int32) (x10 : Int32) (x11 : Int32) (y0 : Int32) (S : kS) : Prop := wT_X6_leave_214 K k57 x0 x1 x3 x5 x6 x7 y0 x10 x11 S
def wT_X6_leave_126 (K : kS → Prop) (k57 : Nat × Nat × Int32 × Option Nat × Int32 × Int32 × Int32 × Int32 × Int32 × kS → Prop) (x0 : Nat) (x1 : Nat) (x3 : Int32) (x5 : Nat) (x6 : Int32) (x7 : Int32) (x8 : Int32) (x10 : Int32) (x11 : Int32) (S : kS) : Prop := wT_X6_leave_128 K k57 x0 x1 x3 x5 x6 x7 x10 x11 x8 S
def wT_X6_leave_57 (K : kS → Prop) (k57 : Nat × Nat × Int32 × Option Nat × Int32 × Int32 × Int32 × Int32 × Int32 × kS → Prop) (x0 : Nat) (x1 : Nat) (x3 : Int32) (x5 : Option Nat) (x6 : Int32) (x7 : Int32) (x8 : Int32) (x9 : Int32) (x10 : Int32) (S : kS) : Prop := ((460 ≤ x10 → wT_X6_leave_230 K x0 x1 x3 x5 x6 x8 S) ∧ (¬ 460 ≤ x10 → ((x9 < 0 → wT_X6_leave_230 K x0 x1 x3 x5 x6 x8 S) ∧ (¬ x9 < 0 → ((x9 = x7 → wT_X6_leave_230 K x0 x1 x3 x5 x6 x8 S) ∧ (¬ x9 = x7 → ¬ (3 : Int32) = 0 ∧ ∀ z16 : Int32, z16 = x9 / 3 → ¬ (3 : Int32) = 0 ∧ ∀ z17 : Int32, z17 = x9 - x9 / 3 * 3 → ∀ q18 : Nat, x5 = some q18 → ∀ z19 : Option Nat, z19 = S.2.1 44 q18 → ∀ q20 : Nat, z19 = some q20 → inR z16 460 ∧ ∀ z21 : Int32, z21 = S.2.2.1 q20 (ix z16) → ((¬ z17 = 2 → ((¬ x8 = 4 → wT_X6_leave_173 K k57 x0 x1 x3 q18 x6 x7 x8 x10 z16 z21 S) ∧ (x8 = 4 → ((¬ z17 = 0 → wT_X6_leave_173 K k57 x0 x1 x3 q18 x6 x7 x8 x10 z16 z21 S) ∧ (z17 = 0 → wT_X7_is q18 z16 1 S (fun (S25 : kS) (r25 : Int32) => ((r25 = 0 → wT_X6_leave_173 K k57 x0 x1 x3 q18 x6 x7 x8 x10 z16 z21 S25) ∧ (¬ r25 = 0 → ∀ S27 : kS, S27 = cI S25 23 x0 x3 → ∀ z28 : Option Nat, z28 = S27.2.1 46 q18 → ∀ q29 : Nat, z28 = some q29 → inR z16 460 ∧ ∀ z30 : Int32, z30 = S27.2.2.1 q29 (ix z16) → ∀ S31 : kS, S31 = cI S27 36 x1 z30 → K S31)))))))) ∧ (z17 = 2 → ((¬ x8 = 4 → wT_X6_leave_126 K k57 x0 x1 x3 q18 x6 x7 x8 x10 z16 S) ∧ (x8 = 4 → ∀ z33 : Option Nat, z33 = S.2.1 59 x1 → ∀ q34 : Nat, z33 = some q34 → inR z21 10 ∧ ∀ z35 : Int32, z35 = S.2.2.1 q34 (ix z21) → ((¬ z35 = 5 → wT_X6_leave_126 K k57 x0 x1 x3 q18 x6 x7 x8 x10 z16 S) ∧ (z35 = 5 → wT_X6_leave_128 K k57 x0 x1 x3 q18 x6 x7 x10 z16 5 S))))))))))))
def lT_X6_leave_57 (K : kS → Prop) (k57 : Nat × Nat × Int32 × Option Nat × Int32 × Int32 × Int32 × Int32 × Int32 × kS → Prop) (u : Nat × Nat × Int32 × Option Nat × Int32 × Int32 × Int32 × Int32 × Int32 × kS) : Prop := wT_X6_leave_57 K k57 u.1 u.2.1 u.2.2.1 u.2.2.2.1 u.2.2.2.2.1 u.2.2.2.2.2.1 u.2.2.2.2.2.2.1 u.2.2.2.2.2.2.2.1 u.2.2.2.2.2.2.2.2.1 u.2.2.2.2.2.2.2.2.2
def wT_X6_leave_45 (K : kS → Prop) (x0 : Nat) (x1 : Nat) (x2 : Int32) (x3 : Int32) (x4 : Int32) (x5 : Option Nat) (x6 : Int32) (y0 : Int32) (S : kS) : Prop := (∃ n9, it (lT_X6_leave_57 K) n9 (x0, x1, x3, x5, x6, y0, x2, x4, 0, S))
def wT_X6_leave_27 (K : kS → Prop) (x0 : Nat) (x1 : Nat) (x2 : Int32) (x3 : Int32) (x4 : Int32) (x5 : Option Nat) (y0 : Int32) (S : kS) : Prop := ((y0 = 0 → wT_X6_leave_45 K x0 x1 x2 x3 x4 x5 y0 (-1) S) ∧ (¬ y0 = 0 → ∀ q9 : Nat, x5 = some q9 → ∀ z10 : Option Nat, z10 = S.2.1 50 q9 → ∀ q11 : Nat, z10 = some q11 → inR x3 460 ∧ ∀ z12 : Int32, z12 = S.2.2.1 q11 (ix x3) → wT_X6_leave_45 K x0 x1 x2 x3 x4 (some q9) y0 z12 S))
def wT_X6_leave_22 (K : kS → Prop) (x0 : Nat) (x1 : Nat) (x2 : Int32) (x3 : Int32) (x4 : Int32) (x5 : Option Nat) (S : kS) : Prop := wT_X6_leave_27 K x0 x1 x2 x3 x4 x5 1 S
def wT_X6_leave (t0 : Nat) (a0 : Nat) (a1 : Int32) (a2 : Int32) (a3 : Int32) (S : kS) (K : kS → Prop) : Prop := ∀ z1 : Option Nat, z1 = S.2.1 41 t0 → ∀ q2 : Nat, z1 = some q2 → ∀ z3 : Option Nat, z3 = S.2.1 2 q2 → ∃ q4 : Nat, z3 = some q4 ∧ ∀ z5 : Option Nat, z5 = S.2.1 31 q4 → ((a1 = 1 → wT_X6_leave_22 K t0 a0 a1 a2 a3 z5 S) ∧ (¬ a1 = 1 → ((¬ a1 = 2 → wT_X6_leave_27 K t0 a0 a1 a2 a3 z5 0 S) ∧ (a1 = 2 → wT_X6_leave_22 K t0 a0 a1 a2 a3 z5 S))))
theorem ty_X6_leave_295 {d : List (Nat × cK)} {K K' : kS → Prop} (hk : ∀ S1, WT d S1 → K S1 → K' S1) {y0 : Nat} {y1 : Nat} {y2 : Int32} (t_y0 : (y0, Sum.inl 6) ∈ d) (t_y1 : (y1, Sum.inl 9) ∈ d) {S : kS} (hW : WT d S) (h : wT_X6_leave_295 K y0 y1 y2 S) : wp_X6_leave_295 K' y0 y1 y2 S := by
  unfold wT_X6_leave_295 at h
  unfold wp_X6_leave_295
  refine ⟨hasO_of hW t_y0, ?_⟩
  refine ty_X6_end t_y0 t_y1 hW (fun S68 hW h => ?_) h
  exact hk _ hW h
theorem ty_X6_leave_230 {d : List (Nat × cK)} {K K' : kS → Prop} (hk : ∀ S1, WT d S1 → K S1 → K' S1) {x0 : Nat} {x1 : Nat} {x3 : Int32} {x5 : Option Nat} {x6 : Int32} {x8 : Int32} (t_x0 : (x0, Sum.inl 6) ∈ d) (t_x1 : (x1, Sum.inl 9) ∈ d) (t_x5 : ∀ b, x5 = some b → (b, Sum.inl 7) ∈ d) (n_x5 : ∃ q, x5 = some q) {S : kS} (hW : WT d S) (h : wT_X6_leave_230 K x0 x1 x3 x5 x6 x8 S) : wp_X6_leave_230 K' x0 x1 x3 x5 x6 x8 S := by
  unfold wT_X6_leave_230 at h
  unfold wp_X6_leave_230
  refine ⟨fun c => ?_, fun c => ?_⟩
  · replace h := h.1 c
    refine ⟨fun c => ?_, fun c => ?_⟩
    · replace h := h.1 c
      refine ⟨fun c => ?_, fun c => ?_⟩
      · replace h := h.1 c
        exact ty_X6_leave_295 hk t_x0 t_x1 hW h
      · replace h := h.2 c
        exact ty_X6_leave_295 hk t_x0 t_x1 hW h
    · replace h := h.2 c
      refine ⟨hasO_of hW t_x0, ?_⟩
      refine ty_X6_end t_x0 t_x1 hW (fun S56 hW h => ?_) h
      exact hk _ hW h
  · replace h := h.2 c
    refine ⟨fun c => ?_, fun c => ?_⟩
    · replace h := h.1 c
      obtain ⟨q58, e_q58⟩ := n_x5
      refine ⟨q58, e_q58, ?_⟩
      replace h := h q58 e_q58
      have t_q58 := t_x5 q58 e_q58
      refine ⟨hasO_of hW t_q58, ?_⟩
      intro z59 e_z59
      replace h := h z59 e_z59
      have t_z59 : ∀ b, z59 = some b → (b, Sum.inr (460, 0)) ∈ d := fun b hb => hW.2.1 51 _ b t_q58 (by rw [← e_z59]; exact hb)
      have n_z59 := wt_nn (f := 51) hW (by decide) t_q58 e_z59
      obtain ⟨q60, e_q60⟩ := n_z59
      refine ⟨q60, e_q60, ?_⟩
      replace h := h q60 e_q60
      have t_q60 := t_z59 q60 e_q60
      refine ⟨hasA_of hW t_q60, ?_⟩
      have hin := h.1
      refine ⟨h.1, ?_⟩
      replace h := h.2
      intro z61 e_z61
      replace h := h z61 e_z61
      refine ⟨hasO_of hW t_x1, ?_⟩
      intro S62 e_S62
      replace h := h S62 e_S62
      replace hW := WT_i hW e_S62
      exact hk _ hW h
    · replace h := h.2 c
      obtain ⟨q63, e_q63⟩ := n_x5
      refine ⟨q63, e_q63, ?_⟩
      replace h := h q63 e_q63
      have t_q63 := t_x5 q63 e_q63
      refine ⟨hasO_of hW t_q63, ?_⟩
      intro z64 e_z64
      replace h := h z64 e_z64
      have t_z64 : ∀ b, z64 = some b → (b, Sum.inr (460, 0)) ∈ d := fun b hb => hW.2.1 52 _ b t_q63 (by rw [← e_z64]; exact hb)
      have n_z64 := wt_nn (f := 52) hW (by decide) t_q63 e_z64
      obtain ⟨q65, e_q65⟩ := n_z64
      refine ⟨q65, e_q65, ?_⟩
      replace h := h q65 e_q65
      have t_q65 := t_z64 q65 e_q65
      refine ⟨hasA_of hW t_q65, ?_⟩
      have hin := h.1
      refine ⟨h.1, ?_⟩
      replace h := h.2
      intro z66 e_z66
      replace h := h z66 e_z66
      refine ⟨hasO_of hW t_x1, ?_⟩
      intro S67 e_S67
      replace h := h S67 e_S67
      replace hW := WT_i hW e_S67
      exact hk _ hW h
theorem ty_X6_leave_214 {d : List (Nat × cK)} {K K' : kS → Prop} {k57 k57' : Nat × Nat × Int32 × Option Nat × Int32 × Int32 × Int32 × Int32 × Int32 × kS → Prop} (hk : ∀ S1, WT d S1 → K S1 → K' S1) (hk57 : ∀ (x0 : Nat) (x1 : Nat) (x3 : Int32) (x5 : Option Nat) (x6 : Int32) (x7 : Int32) (x8 : Int32) (x9 : Int32) (x10 : Int32), ((x0, Sum.inl 6) ∈ d) → ((x1, Sum.inl 9) ∈ d) → (∀ b, x5 = some b → (b, Sum.inl 7) ∈ d) → (∃ q, x5 = some q) → ∀ S : kS, WT d S → k57 (x0, x1, x3, x5, x6, x7, x8, x9, x10, S) → k57' (x0, x1, x3, x5, x6, x7, x8, x9, x10, S)) {x0 : Nat} {x1 : Nat} {x3 : Int32} {x5 : Nat} {x6 : Int32} {x7 : Int32} {x8 : Int32} {x10 : Int32} {x11 : Int32} (t_x0 : (x0, Sum.inl 6) ∈ d) (t_x1 : (x1, Sum.inl 9) ∈ d) (t_x5 : (x5, Sum.inl 7) ∈ d) {S : kS} (hW : WT d S) (h : wT_X6_leave_214 K k57 x0 x1 x3 x5 x6 x7 x8 x10 x11 S) : wp_X6_leave_214 K' k57' x0 x1 x3 x5 x6 x7 x8 x10 x11 S := by
  unfold wT_X6_leave_214 at h
  unfold wp_X6_leave_214
  refine ⟨hasO_of hW t_x5, ?_⟩
  intro z37 e_z37
  replace h := h z37 e_z37
  have t_z37 : ∀ b, z37 = some b → (b, Sum.inr (460, 0)) ∈ d := fun b hb => hW.2.1 43 _ b t_x5 (by rw [← e_z37]; exact hb)
  have n_z37 := wt_nn (f := 43) hW (by decide) t_x5 e_z37
  obtain ⟨q38, e_q38⟩ := n_z37
  refine ⟨q38, e_q38, ?_⟩
  replace h := h q38 e_q38
  have t_q38 := t_z37 q38 e_q38
  refine ⟨hasA_of hW t_q38, ?_⟩
  have hin := h.1
  refine ⟨h.1, ?_⟩
  replace h := h.2
  intro z39 e_z39
  replace h := h z39 e_z39
  intro z40 e_z40
  replace h := h z40 e_z40
  exact hk57 _ _ _ _ _ _ _ _ _ t_x0 t_x1 (fun b hb => by cases hb; exact t_x5) ⟨_, rfl⟩ _ hW h
theorem ty_X6_leave_173 {d : List (Nat × cK)} {K K' : kS → Prop} {k57 k57' : Nat × Nat × Int32 × Option Nat × Int32 × Int32 × Int32 × Int32 × Int32 × kS → Prop} (hk : ∀ S1, WT d S1 → K S1 → K' S1) (hk57 : ∀ (x0 : Nat) (x1 : Nat) (x3 : Int32) (x5 : Option Nat) (x6 : Int32) (x7 : Int32) (x8 : Int32) (x9 : Int32) (x10 : Int32), ((x0, Sum.inl 6) ∈ d) → ((x1, Sum.inl 9) ∈ d) → (∀ b, x5 = some b → (b, Sum.inl 7) ∈ d) → (∃ q, x5 = some q) → ∀ S : kS, WT d S → k57 (x0, x1, x3, x5, x6, x7, x8, x9, x10, S) → k57' (x0, x1, x3, x5, x6, x7, x8, x9, x10, S)) {x0 : Nat} {x1 : Nat} {x3 : Int32} {x5 : Nat} {x6 : Int32} {x7 : Int32} {x8 : Int32} {x10 : Int32} {x11 : Int32} {x13 : Int32} (t_x0 : (x0, Sum.inl 6) ∈ d) (t_x1 : (x1, Sum.inl 9) ∈ d) (t_x5 : (x5, Sum.inl 7) ∈ d) {S : kS} (hW : WT d S) (h : wT_X6_leave_173 K k57 x0 x1 x3 x5 x6 x7 x8 x10 x11 x13 S) : wp_X6_leave_173 K' k57' x0 x1 x3 x5 x6 x7 x8 x10 x11 x13 S := by
  unfold wT_X6_leave_173 at h
  unfold wp_X6_leave_173
  refine ⟨hasO_of hW t_x5, ?_⟩
  refine ty_X7_is t_x5 hW (fun S41 r41 hW h => ?_) h
  refine ⟨fun c => ?_, fun c => ?_⟩
  · replace h := h.1 c
    exact ty_X6_leave_214 hk hk57 t_x0 t_x1 t_x5 hW h
  · replace h := h.2 c
    refine ⟨hasO_of hW t_x1, ?_⟩
    intro z43 e_z43
    replace h := h z43 e_z43
    have t_z43 : ∀ b, z43 = some b → (b, Sum.inr (10, 0)) ∈ d := fun b hb => hW.2.1 59 _ b t_x1 (by rw [← e_z43]; exact hb)
    have n_z43 := wt_nn (f := 59) hW (by decide) t_x1 e_z43
    obtain ⟨q44, e_q44⟩ := n_z43
    refine ⟨q44, e_q44, ?_⟩
    replace h := h q44 e_q44
    have t_q44 := t_z43 q44 e_q44
    refine ⟨hasA_of hW t_q44, ?_⟩
    have hin := h.1
    refine ⟨h.1, ?_⟩
    replace h := h.2
    intro S45 e_S45
    replace h := h S45 e_S45
    replace hW := WT_a hW e_S45
    refine ⟨hasO_of hW t_x1, ?_⟩
    intro z46 e_z46
    replace h := h z46 e_z46
    have t_z46 : ∀ b, z46 = some b → (b, Sum.inr (10, 0)) ∈ d := fun b hb => hW.2.1 60 _ b t_x1 (by rw [← e_z46]; exact hb)
    have n_z46 := wt_nn (f := 60) hW (by decide) t_x1 e_z46
    obtain ⟨q47, e_q47⟩ := n_z46
    refine ⟨q47, e_q47, ?_⟩
    replace h := h q47 e_q47
    have t_q47 := t_z46 q47 e_q47
    refine ⟨hasA_of hW t_q47, ?_⟩
    have hin := h.1
    refine ⟨h.1, ?_⟩
    replace h := h.2
    intro S48 e_S48
    replace h := h S48 e_S48
    replace hW := WT_a hW e_S48
    refine ⟨hasO_of hW t_x5, ?_⟩
    intro z49 e_z49
    replace h := h z49 e_z49
    have t_z49 : ∀ b, z49 = some b → (b, Sum.inr (460, 0)) ∈ d := fun b hb => hW.2.1 47 _ b t_x5 (by rw [← e_z49]; exact hb)
    have n_z49 := wt_nn (f := 47) hW (by decide) t_x5 e_z49
    obtain ⟨q50, e_q50⟩ := n_z49
    refine ⟨q50, e_q50, ?_⟩
    replace h := h q50 e_q50
    have t_q50 := t_z49 q50 e_q50
    refine ⟨hasA_of hW t_q50, ?_⟩
    have hin := h.1
    refine ⟨h.1, ?_⟩
    replace h := h.2
    intro z51 e_z51
    replace h := h z51 e_z51
    refine ⟨hasO_of hW t_x1, ?_⟩
    intro S52 e_S52
    replace h := h S52 e_S52
    replace hW := WT_i hW e_S52
    exact hk _ hW h
theorem ty_X6_leave_128 {d : List (Nat × cK)} {K K' : kS → Prop} {k57 k57' : Nat × Nat × Int32 × Option Nat × Int32 × Int32 × Int32 × Int32 × Int32 × kS → Prop} (hk : ∀ S1, WT d S1 → K S1 → K' S1) (hk57 : ∀ (x0 : Nat) (x1 : Nat) (x3 : Int32) (x5 : Option Nat) (x6 : Int32) (x7 : Int32) (x8 : Int32) (x9 : Int32) (x10 : Int32), ((x0, Sum.inl 6) ∈ d) → ((x1, Sum.inl 9) ∈ d) → (∀ b, x5 = some b → (b, Sum.inl 7) ∈ d) → (∃ q, x5 = some q) → ∀ S : kS, WT d S → k57 (x0, x1, x3, x5, x6, x7, x8, x9, x10, S) → k57' (x0, x1, x3, x5, x6, x7, x8, x9, x10, S)) {x0 : Nat} {x1 : Nat} {x3 : Int32} {x5 : Nat} {x6 : Int32} {x7 : Int32} {x10 : Int32} {x11 : Int32} {y0 : Int32} (t_x0 : (x0, Sum.inl 6) ∈ d) (t_x1 : (x1, Sum.inl 9) ∈ d) (t_x5 : (x5, Sum.inl 7) ∈ d) {S : kS} (hW : WT d S) (h : wT_X6_leave_128 K k57 x0 x1 x3 x5 x6 x7 x10 x11 y0 S) : wp_X6_leave_128 K' k57' x0 x1 x3 x5 x6 x7 x10 x11 y0 S := by
  unfold wT_X6_leave_128 at h
  unfold wp_X6_leave_128
  exact ty_X6_leave_214 hk hk57 t_x0 t_x1 t_x5 hW h
theorem ty_X6_leave_126 {d : List (Nat × cK)} {K K' : kS → Prop} {k57 k57' : Nat × Nat × Int32 × Option Nat × Int32 × Int32 × Int32 × Int32 × Int32 × kS → Prop} (hk : ∀ S1, WT d S1 → K S1 → K' S1) (hk57 : ∀ (x0 : Nat) (x1 : Nat) (x3 : Int32) (x5 : Option Nat) (x6 : Int32) (x7 : Int32) (x8 : Int32) (x9 : Int32) (x10 : Int32), ((x0, Sum.inl 6) ∈ d) → ((x1, Sum.inl 9) ∈ d) → (∀ b, x5 = some b → (b, Sum.inl 7) ∈ d) → (∃ q, x5 = some q) → ∀ S : kS, WT d S → k57 (x0, x1, x3, x5, x6, x7, x8, x9, x10, S) → k57' (x0, x1, x3, x5, x6, x7, x8, x9, x10, S)) {x0 : Nat} {x1 : Nat} {x3 : Int32} {x5 : Nat} {x6 : Int32} {x7 : Int32} {x8 : Int32} {x10 : Int32} {x11 : Int32} (t_x0 : (x0, Sum.inl 6) ∈ d) (t_x1 : (x1, Sum.inl 9) ∈ d) (t_x5 : (x5, Sum.inl 7) ∈ d) {S : kS} (hW : WT d S) (h : wT_X6_leave_126 K k57 x0 x1 x3 x5 x6 x7 x8 x10 x11 S) : wp_X6_leave_126 K' k57' x0 x1 x3 x5 x6 x7 x8 x10 x11 S := by
  unfold wT_X6_leave_126 at h
  unfold wp_X6_leave_126
  exact ty_X6_leave_128 hk hk57 t_x0 t_x1 t_x5 hW h
theorem ty_X6_leave_57 {d : List (Nat × cK)} {K K' : kS → Prop} {k57 k57' : Nat × Nat × Int32 × Option Nat × Int32 × Int32 × Int32 × Int32 × Int32 × kS → Prop} (hk : ∀ S1, WT d S1 → K S1 → K' S1) (hk57 : ∀ (x0 : Nat) (x1 : Nat) (x3 : Int32) (x5 : Option Nat) (x6 : Int32) (x7 : Int32) (x8 : Int32) (x9 : Int32) (x10 : Int32), ((x0, Sum.inl 6) ∈ d) → ((x1, Sum.inl 9) ∈ d) → (∀ b, x5 = some b → (b, Sum.inl 7) ∈ d) → (∃ q, x5 = some q) → ∀ S : kS, WT d S → k57 (x0, x1, x3, x5, x6, x7, x8, x9, x10, S) → k57' (x0, x1, x3, x5, x6, x7, x8, x9, x10, S)) {x0 : Nat} {x1 : Nat} {x3 : Int32} {x5 : Option Nat} {x6 : Int32} {x7 : Int32} {x8 : Int32} {x9 : Int32} {x10 : Int32} (t_x0 : (x0, Sum.inl 6) ∈ d) (t_x1 : (x1, Sum.inl 9) ∈ d) (t_x5 : ∀ b, x5 = some b → (b, Sum.inl 7) ∈ d) (n_x5 : ∃ q, x5 = some q) {S : kS} (hW : WT d S) (h : wT_X6_leave_57 K k57 x0 x1 x3 x5 x6 x7 x8 x9 x10 S) : wp_X6_leave_57 K' k57' x0 x1 x3 x5 x6 x7 x8 x9 x10 S := by
  unfold wT_X6_leave_57 at h
  unfold wp_X6_leave_57
  refine ⟨fun c => ?_, fun c => ?_⟩
  · replace h := h.1 c
    exact ty_X6_leave_230 hk t_x0 t_x1 t_x5 n_x5 hW h
  · replace h := h.2 c
    refine ⟨fun c => ?_, fun c => ?_⟩
    · replace h := h.1 c
      exact ty_X6_leave_230 hk t_x0 t_x1 t_x5 n_x5 hW h
    · replace h := h.2 c
      refine ⟨fun c => ?_, fun c => ?_⟩
      · replace h := h.1 c
        exact ty_X6_leave_230 hk t_x0 t_x1 t_x5 n_x5 hW h
      · replace h := h.2 c
        have hin := h.1
        refine ⟨h.1, ?_⟩
        replace h := h.2
        intro z16 e_z16
        replace h := h z16 e_z16
        have hin := h.1
        refine ⟨h.1, ?_⟩
        replace h := h.2
        intro z17 e_z17
        replace h := h z17 e_z17
        obtain ⟨q18, e_q18⟩ := n_x5
        refine ⟨q18, e_q18, ?_⟩
        replace h := h q18 e_q18
        have t_q18 := t_x5 q18 e_q18
        refine ⟨hasO_of hW t_q18, ?_⟩
        intro z19 e_z19
        replace h := h z19 e_z19
        have t_z19 : ∀ b, z19 = some b → (b, Sum.inr (460, 0)) ∈ d := fun b hb => hW.2.1 44 _ b t_q18 (by rw [← e_z19]; exact hb)
        have n_z19 := wt_nn (f := 44) hW (by decide) t_q18 e_z19
        obtain ⟨q20, e_q20⟩ := n_z19
        refine ⟨q20, e_q20, ?_⟩
        replace h := h q20 e_q20
        have t_q20 := t_z19 q20 e_q20
        refine ⟨hasA_of hW t_q20, ?_⟩
        have hin := h.1
        refine ⟨h.1, ?_⟩
        replace h := h.2
        intro z21 e_z21
        replace h := h z21 e_z21
        refine ⟨fun c => ?_, fun c => ?_⟩
        · replace h := h.1 c
          refine ⟨fun c => ?_, fun c => ?_⟩
          · replace h := h.1 c
            exact ty_X6_leave_173 hk hk57 t_x0 t_x1 t_q18 hW h
          · replace h := h.2 c
            refine ⟨fun c => ?_, fun c => ?_⟩
            · replace h := h.1 c
              exact ty_X6_leave_173 hk hk57 t_x0 t_x1 t_q18 hW h
            · replace h := h.2 c
              refine ⟨hasO_of hW t_q18, ?_⟩
              refine ty_X7_is t_q18 hW (fun S25 r25 hW h => ?_) h
              refine ⟨fun c => ?_, fun c => ?_⟩
              · replace h := h.1 c
                exact ty_X6_leave_173 hk hk57 t_x0 t_x1 t_q18 hW h
              · replace h := h.2 c
                refine ⟨hasO_of hW t_x0, ?_⟩
                intro S27 e_S27
                replace h := h S27 e_S27
                replace hW := WT_i hW e_S27
                refine ⟨hasO_of hW t_q18, ?_⟩
                intro z28 e_z28
                replace h := h z28 e_z28
                have t_z28 : ∀ b, z28 = some b → (b, Sum.inr (460, 0)) ∈ d := fun b hb => hW.2.1 46 _ b t_q18 (by rw [← e_z28]; exact hb)
                have n_z28 := wt_nn (f := 46) hW (by decide) t_q18 e_z28
                obtain ⟨q29, e_q29⟩ := n_z28
                refine ⟨q29, e_q29, ?_⟩
                replace h := h q29 e_q29
                have t_q29 := t_z28 q29 e_q29
                refine ⟨hasA_of hW t_q29, ?_⟩
                have hin := h.1
                refine ⟨h.1, ?_⟩
                replace h := h.2
                intro z30 e_z30
                replace h := h z30 e_z30
                refine ⟨hasO_of hW t_x1, ?_⟩
                intro S31 e_S31
                replace h := h S31 e_S31
                replace hW := WT_i hW e_S31
                exact hk _ hW h
        · replace h := h.2 c
          refine ⟨fun c => ?_, fun c => ?_⟩
          · replace h := h.1 c
            exact ty_X6_leave_126 hk hk57 t_x0 t_x1 t_q18 hW h
          · replace h := h.2 c
            refine ⟨hasO_of hW t_x1, ?_⟩
            intro z33 e_z33
            replace h := h z33 e_z33
            have t_z33 : ∀ b, z33 = some b → (b, Sum.inr (10, 0)) ∈ d := fun b hb => hW.2.1 59 _ b t_x1 (by rw [← e_z33]; exact hb)
            have n_z33 := wt_nn (f := 59) hW (by decide) t_x1 e_z33
            obtain ⟨q34, e_q34⟩ := n_z33
            refine ⟨q34, e_q34, ?_⟩
            replace h := h q34 e_q34
            have t_q34 := t_z33 q34 e_q34
            refine ⟨hasA_of hW t_q34, ?_⟩
            have hin := h.1
            refine ⟨h.1, ?_⟩
            replace h := h.2
            intro z35 e_z35
            replace h := h z35 e_z35
            refine ⟨fun c => ?_, fun c => ?_⟩
            · replace h := h.1 c
              exact ty_X6_leave_126 hk hk57 t_x0 t_x1 t_q18 hW h
            · replace h := h.2 c
              exact ty_X6_leave_128 hk hk57 t_x0 t_x1 t_q18 hW h
theorem tyl_X6_leave_57 {d : List (Nat × cK)} {K K' : kS → Prop} (hk : ∀ S1, WT d S1 → K S1 → K' S1) : ∀ (n : Nat) (x0 : Nat) (x1 : Nat) (x3 : Int32) (x5 : Option Nat) (x6 : Int32) (x7 : Int32) (x8 : Int32) (x9 : Int32) (x10 : Int32), ((x0, Sum.inl 6) ∈ d) → ((x1, Sum.inl 9) ∈ d) → (∀ b, x5 = some b → (b, Sum.inl 7) ∈ d) → (∃ q, x5 = some q) → ∀ S : kS, WT d S → it (lT_X6_leave_57 K) n (x0, x1, x3, x5, x6, x7, x8, x9, x10, S) → it (ls_X6_leave_57 K') n (x0, x1, x3, x5, x6, x7, x8, x9, x10, S) := by
  intro n
  induction n with
  | zero => exact fun _ _ _ _ _ _ _ _ _ _ _ _ _ _ _ h => h
  | succ n ih => exact fun x0 x1 x3 x5 x6 x7 x8 x9 x10 t_x0 t_x1 t_x5 n_x5 S hW h => ty_X6_leave_57 hk ih t_x0 t_x1 t_x5 n_x5 hW h
theorem ty_X6_leave_45 {d : List (Nat × cK)} {K K' : kS → Prop} (hk : ∀ S1, WT d S1 → K S1 → K' S1) {x0 : Nat} {x1 : Nat} {x2 : Int32} {x3 : Int32} {x4 : Int32} {x5 : Option Nat} {x6 : Int32} {y0 : Int32} (t_x0 : (x0, Sum.inl 6) ∈ d) (t_x1 : (x1, Sum.inl 9) ∈ d) (t_x5 : ∀ b, x5 = some b → (b, Sum.inl 7) ∈ d) (n_x5 : ∃ q, x5 = some q) {S : kS} (hW : WT d S) (h : wT_X6_leave_45 K x0 x1 x2 x3 x4 x5 x6 y0 S) : wp_X6_leave_45 K' x0 x1 x2 x3 x4 x5 x6 y0 S := by
  unfold wT_X6_leave_45 at h
  unfold wp_X6_leave_45
  obtain ⟨n9, h⟩ := h
  exact ⟨n9, tyl_X6_leave_57 hk n9 _ _ _ _ _ _ _ _ _ t_x0 t_x1 t_x5 n_x5 _ hW h⟩
theorem ty_X6_leave_27 {d : List (Nat × cK)} {K K' : kS → Prop} (hk : ∀ S1, WT d S1 → K S1 → K' S1) {x0 : Nat} {x1 : Nat} {x2 : Int32} {x3 : Int32} {x4 : Int32} {x5 : Option Nat} {y0 : Int32} (t_x0 : (x0, Sum.inl 6) ∈ d) (t_x1 : (x1, Sum.inl 9) ∈ d) (t_x5 : ∀ b, x5 = some b → (b, Sum.inl 7) ∈ d) (n_x5 : ∃ q, x5 = some q) {S : kS} (hW : WT d S) (h : wT_X6_leave_27 K x0 x1 x2 x3 x4 x5 y0 S) : wp_X6_leave_27 K' x0 x1 x2 x3 x4 x5 y0 S := by
  unfold wT_X6_leave_27 at h
  unfold wp_X6_leave_27
  refine ⟨fun c => ?_, fun c => ?_⟩
  · replace h := h.1 c
    exact ty_X6_leave_45 hk t_x0 t_x1 t_x5 n_x5 hW h
  · replace h := h.2 c
    obtain ⟨q9, e_q9⟩ := n_x5
    refine ⟨q9, e_q9, ?_⟩
    replace h := h q9 e_q9
    have t_q9 := t_x5 q9 e_q9
    refine ⟨hasO_of hW t_q9, ?_⟩
    intro z10 e_z10
    replace h := h z10 e_z10
    have t_z10 : ∀ b, z10 = some b → (b, Sum.inr (460, 0)) ∈ d := fun b hb => hW.2.1 50 _ b t_q9 (by rw [← e_z10]; exact hb)
    have n_z10 := wt_nn (f := 50) hW (by decide) t_q9 e_z10
    obtain ⟨q11, e_q11⟩ := n_z10
    refine ⟨q11, e_q11, ?_⟩
    replace h := h q11 e_q11
    have t_q11 := t_z10 q11 e_q11
    refine ⟨hasA_of hW t_q11, ?_⟩
    have hin := h.1
    refine ⟨h.1, ?_⟩
    replace h := h.2
    intro z12 e_z12
    replace h := h z12 e_z12
    exact ty_X6_leave_45 hk t_x0 t_x1 (fun b hb => by cases hb; exact t_q9) ⟨_, rfl⟩ hW h
theorem ty_X6_leave_22 {d : List (Nat × cK)} {K K' : kS → Prop} (hk : ∀ S1, WT d S1 → K S1 → K' S1) {x0 : Nat} {x1 : Nat} {x2 : Int32} {x3 : Int32} {x4 : Int32} {x5 : Option Nat} (t_x0 : (x0, Sum.inl 6) ∈ d) (t_x1 : (x1, Sum.inl 9) ∈ d) (t_x5 : ∀ b, x5 = some b → (b, Sum.inl 7) ∈ d) (n_x5 : ∃ q, x5 = some q) {S : kS} (hW : WT d S) (h : wT_X6_leave_22 K x0 x1 x2 x3 x4 x5 S) : wp_X6_leave_22 K' x0 x1 x2 x3 x4 x5 S := by
  unfold wT_X6_leave_22 at h
  unfold wp_X6_leave_22
  exact ty_X6_leave_27 hk t_x0 t_x1 t_x5 n_x5 hW h
theorem ty_X6_leave {d : List (Nat × cK)} {t0 : Nat} {a0 : Nat} {a1 : Int32} {a2 : Int32} {a3 : Int32} (t_t0 : (t0, Sum.inl 6) ∈ d) (t_a0 : (a0, Sum.inl 9) ∈ d) {S : kS} {K K' : kS → Prop} (hW : WT d S) (hk : ∀ S1, WT d S1 → K S1 → K' S1) (h : wT_X6_leave t0 a0 a1 a2 a3 S K) : wp_X6_leave t0 a0 a1 a2 a3 S K' := by
  unfold wT_X6_leave at h
  unfold wp_X6_leave
  refine ⟨hasO_of hW t_t0, ?_⟩
  intro z1 e_z1
  replace h := h z1 e_z1
  have t_z1 : ∀ b, z1 = some b → (b, Sum.inl 1) ∈ d := fun b hb => hW.2.1 41 _ b t_t0 (by rw [← e_z1]; exact hb)
  have n_z1 := wt_nn (f := 41) hW (by decide) t_t0 e_z1
  obtain ⟨q2, e_q2⟩ := n_z1
  refine ⟨q2, e_q2, ?_⟩
  replace h := h q2 e_q2
  have t_q2 := t_z1 q2 e_q2
  refine ⟨hasO_of hW t_q2, ?_⟩
  intro z3 e_z3
  replace h := h z3 e_z3
  have t_z3 : ∀ b, z3 = some b → (b, Sum.inl 5) ∈ d := fun b hb => hW.2.1 2 _ b t_q2 (by rw [← e_z3]; exact hb)
  obtain ⟨q4, e_q4, h9⟩ := h
  replace h := h9
  clear h9
  refine ⟨q4, e_q4, ?_⟩
  have t_q4 := t_z3 q4 e_q4
  refine ⟨hasO_of hW t_q4, ?_⟩
  intro z5 e_z5
  replace h := h z5 e_z5
  have t_z5 : ∀ b, z5 = some b → (b, Sum.inl 7) ∈ d := fun b hb => hW.2.1 31 _ b t_q4 (by rw [← e_z5]; exact hb)
  have n_z5 := wt_nn (f := 31) hW (by decide) t_q4 e_z5
  refine ⟨fun c => ?_, fun c => ?_⟩
  · replace h := h.1 c
    exact ty_X6_leave_22 hk t_t0 t_a0 t_z5 n_z5 hW h
  · replace h := h.2 c
    refine ⟨fun c => ?_, fun c => ?_⟩
    · replace h := h.1 c
      exact ty_X6_leave_27 hk t_t0 t_a0 t_z5 n_z5 hW h
    · replace h := h.2 c
      exact ty_X6_leave_22 hk t_t0 t_a0 t_z5 n_z5 hW h
def wT_X6_fail (t0 : Nat) (a0 : Nat) (a1 : Int32) (a2 : Int32) (S : kS) (K : kS → Prop) : Prop := ∀ z1 : Int32, z1 = S.1 30 a0 → ((¬ z1 = 5 → ∀ z3 : Option Nat, z3 = S.2.1 41 t0 → ∀ q4 : Nat, z3 = some q4 → ∀ z5 : Option Nat, z5 = S.2.1 2 q4 → ∃ q6 : Nat, z5 = some q6 ∧ ∀ z7 : Option Nat, z7 = S.2.1 30 q6 → ∀ q8 : Nat, z7 = some q8 → inR a2 8064 ∧ ∀ z9 : Int32, z9 = S.2.2.1 q8 (ix a2) → wT_X6_leave t0 a0 4 a1 z9 S (fun (S10 : kS) => K S10)) ∧ (z1 = 5 → ∀ S11 : kS, S11 = cI S 36 a0 a2 → ∀ S12 : kS, S12 = cI S11 23 t0 a1 → ∀ S13 : kS, S13 = cI S12 22 t0 2 → K S13))
theorem ty_X6_fail {d : List (Nat × cK)} {t0 : Nat} {a0 : Nat} {a1 : Int32} {a2 : Int32} (t_t0 : (t0, Sum.inl 6) ∈ d) (t_a0 : (a0, Sum.inl 9) ∈ d) {S : kS} {K K' : kS → Prop} (hW : WT d S) (hk : ∀ S1, WT d S1 → K S1 → K' S1) (h : wT_X6_fail t0 a0 a1 a2 S K) : wp_X6_fail t0 a0 a1 a2 S K' := by
  unfold wT_X6_fail at h
  unfold wp_X6_fail
  refine ⟨hasO_of hW t_a0, ?_⟩
  intro z1 e_z1
  replace h := h z1 e_z1
  refine ⟨fun c => ?_, fun c => ?_⟩
  · replace h := h.1 c
    refine ⟨hasO_of hW t_t0, ?_⟩
    intro z3 e_z3
    replace h := h z3 e_z3
    have t_z3 : ∀ b, z3 = some b → (b, Sum.inl 1) ∈ d := fun b hb => hW.2.1 41 _ b t_t0 (by rw [← e_z3]; exact hb)
    have n_z3 := wt_nn (f := 41) hW (by decide) t_t0 e_z3
    obtain ⟨q4, e_q4⟩ := n_z3
    refine ⟨q4, e_q4, ?_⟩
    replace h := h q4 e_q4
    have t_q4 := t_z3 q4 e_q4
    refine ⟨hasO_of hW t_q4, ?_⟩
    intro z5 e_z5
    replace h := h z5 e_z5
    have t_z5 : ∀ b, z5 = some b → (b, Sum.inl 5) ∈ d := fun b hb => hW.2.1 2 _ b t_q4 (by rw [← e_z5]; exact hb)
    obtain ⟨q6, e_q6, h9⟩ := h
    replace h := h9
    clear h9
    refine ⟨q6, e_q6, ?_⟩
    have t_q6 := t_z5 q6 e_q6
    refine ⟨hasO_of hW t_q6, ?_⟩
    intro z7 e_z7
    replace h := h z7 e_z7
    have t_z7 : ∀ b, z7 = some b → (b, Sum.inr (8064, 0)) ∈ d := fun b hb => hW.2.1 30 _ b t_q6 (by rw [← e_z7]; exact hb)
    have n_z7 := wt_nn (f := 30) hW (by decide) t_q6 e_z7
    obtain ⟨q8, e_q8⟩ := n_z7
    refine ⟨q8, e_q8, ?_⟩
    replace h := h q8 e_q8
    have t_q8 := t_z7 q8 e_q8
    refine ⟨hasA_of hW t_q8, ?_⟩
    have hin := h.1
    refine ⟨h.1, ?_⟩
    replace h := h.2
    intro z9 e_z9
    replace h := h z9 e_z9
    refine ⟨hasO_of hW t_t0, ?_⟩
    refine ty_X6_leave t_t0 t_a0 hW (fun S10 hW h => ?_) h
    exact hk _ hW h
  · replace h := h.2 c
    refine ⟨hasO_of hW t_a0, ?_⟩
    intro S11 e_S11
    replace h := h S11 e_S11
    replace hW := WT_i hW e_S11
    refine ⟨hasO_of hW t_t0, ?_⟩
    intro S12 e_S12
    replace h := h S12 e_S12
    replace hW := WT_i hW e_S12
    refine ⟨hasO_of hW t_t0, ?_⟩
    intro S13 e_S13
    replace h := h S13 e_S13
    replace hW := WT_i hW e_S13
    exact hk _ hW h
def wT_X6_finishEnd (t0 : Nat) (a0 : Nat) (a1 : Int32) (S : kS) (K : kS → Prop) : Prop := ∀ z1 : Option Nat, z1 = S.2.1 41 t0 → ∀ q2 : Nat, z1 = some q2 → ∀ z3 : Option Nat, z3 = S.2.1 2 q2 → ∃ q4 : Nat, z3 = some q4 ∧ ∀ z5 : Option Nat, z5 = S.2.1 31 q4 → ∀ q6 : Nat, z5 = some q6 → ∀ z7 : Option Nat, z7 = S.2.1 44 q6 → ∀ q8 : Nat, z7 = some q8 → inR a1 460 ∧ ∀ z9 : Int32, z9 = S.2.2.1 q8 (ix a1) → ∀ z10 : Option Nat, z10 = S.2.1 59 a0 → ∀ q11 : Nat, z10 = some q11 → inR z9 10 ∧ ∀ z12 : Int32, z12 = S.2.2.1 q11 (ix z9) → ((¬ z12 = 0 → ∀ z14 : Option Nat, z14 = S.2.1 59 a0 → ∀ q15 : Nat, z14 = some q15 → inR z9 10 ∧ ∀ z16 : Int32, z16 = S.2.2.1 q15 (ix z9) → ∀ z17 : Option Nat, z17 = S.2.1 60 a0 → ∀ q18 : Nat, z17 = some q18 → inR z9 10 ∧ ∀ z19 : Int32, z19 = S.2.2.1 q18 (ix z9) → ∀ z20 : Option Nat, z20 = S.2.1 43 q6 → ∀ q21 : Nat, z20 = some q21 → inR a1 460 ∧ ∀ z22 : Int32, z22 = S.2.2.1 q21 (ix a1) → wT_X6_leave t0 a0 z16 z19 z22 S (fun (S23 : kS) => K S23)) ∧ (z12 = 0 → ∀ z24 : Option Nat, z24 = S.2.1 48 q6 → ∀ q25 : Nat, z24 = some q25 → inR a1 460 ∧ ∀ z26 : Int32, z26 = S.2.2.1 q25 (ix a1) → ∀ S27 : kS, S27 = cI S 36 a0 z26 → K S27))
theorem ty_X6_finishEnd {d : List (Nat × cK)} {t0 : Nat} {a0 : Nat} {a1 : Int32} (t_t0 : (t0, Sum.inl 6) ∈ d) (t_a0 : (a0, Sum.inl 9) ∈ d) {S : kS} {K K' : kS → Prop} (hW : WT d S) (hk : ∀ S1, WT d S1 → K S1 → K' S1) (h : wT_X6_finishEnd t0 a0 a1 S K) : wp_X6_finishEnd t0 a0 a1 S K' := by
  unfold wT_X6_finishEnd at h
  unfold wp_X6_finishEnd
  refine ⟨hasO_of hW t_t0, ?_⟩
  intro z1 e_z1
  replace h := h z1 e_z1
  have t_z1 : ∀ b, z1 = some b → (b, Sum.inl 1) ∈ d := fun b hb => hW.2.1 41 _ b t_t0 (by rw [← e_z1]; exact hb)
  have n_z1 := wt_nn (f := 41) hW (by decide) t_t0 e_z1
  obtain ⟨q2, e_q2⟩ := n_z1
  refine ⟨q2, e_q2, ?_⟩
  replace h := h q2 e_q2
  have t_q2 := t_z1 q2 e_q2
  refine ⟨hasO_of hW t_q2, ?_⟩
  intro z3 e_z3
  replace h := h z3 e_z3
  have t_z3 : ∀ b, z3 = some b → (b, Sum.inl 5) ∈ d := fun b hb => hW.2.1 2 _ b t_q2 (by rw [← e_z3]; exact hb)
  obtain ⟨q4, e_q4, h9⟩ := h
  replace h := h9
  clear h9
  refine ⟨q4, e_q4, ?_⟩
  have t_q4 := t_z3 q4 e_q4
  refine ⟨hasO_of hW t_q4, ?_⟩
  intro z5 e_z5
  replace h := h z5 e_z5
  have t_z5 : ∀ b, z5 = some b → (b, Sum.inl 7) ∈ d := fun b hb => hW.2.1 31 _ b t_q4 (by rw [← e_z5]; exact hb)
  have n_z5 := wt_nn (f := 31) hW (by decide) t_q4 e_z5
  obtain ⟨q6, e_q6⟩ := n_z5
  refine ⟨q6, e_q6, ?_⟩
  replace h := h q6 e_q6
  have t_q6 := t_z5 q6 e_q6
  refine ⟨hasO_of hW t_q6, ?_⟩
  intro z7 e_z7
  replace h := h z7 e_z7
  have t_z7 : ∀ b, z7 = some b → (b, Sum.inr (460, 0)) ∈ d := fun b hb => hW.2.1 44 _ b t_q6 (by rw [← e_z7]; exact hb)
  have n_z7 := wt_nn (f := 44) hW (by decide) t_q6 e_z7
  obtain ⟨q8, e_q8⟩ := n_z7
  refine ⟨q8, e_q8, ?_⟩
  replace h := h q8 e_q8
  have t_q8 := t_z7 q8 e_q8
  refine ⟨hasA_of hW t_q8, ?_⟩
  have hin := h.1
  refine ⟨h.1, ?_⟩
  replace h := h.2
  intro z9 e_z9
  replace h := h z9 e_z9
  refine ⟨hasO_of hW t_a0, ?_⟩
  intro z10 e_z10
  replace h := h z10 e_z10
  have t_z10 : ∀ b, z10 = some b → (b, Sum.inr (10, 0)) ∈ d := fun b hb => hW.2.1 59 _ b t_a0 (by rw [← e_z10]; exact hb)
  have n_z10 := wt_nn (f := 59) hW (by decide) t_a0 e_z10
  obtain ⟨q11, e_q11⟩ := n_z10
  refine ⟨q11, e_q11, ?_⟩
  replace h := h q11 e_q11
  have t_q11 := t_z10 q11 e_q11
  refine ⟨hasA_of hW t_q11, ?_⟩
  have hin := h.1
  refine ⟨h.1, ?_⟩
  replace h := h.2
  intro z12 e_z12
  replace h := h z12 e_z12
  refine ⟨fun c => ?_, fun c => ?_⟩
  · replace h := h.1 c
    refine ⟨hasO_of hW t_a0, ?_⟩
    intro z14 e_z14
    replace h := h z14 e_z14
    have t_z14 : ∀ b, z14 = some b → (b, Sum.inr (10, 0)) ∈ d := fun b hb => hW.2.1 59 _ b t_a0 (by rw [← e_z14]; exact hb)
    have n_z14 := wt_nn (f := 59) hW (by decide) t_a0 e_z14
    obtain ⟨q15, e_q15⟩ := n_z14
    refine ⟨q15, e_q15, ?_⟩
    replace h := h q15 e_q15
    have t_q15 := t_z14 q15 e_q15
    refine ⟨hasA_of hW t_q15, ?_⟩
    have hin := h.1
    refine ⟨h.1, ?_⟩
    replace h := h.2
    intro z16 e_z16
    replace h := h z16 e_z16
    refine ⟨hasO_of hW t_a0, ?_⟩
    intro z17 e_z17
    replace h := h z17 e_z17
    have t_z17 : ∀ b, z17 = some b → (b, Sum.inr (10, 0)) ∈ d := fun b hb => hW.2.1 60 _ b t_a0 (by rw [← e_z17]; exact hb)
    have n_z17 := wt_nn (f := 60) hW (by decide) t_a0 e_z17
    obtain ⟨q18, e_q18⟩ := n_z17
    refine ⟨q18, e_q18, ?_⟩
    replace h := h q18 e_q18
    have t_q18 := t_z17 q18 e_q18
    refine ⟨hasA_of hW t_q18, ?_⟩
    have hin := h.1
    refine ⟨h.1, ?_⟩
    replace h := h.2
    intro z19 e_z19
    replace h := h z19 e_z19
    refine ⟨hasO_of hW t_q6, ?_⟩
    intro z20 e_z20
    replace h := h z20 e_z20
    have t_z20 : ∀ b, z20 = some b → (b, Sum.inr (460, 0)) ∈ d := fun b hb => hW.2.1 43 _ b t_q6 (by rw [← e_z20]; exact hb)
    have n_z20 := wt_nn (f := 43) hW (by decide) t_q6 e_z20
    obtain ⟨q21, e_q21⟩ := n_z20
    refine ⟨q21, e_q21, ?_⟩
    replace h := h q21 e_q21
    have t_q21 := t_z20 q21 e_q21
    refine ⟨hasA_of hW t_q21, ?_⟩
    have hin := h.1
    refine ⟨h.1, ?_⟩
    replace h := h.2
    intro z22 e_z22
    replace h := h z22 e_z22
    refine ⟨hasO_of hW t_t0, ?_⟩
    refine ty_X6_leave t_t0 t_a0 hW (fun S23 hW h => ?_) h
    exact hk _ hW h
  · replace h := h.2 c
    refine ⟨hasO_of hW t_q6, ?_⟩
    intro z24 e_z24
    replace h := h z24 e_z24
    have t_z24 : ∀ b, z24 = some b → (b, Sum.inr (460, 0)) ∈ d := fun b hb => hW.2.1 48 _ b t_q6 (by rw [← e_z24]; exact hb)
    have n_z24 := wt_nn (f := 48) hW (by decide) t_q6 e_z24
    obtain ⟨q25, e_q25⟩ := n_z24
    refine ⟨q25, e_q25, ?_⟩
    replace h := h q25 e_q25
    have t_q25 := t_z24 q25 e_q25
    refine ⟨hasA_of hW t_q25, ?_⟩
    have hin := h.1
    refine ⟨h.1, ?_⟩
    replace h := h.2
    intro z26 e_z26
    replace h := h z26 e_z26
    refine ⟨hasO_of hW t_a0, ?_⟩
    intro S27 e_S27
    replace h := h S27 e_S27
    replace hW := WT_i hW e_S27
    exact hk _ hW h
def wT_X6_pop (t0 : Nat) (S : kS) (K : kS → Int32 → Prop) : Prop := ∀ z1 : Int32, z1 = S.1 21 t0 → ((¬ z1 = 0 → ∀ z3 : Int32, z3 = S.1 21 t0 → ∀ z4 : Int32, z4 = z3 - 1 → ∀ S5 : kS, S5 = cI S 21 t0 z4 → ∀ z6 : Option Nat, z6 = S5.2.1 42 t0 → ∀ z7 : Int32, z7 = S5.1 21 t0 → ∀ q8 : Nat, z6 = some q8 → inR z7 64 ∧ ∀ z9 : Int32, z9 = S5.2.2.1 q8 (ix z7) → K S5 z9) ∧ (z1 = 0 → K S 0))
theorem ty_X6_pop {d : List (Nat × cK)} {t0 : Nat} (t_t0 : (t0, Sum.inl 6) ∈ d) {S : kS} {K K' : kS → Int32 → Prop} (hW : WT d S) (hk : ∀ S1 r1, WT d S1 → K S1 r1 → K' S1 r1) (h : wT_X6_pop t0 S K) : wp_X6_pop t0 S K' := by
  unfold wT_X6_pop at h
  unfold wp_X6_pop
  refine ⟨hasO_of hW t_t0, ?_⟩
  intro z1 e_z1
  replace h := h z1 e_z1
  refine ⟨fun c => ?_, fun c => ?_⟩
  · replace h := h.1 c
    refine ⟨hasO_of hW t_t0, ?_⟩
    intro z3 e_z3
    replace h := h z3 e_z3
    intro z4 e_z4
    replace h := h z4 e_z4
    refine ⟨hasO_of hW t_t0, ?_⟩
    intro S5 e_S5
    replace h := h S5 e_S5
    replace hW := WT_i hW e_S5
    refine ⟨hasO_of hW t_t0, ?_⟩
    intro z6 e_z6
    replace h := h z6 e_z6
    have t_z6 : ∀ b, z6 = some b → (b, Sum.inr (64, 0)) ∈ d := fun b hb => hW.2.1 42 _ b t_t0 (by rw [← e_z6]; exact hb)
    have n_z6 := wt_nn (f := 42) hW (by decide) t_t0 e_z6
    refine ⟨hasO_of hW t_t0, ?_⟩
    intro z7 e_z7
    replace h := h z7 e_z7
    obtain ⟨q8, e_q8⟩ := n_z6
    refine ⟨q8, e_q8, ?_⟩
    replace h := h q8 e_q8
    have t_q8 := t_z6 q8 e_q8
    refine ⟨hasA_of hW t_q8, ?_⟩
    have hin := h.1
    refine ⟨h.1, ?_⟩
    replace h := h.2
    intro z9 e_z9
    replace h := h z9 e_z9
    exact hk _ _ hW h
  · replace h := h.2 c
    exact hk _ _ hW h
def wT_X9_set (t0 : Nat) (a0 : Int32) (a1 : Int32) (S : kS) (K : kS → Prop) : Prop := ((a0 < 0 → K S) ∧ (¬ a0 < 0 → ((12 ≤ a0 → K S) ∧ (¬ 12 ≤ a0 → ∀ z3 : Option Nat, z3 = S.2.1 58 t0 → ∀ q4 : Nat, z3 = some q4 → inR a0 12 ∧ ∀ S5 : kS, S5 = cA S q4 (ix a0) a1 → K S5))))
theorem ty_X9_set {d : List (Nat × cK)} {t0 : Nat} {a0 : Int32} {a1 : Int32} (t_t0 : (t0, Sum.inl 9) ∈ d) {S : kS} {K K' : kS → Prop} (hW : WT d S) (hk : ∀ S1, WT d S1 → K S1 → K' S1) (h : wT_X9_set t0 a0 a1 S K) : wp_X9_set t0 a0 a1 S K' := by
  unfold wT_X9_set at h
  unfold wp_X9_set
  refine ⟨fun c => ?_, fun c => ?_⟩
  · replace h := h.1 c
    exact hk _ hW h
  · replace h := h.2 c
    refine ⟨fun c => ?_, fun c => ?_⟩
    · replace h := h.1 c
      exact hk _ hW h
    · replace h := h.2 c
      refine ⟨hasO_of hW t_t0, ?_⟩
      intro z3 e_z3
      replace h := h z3 e_z3
      have t_z3 : ∀ b, z3 = some b → (b, Sum.inr (12, 0)) ∈ d := fun b hb => hW.2.1 58 _ b t_t0 (by rw [← e_z3]; exact hb)
      have n_z3 := wt_nn (f := 58) hW (by decide) t_t0 e_z3
      obtain ⟨q4, e_q4⟩ := n_z3
      refine ⟨q4, e_q4, ?_⟩
      replace h := h q4 e_q4
      have t_q4 := t_z3 q4 e_q4
      refine ⟨hasA_of hW t_q4, ?_⟩
      have hin := h.1
      refine ⟨h.1, ?_⟩
      replace h := h.2
      intro S5 e_S5
      replace h := h S5 e_S5
      replace hW := WT_a hW e_S5
      exact hk _ hW h
def wT_X6_flow (t0 : Nat) (a0 : Nat) (a1 : Int32) (a2 : Int32) (S : kS) (K : kS → Prop) : Prop := ∀ z1 : Option Nat, z1 = S.2.1 41 t0 → ∀ q2 : Nat, z1 = some q2 → ∀ z3 : Option Nat, z3 = S.2.1 2 q2 → ∃ q4 : Nat, z3 = some q4 ∧ ∀ z5 : Option Nat, z5 = S.2.1 31 q4 → ∀ z6 : Option Nat, z6 = S.2.1 29 q4 → ∀ q7 : Nat, z6 = some q7 → inR a2 8064 ∧ ∀ z8 : Int32, z8 = S.2.2.1 q7 (ix a2) → ((a1 = 13 → wT_X6_pop t0 S (fun (S10 : kS) (r10 : Int32) => wT_X9_set a0 z8 r10 S10 (fun (S11 : kS) => K S11))) ∧ (¬ a1 = 13 → ((a1 = 14 → ∀ z13 : Option Nat, z13 = S.2.1 40 t0 → ∀ z14 : Int32, z14 = S.1 28 a0 → wT_X6_pop t0 S (fun (S15 : kS) (r15 : Int32) => ∀ q16 : Nat, z13 = some q16 → wT_X0_note q16 z14 r15 S15 (fun (S17 : kS) => K S17))) ∧ (¬ a1 = 14 → ((a1 = 15 → wT_X6_pop t0 S (fun (S19 : kS) (r19 : Int32) => ((¬ r19 = 0 → ∀ z21 : Int32, z21 = a2 + 1 → ∀ S22 : kS, S22 = cI S19 36 a0 z21 → K S22) ∧ (r19 = 0 → ∀ S23 : kS, S23 = cI S19 36 a0 z8 → K S23)))) ∧ (¬ a1 = 15 → ((a1 = 16 → ∀ S25 : kS, S25 = cI S 36 a0 z8 → K S25) ∧ (¬ a1 = 16 → ((a1 = 17 → ∀ z27 : Option Nat, z27 = S.2.1 30 q4 → ∀ q28 : Nat, z27 = some q28 → inR a2 8064 ∧ ∀ z29 : Int32, z29 = S.2.2.1 q28 (ix a2) → wT_X6_leave t0 a0 1 z8 z29 S (fun (S30 : kS) => K S30)) ∧ (¬ a1 = 17 → ((a1 = 18 → ∀ z32 : Option Nat, z32 = S.2.1 30 q4 → ∀ q33 : Nat, z32 = some q33 → inR a2 8064 ∧ ∀ z34 : Int32, z34 = S.2.2.1 q33 (ix a2) → wT_X6_leave t0 a0 2 z8 z34 S (fun (S35 : kS) => K S35)) ∧ (¬ a1 = 18 → ((a1 = 19 → wT_X6_pop t0 S (fun (S37 : kS) (r37 : Int32) => ∀ z38 : Option Nat, z38 = S37.2.1 30 q4 → ∀ q39 : Nat, z38 = some q39 → inR a2 8064 ∧ ∀ z40 : Int32, z40 = S37.2.2.1 q39 (ix a2) → wT_X6_leave t0 a0 3 r37 z40 S37 (fun (S41 : kS) => K S41))) ∧ (¬ a1 = 19 → ((a1 = 20 → wT_X6_fail t0 a0 z8 a2 S (fun (S43 : kS) => K S43)) ∧ (¬ a1 = 20 → ((a1 = 21 → ∀ q45 : Nat, z5 = some q45 → wT_X7_is q45 z8 2 S (fun (S46 : kS) (r46 : Int32) => ((r46 = 0 → ∀ z48 : Option Nat, z48 = S46.2.1 48 q45 → ∀ q49 : Nat, z48 = some q49 → inR z8 460 ∧ ∀ z50 : Int32, z50 = S46.2.2.1 q49 (ix z8) → ∀ S51 : kS, S51 = cI S46 36 a0 z50 → K S51) ∧ (¬ r46 = 0 → ∀ z52 : Option Nat, z52 = S46.2.1 59 a0 → ∀ z53 : Option Nat, z53 = S46.2.1 44 q45 → ∀ q54 : Nat, z53 = some q54 → inR z8 460 ∧ ∀ z55 : Int32, z55 = S46.2.2.1 q54 (ix z8) → ∀ q56 : Nat, z52 = some q56 → inR z55 10 ∧ ∀ S57 : kS, S57 = cA S46 q56 (ix z55) 0 → ∀ z58 : Option Nat, z58 = S57.2.1 47 q45 → ∀ q59 : Nat, z58 = some q59 → inR z8 460 ∧ ∀ z60 : Int32, z60 = S57.2.2.1 q59 (ix z8) → ∀ S61 : kS, S61 = cI S57 36 a0 z60 → K S61)))) ∧ (¬ a1 = 21 → ((a1 = 22 → ∀ z63 : Int32, z63 = S.1 23 t0 → wT_X9_set a0 z8 z63 S (fun (S64 : kS) => K S64)) ∧ (¬ a1 = 22 → ((a1 = 23 → wT_X6_finishEnd t0 a0 z8 S (fun (S66 : kS) => K S66)) ∧ (¬ a1 = 23 → wT_X6_end t0 a0 0 0 S (fun (S67 : kS) => K S67)))))))))))))))))))))))
theorem ty_X6_flow {d : List (Nat × cK)} {t0 : Nat} {a0 : Nat} {a1 : Int32} {a2 : Int32} (t_t0 : (t0, Sum.inl 6) ∈ d) (t_a0 : (a0, Sum.inl 9) ∈ d) {S : kS} {K K' : kS → Prop} (hW : WT d S) (hk : ∀ S1, WT d S1 → K S1 → K' S1) (h : wT_X6_flow t0 a0 a1 a2 S K) : wp_X6_flow t0 a0 a1 a2 S K' := by
  unfold wT_X6_flow at h
  unfold wp_X6_flow
  refine ⟨hasO_of hW t_t0, ?_⟩
  intro z1 e_z1
  replace h := h z1 e_z1
  have t_z1 : ∀ b, z1 = some b → (b, Sum.inl 1) ∈ d := fun b hb => hW.2.1 41 _ b t_t0 (by rw [← e_z1]; exact hb)
  have n_z1 := wt_nn (f := 41) hW (by decide) t_t0 e_z1
  obtain ⟨q2, e_q2⟩ := n_z1
  refine ⟨q2, e_q2, ?_⟩
  replace h := h q2 e_q2
  have t_q2 := t_z1 q2 e_q2
  refine ⟨hasO_of hW t_q2, ?_⟩
  intro z3 e_z3
  replace h := h z3 e_z3
  have t_z3 : ∀ b, z3 = some b → (b, Sum.inl 5) ∈ d := fun b hb => hW.2.1 2 _ b t_q2 (by rw [← e_z3]; exact hb)
  obtain ⟨q4, e_q4, h9⟩ := h
  replace h := h9
  clear h9
  refine ⟨q4, e_q4, ?_⟩
  have t_q4 := t_z3 q4 e_q4
  refine ⟨hasO_of hW t_q4, ?_⟩
  intro z5 e_z5
  replace h := h z5 e_z5
  have t_z5 : ∀ b, z5 = some b → (b, Sum.inl 7) ∈ d := fun b hb => hW.2.1 31 _ b t_q4 (by rw [← e_z5]; exact hb)
  have n_z5 := wt_nn (f := 31) hW (by decide) t_q4 e_z5
  refine ⟨hasO_of hW t_q4, ?_⟩
  intro z6 e_z6
  replace h := h z6 e_z6
  have t_z6 : ∀ b, z6 = some b → (b, Sum.inr (8064, 0)) ∈ d := fun b hb => hW.2.1 29 _ b t_q4 (by rw [← e_z6]; exact hb)
  have n_z6 := wt_nn (f := 29) hW (by decide) t_q4 e_z6
  obtain ⟨q7, e_q7⟩ := n_z6
  refine ⟨q7, e_q7, ?_⟩
  replace h := h q7 e_q7
  have t_q7 := t_z6 q7 e_q7
  refine ⟨hasA_of hW t_q7, ?_⟩
  have hin := h.1
  refine ⟨h.1, ?_⟩
  replace h := h.2
  intro z8 e_z8
  replace h := h z8 e_z8
  refine ⟨fun c => ?_, fun c => ?_⟩
  · replace h := h.1 c
    refine ⟨hasO_of hW t_t0, ?_⟩
    refine ty_X6_pop t_t0 hW (fun S10 r10 hW h => ?_) h
    refine ⟨hasO_of hW t_a0, ?_⟩
    refine ty_X9_set t_a0 hW (fun S11 hW h => ?_) h
    exact hk _ hW h
  · replace h := h.2 c
    refine ⟨fun c => ?_, fun c => ?_⟩
    · replace h := h.1 c
      refine ⟨hasO_of hW t_t0, ?_⟩
      intro z13 e_z13
      replace h := h z13 e_z13
      have t_z13 : ∀ b, z13 = some b → (b, Sum.inl 0) ∈ d := fun b hb => hW.2.1 40 _ b t_t0 (by rw [← e_z13]; exact hb)
      have n_z13 := wt_nn (f := 40) hW (by decide) t_t0 e_z13
      refine ⟨hasO_of hW t_a0, ?_⟩
      intro z14 e_z14
      replace h := h z14 e_z14
      refine ⟨hasO_of hW t_t0, ?_⟩
      refine ty_X6_pop t_t0 hW (fun S15 r15 hW h => ?_) h
      obtain ⟨q16, e_q16⟩ := n_z13
      refine ⟨q16, e_q16, ?_⟩
      replace h := h q16 e_q16
      have t_q16 := t_z13 q16 e_q16
      refine ⟨hasO_of hW t_q16, ?_⟩
      refine ty_X0_note t_q16 hW (fun S17 hW h => ?_) h
      exact hk _ hW h
    · replace h := h.2 c
      refine ⟨fun c => ?_, fun c => ?_⟩
      · replace h := h.1 c
        refine ⟨hasO_of hW t_t0, ?_⟩
        refine ty_X6_pop t_t0 hW (fun S19 r19 hW h => ?_) h
        refine ⟨fun c => ?_, fun c => ?_⟩
        · replace h := h.1 c
          intro z21 e_z21
          replace h := h z21 e_z21
          refine ⟨hasO_of hW t_a0, ?_⟩
          intro S22 e_S22
          replace h := h S22 e_S22
          replace hW := WT_i hW e_S22
          exact hk _ hW h
        · replace h := h.2 c
          refine ⟨hasO_of hW t_a0, ?_⟩
          intro S23 e_S23
          replace h := h S23 e_S23
          replace hW := WT_i hW e_S23
          exact hk _ hW h
      · replace h := h.2 c
        refine ⟨fun c => ?_, fun c => ?_⟩
        · replace h := h.1 c
          refine ⟨hasO_of hW t_a0, ?_⟩
          intro S25 e_S25
          replace h := h S25 e_S25
          replace hW := WT_i hW e_S25
          exact hk _ hW h
        · replace h := h.2 c
          refine ⟨fun c => ?_, fun c => ?_⟩
          · replace h := h.1 c
            refine ⟨hasO_of hW t_q4, ?_⟩
            intro z27 e_z27
            replace h := h z27 e_z27
            have t_z27 : ∀ b, z27 = some b → (b, Sum.inr (8064, 0)) ∈ d := fun b hb => hW.2.1 30 _ b t_q4 (by rw [← e_z27]; exact hb)
            have n_z27 := wt_nn (f := 30) hW (by decide) t_q4 e_z27
            obtain ⟨q28, e_q28⟩ := n_z27
            refine ⟨q28, e_q28, ?_⟩
            replace h := h q28 e_q28
            have t_q28 := t_z27 q28 e_q28
            refine ⟨hasA_of hW t_q28, ?_⟩
            have hin := h.1
            refine ⟨h.1, ?_⟩
            replace h := h.2
            intro z29 e_z29
            replace h := h z29 e_z29
            refine ⟨hasO_of hW t_t0, ?_⟩
            refine ty_X6_leave t_t0 t_a0 hW (fun S30 hW h => ?_) h
            exact hk _ hW h
          · replace h := h.2 c
            refine ⟨fun c => ?_, fun c => ?_⟩
            · replace h := h.1 c
              refine ⟨hasO_of hW t_q4, ?_⟩
              intro z32 e_z32
              replace h := h z32 e_z32
              have t_z32 : ∀ b, z32 = some b → (b, Sum.inr (8064, 0)) ∈ d := fun b hb => hW.2.1 30 _ b t_q4 (by rw [← e_z32]; exact hb)
              have n_z32 := wt_nn (f := 30) hW (by decide) t_q4 e_z32
              obtain ⟨q33, e_q33⟩ := n_z32
              refine ⟨q33, e_q33, ?_⟩
              replace h := h q33 e_q33
              have t_q33 := t_z32 q33 e_q33
              refine ⟨hasA_of hW t_q33, ?_⟩
              have hin := h.1
              refine ⟨h.1, ?_⟩
              replace h := h.2
              intro z34 e_z34
              replace h := h z34 e_z34
              refine ⟨hasO_of hW t_t0, ?_⟩
              refine ty_X6_leave t_t0 t_a0 hW (fun S35 hW h => ?_) h
              exact hk _ hW h
            · replace h := h.2 c
              refine ⟨fun c => ?_, fun c => ?_⟩
              · replace h := h.1 c
                refine ⟨hasO_of hW t_t0, ?_⟩
                refine ty_X6_pop t_t0 hW (fun S37 r37 hW h => ?_) h
                refine ⟨hasO_of hW t_q4, ?_⟩
                intro z38 e_z38
                replace h := h z38 e_z38
                have t_z38 : ∀ b, z38 = some b → (b, Sum.inr (8064, 0)) ∈ d := fun b hb => hW.2.1 30 _ b t_q4 (by rw [← e_z38]; exact hb)
                have n_z38 := wt_nn (f := 30) hW (by decide) t_q4 e_z38
                obtain ⟨q39, e_q39⟩ := n_z38
                refine ⟨q39, e_q39, ?_⟩
                replace h := h q39 e_q39
                have t_q39 := t_z38 q39 e_q39
                refine ⟨hasA_of hW t_q39, ?_⟩
                have hin := h.1
                refine ⟨h.1, ?_⟩
                replace h := h.2
                intro z40 e_z40
                replace h := h z40 e_z40
                refine ⟨hasO_of hW t_t0, ?_⟩
                refine ty_X6_leave t_t0 t_a0 hW (fun S41 hW h => ?_) h
                exact hk _ hW h
              · replace h := h.2 c
                refine ⟨fun c => ?_, fun c => ?_⟩
                · replace h := h.1 c
                  refine ⟨hasO_of hW t_t0, ?_⟩
                  refine ty_X6_fail t_t0 t_a0 hW (fun S43 hW h => ?_) h
                  exact hk _ hW h
                · replace h := h.2 c
                  refine ⟨fun c => ?_, fun c => ?_⟩
                  · replace h := h.1 c
                    obtain ⟨q45, e_q45⟩ := n_z5
                    refine ⟨q45, e_q45, ?_⟩
                    replace h := h q45 e_q45
                    have t_q45 := t_z5 q45 e_q45
                    refine ⟨hasO_of hW t_q45, ?_⟩
                    refine ty_X7_is t_q45 hW (fun S46 r46 hW h => ?_) h
                    refine ⟨fun c => ?_, fun c => ?_⟩
                    · replace h := h.1 c
                      refine ⟨hasO_of hW t_q45, ?_⟩
                      intro z48 e_z48
                      replace h := h z48 e_z48
                      have t_z48 : ∀ b, z48 = some b → (b, Sum.inr (460, 0)) ∈ d := fun b hb => hW.2.1 48 _ b t_q45 (by rw [← e_z48]; exact hb)
                      have n_z48 := wt_nn (f := 48) hW (by decide) t_q45 e_z48
                      obtain ⟨q49, e_q49⟩ := n_z48
                      refine ⟨q49, e_q49, ?_⟩
                      replace h := h q49 e_q49
                      have t_q49 := t_z48 q49 e_q49
                      refine ⟨hasA_of hW t_q49, ?_⟩
                      have hin := h.1
                      refine ⟨h.1, ?_⟩
                      replace h := h.2
                      intro z50 e_z50
                      replace h := h z50 e_z50
                      refine ⟨hasO_of hW t_a0, ?_⟩
                      intro S51 e_S51
                      replace h := h S51 e_S51
                      replace hW := WT_i hW e_S51
                      exact hk _ hW h
                    · replace h := h.2 c
                      refine ⟨hasO_of hW t_a0, ?_⟩
                      intro z52 e_z52
                      replace h := h z52 e_z52
                      have t_z52 : ∀ b, z52 = some b → (b, Sum.inr (10, 0)) ∈ d := fun b hb => hW.2.1 59 _ b t_a0 (by rw [← e_z52]; exact hb)
                      have n_z52 := wt_nn (f := 59) hW (by decide) t_a0 e_z52
                      refine ⟨hasO_of hW t_q45, ?_⟩
                      intro z53 e_z53
                      replace h := h z53 e_z53
                      have t_z53 : ∀ b, z53 = some b → (b, Sum.inr (460, 0)) ∈ d := fun b hb => hW.2.1 44 _ b t_q45 (by rw [← e_z53]; exact hb)
                      have n_z53 := wt_nn (f := 44) hW (by decide) t_q45 e_z53
                      obtain ⟨q54, e_q54⟩ := n_z53
                      refine ⟨q54, e_q54, ?_⟩
                      replace h := h q54 e_q54
                      have t_q54 := t_z53 q54 e_q54
                      refine ⟨hasA_of hW t_q54, ?_⟩
                      have hin := h.1
                      refine ⟨h.1, ?_⟩
                      replace h := h.2
                      intro z55 e_z55
                      replace h := h z55 e_z55
                      obtain ⟨q56, e_q56⟩ := n_z52
                      refine ⟨q56, e_q56, ?_⟩
                      replace h := h q56 e_q56
                      have t_q56 := t_z52 q56 e_q56
                      refine ⟨hasA_of hW t_q56, ?_⟩
                      have hin := h.1
                      refine ⟨h.1, ?_⟩
                      replace h := h.2
                      intro S57 e_S57
                      replace h := h S57 e_S57
                      replace hW := WT_a hW e_S57
                      refine ⟨hasO_of hW t_q45, ?_⟩
                      intro z58 e_z58
                      replace h := h z58 e_z58
                      have t_z58 : ∀ b, z58 = some b → (b, Sum.inr (460, 0)) ∈ d := fun b hb => hW.2.1 47 _ b t_q45 (by rw [← e_z58]; exact hb)
                      have n_z58 := wt_nn (f := 47) hW (by decide) t_q45 e_z58
                      obtain ⟨q59, e_q59⟩ := n_z58
                      refine ⟨q59, e_q59, ?_⟩
                      replace h := h q59 e_q59
                      have t_q59 := t_z58 q59 e_q59
                      refine ⟨hasA_of hW t_q59, ?_⟩
                      have hin := h.1
                      refine ⟨h.1, ?_⟩
                      replace h := h.2
                      intro z60 e_z60
                      replace h := h z60 e_z60
                      refine ⟨hasO_of hW t_a0, ?_⟩
                      intro S61 e_S61
                      replace h := h S61 e_S61
                      replace hW := WT_i hW e_S61
                      exact hk _ hW h
                  · replace h := h.2 c
                    refine ⟨fun c => ?_, fun c => ?_⟩
                    · replace h := h.1 c
                      refine ⟨hasO_of hW t_t0, ?_⟩
                      intro z63 e_z63
                      replace h := h z63 e_z63
                      refine ⟨hasO_of hW t_a0, ?_⟩
                      refine ty_X9_set t_a0 hW (fun S64 hW h => ?_) h
                      exact hk _ hW h
                    · replace h := h.2 c
                      refine ⟨fun c => ?_, fun c => ?_⟩
                      · replace h := h.1 c
                        refine ⟨hasO_of hW t_t0, ?_⟩
                        refine ty_X6_finishEnd t_t0 t_a0 hW (fun S66 hW h => ?_) h
                        exact hk _ hW h
                      · replace h := h.2 c
                        refine ⟨hasO_of hW t_t0, ?_⟩
                        refine ty_X6_end t_t0 t_a0 hW (fun S67 hW h => ?_) h
                        exact hk _ hW h
def wT_X6_push (t0 : Nat) (a0 : Int32) (S : kS) (K : kS → Prop) : Prop := ∀ z1 : Int32, z1 = S.1 21 t0 → ((64 ≤ z1 → K S) ∧ (¬ 64 ≤ z1 → ∀ z3 : Option Nat, z3 = S.2.1 42 t0 → ∀ z4 : Int32, z4 = S.1 21 t0 → ∀ q5 : Nat, z3 = some q5 → inR z4 64 ∧ ∀ S6 : kS, S6 = cA S q5 (ix z4) a0 → ∀ z7 : Int32, z7 = S6.1 21 t0 → ∀ z8 : Int32, z8 = z7 + 1 → ∀ S9 : kS, S9 = cI S6 21 t0 z8 → K S9))
theorem ty_X6_push {d : List (Nat × cK)} {t0 : Nat} {a0 : Int32} (t_t0 : (t0, Sum.inl 6) ∈ d) {S : kS} {K K' : kS → Prop} (hW : WT d S) (hk : ∀ S1, WT d S1 → K S1 → K' S1) (h : wT_X6_push t0 a0 S K) : wp_X6_push t0 a0 S K' := by
  unfold wT_X6_push at h
  unfold wp_X6_push
  refine ⟨hasO_of hW t_t0, ?_⟩
  intro z1 e_z1
  replace h := h z1 e_z1
  refine ⟨fun c => ?_, fun c => ?_⟩
  · replace h := h.1 c
    exact hk _ hW h
  · replace h := h.2 c
    refine ⟨hasO_of hW t_t0, ?_⟩
    intro z3 e_z3
    replace h := h z3 e_z3
    have t_z3 : ∀ b, z3 = some b → (b, Sum.inr (64, 0)) ∈ d := fun b hb => hW.2.1 42 _ b t_t0 (by rw [← e_z3]; exact hb)
    have n_z3 := wt_nn (f := 42) hW (by decide) t_t0 e_z3
    refine ⟨hasO_of hW t_t0, ?_⟩
    intro z4 e_z4
    replace h := h z4 e_z4
    obtain ⟨q5, e_q5⟩ := n_z3
    refine ⟨q5, e_q5, ?_⟩
    replace h := h q5 e_q5
    have t_q5 := t_z3 q5 e_q5
    refine ⟨hasA_of hW t_q5, ?_⟩
    have hin := h.1
    refine ⟨h.1, ?_⟩
    replace h := h.2
    intro S6 e_S6
    replace h := h S6 e_S6
    replace hW := WT_a hW e_S6
    refine ⟨hasO_of hW t_t0, ?_⟩
    intro z7 e_z7
    replace h := h z7 e_z7
    intro z8 e_z8
    replace h := h z8 e_z8
    refine ⟨hasO_of hW t_t0, ?_⟩
    intro S9 e_S9
    replace h := h S9 e_S9
    replace hW := WT_i hW e_S9
    exact hk _ hW h
def wT_X6_join_166 (K : kS → Prop) (y0 : Nat) (y1 : Int32) (S : kS) : Prop := wT_X6_push y0 y1 S (fun (S35 : kS) => K S35)
def wT_X6_join_124 (K : kS → Prop) (y0 : Nat) (y1 : Int32) (S : kS) : Prop := wT_X6_push y0 y1 S (fun (S33 : kS) => K S33)
def wT_X6_join_105 (K : kS → Prop) (y0 : Nat) (y1 : Int32) (S : kS) : Prop := wT_X6_push y0 y1 S (fun (S34 : kS) => K S34)
def wT_X6_join (t0 : Nat) (a0 : Nat) (a1 : Int32) (a2 : Int32) (S : kS) (K : kS → Prop) : Prop := wT_X6_pop t0 S (fun (S1 : kS) (r1 : Int32) => wT_X6_pop t0 S1 (fun (S2 : kS) (r2 : Int32) => ((a1 = 6 → ∀ z4 : Int32, z4 = r2 + r1 → wT_X6_push t0 z4 S2 (fun (S5 : kS) => K S5)) ∧ (¬ a1 = 6 → ((a1 = 7 → ∀ z7 : Int32, z7 = r2 - r1 → wT_X6_push t0 z7 S2 (fun (S8 : kS) => K S8)) ∧ (¬ a1 = 7 → ((a1 = 8 → ∀ z10 : Int32, z10 = r2 * r1 → wT_X6_push t0 z10 S2 (fun (S11 : kS) => K S11)) ∧ (¬ a1 = 8 → ((a1 = 9 → ((¬ r1 = 0 → ((¬ a1 = 9 → ¬ r1 = 0 ∧ ∀ z15 : Int32, z15 = r2 - r2 / r1 * r1 → wT_X6_join_166 K t0 z15 S2) ∧ (a1 = 9 → ¬ r1 = 0 ∧ ∀ z16 : Int32, z16 = r2 / r1 → wT_X6_join_166 K t0 z16 S2))) ∧ (r1 = 0 → wT_X6_fail t0 a0 11 a2 S2 (fun (S17 : kS) => K S17)))) ∧ (¬ a1 = 9 → ((a1 = 10 → ((¬ r1 = 0 → ((¬ a1 = 9 → ¬ r1 = 0 ∧ ∀ z21 : Int32, z21 = r2 - r2 / r1 * r1 → wT_X6_join_166 K t0 z21 S2) ∧ (a1 = 9 → ¬ r1 = 0 ∧ ∀ z22 : Int32, z22 = r2 / r1 → wT_X6_join_166 K t0 z22 S2))) ∧ (r1 = 0 → wT_X6_fail t0 a0 11 a2 S2 (fun (S23 : kS) => K S23)))) ∧ (¬ a1 = 10 → ((a1 = 11 → ((r1 ≤ r2 → wT_X6_join_105 K t0 0 S2) ∧ (¬ r1 ≤ r2 → wT_X6_join_105 K t0 1 S2))) ∧ (¬ a1 = 11 → ((a1 = 12 → ((¬ r2 = r1 → wT_X6_join_124 K t0 0 S2) ∧ (r2 = r1 → wT_X6_join_124 K t0 1 S2))) ∧ (¬ a1 = 12 → ((¬ r1 = 0 → ((¬ a1 = 9 → ¬ r1 = 0 ∧ ∀ z30 : Int32, z30 = r2 - r2 / r1 * r1 → wT_X6_join_166 K t0 z30 S2) ∧ (a1 = 9 → ¬ r1 = 0 ∧ ∀ z31 : Int32, z31 = r2 / r1 → wT_X6_join_166 K t0 z31 S2))) ∧ (r1 = 0 → wT_X6_fail t0 a0 11 a2 S2 (fun (S32 : kS) => K S32)))))))))))))))))))
theorem ty_X6_join_166 {d : List (Nat × cK)} {K K' : kS → Prop} (hk : ∀ S1, WT d S1 → K S1 → K' S1) {y0 : Nat} {y1 : Int32} (t_y0 : (y0, Sum.inl 6) ∈ d) {S : kS} (hW : WT d S) (h : wT_X6_join_166 K y0 y1 S) : wp_X6_join_166 K' y0 y1 S := by
  unfold wT_X6_join_166 at h
  unfold wp_X6_join_166
  refine ⟨hasO_of hW t_y0, ?_⟩
  refine ty_X6_push t_y0 hW (fun S35 hW h => ?_) h
  exact hk _ hW h
theorem ty_X6_join_124 {d : List (Nat × cK)} {K K' : kS → Prop} (hk : ∀ S1, WT d S1 → K S1 → K' S1) {y0 : Nat} {y1 : Int32} (t_y0 : (y0, Sum.inl 6) ∈ d) {S : kS} (hW : WT d S) (h : wT_X6_join_124 K y0 y1 S) : wp_X6_join_124 K' y0 y1 S := by
  unfold wT_X6_join_124 at h
  unfold wp_X6_join_124
  refine ⟨hasO_of hW t_y0, ?_⟩
  refine ty_X6_push t_y0 hW (fun S33 hW h => ?_) h
  exact hk _ hW h
theorem ty_X6_join_105 {d : List (Nat × cK)} {K K' : kS → Prop} (hk : ∀ S1, WT d S1 → K S1 → K' S1) {y0 : Nat} {y1 : Int32} (t_y0 : (y0, Sum.inl 6) ∈ d) {S : kS} (hW : WT d S) (h : wT_X6_join_105 K y0 y1 S) : wp_X6_join_105 K' y0 y1 S := by
  unfold wT_X6_join_105 at h
  unfold wp_X6_join_105
  refine ⟨hasO_of hW t_y0, ?_⟩
  refine ty_X6_push t_y0 hW (fun S34 hW h => ?_) h
  exact hk _ hW h
theorem ty_X6_join {d : List (Nat × cK)} {t0 : Nat} {a0 : Nat} {a1 : Int32} {a2 : Int32} (t_t0 : (t0, Sum.inl 6) ∈ d) (t_a0 : (a0, Sum.inl 9) ∈ d) {S : kS} {K K' : kS → Prop} (hW : WT d S) (hk : ∀ S1, WT d S1 → K S1 → K' S1) (h : wT_X6_join t0 a0 a1 a2 S K) : wp_X6_join t0 a0 a1 a2 S K' := by
  unfold wT_X6_join at h
  unfold wp_X6_join
  refine ⟨hasO_of hW t_t0, ?_⟩
  refine ty_X6_pop t_t0 hW (fun S1 r1 hW h => ?_) h
  refine ⟨hasO_of hW t_t0, ?_⟩
  refine ty_X6_pop t_t0 hW (fun S2 r2 hW h => ?_) h
  refine ⟨fun c => ?_, fun c => ?_⟩
  · replace h := h.1 c
    intro z4 e_z4
    replace h := h z4 e_z4
    refine ⟨hasO_of hW t_t0, ?_⟩
    refine ty_X6_push t_t0 hW (fun S5 hW h => ?_) h
    exact hk _ hW h
  · replace h := h.2 c
    refine ⟨fun c => ?_, fun c => ?_⟩
    · replace h := h.1 c
      intro z7 e_z7
      replace h := h z7 e_z7
      refine ⟨hasO_of hW t_t0, ?_⟩
      refine ty_X6_push t_t0 hW (fun S8 hW h => ?_) h
      exact hk _ hW h
    · replace h := h.2 c
      refine ⟨fun c => ?_, fun c => ?_⟩
      · replace h := h.1 c
        intro z10 e_z10
        replace h := h z10 e_z10
        refine ⟨hasO_of hW t_t0, ?_⟩
        refine ty_X6_push t_t0 hW (fun S11 hW h => ?_) h
        exact hk _ hW h
      · replace h := h.2 c
        refine ⟨fun c => ?_, fun c => ?_⟩
        · replace h := h.1 c
          refine ⟨fun c => ?_, fun c => ?_⟩
          · replace h := h.1 c
            refine ⟨fun c => ?_, fun c => ?_⟩
            · replace h := h.1 c
              have hin := h.1
              refine ⟨h.1, ?_⟩
              replace h := h.2
              intro z15 e_z15
              replace h := h z15 e_z15
              exact ty_X6_join_166 hk t_t0 hW h
            · replace h := h.2 c
              have hin := h.1
              refine ⟨h.1, ?_⟩
              replace h := h.2
              intro z16 e_z16
              replace h := h z16 e_z16
              exact ty_X6_join_166 hk t_t0 hW h
          · replace h := h.2 c
            refine ⟨hasO_of hW t_t0, ?_⟩
            refine ty_X6_fail t_t0 t_a0 hW (fun S17 hW h => ?_) h
            exact hk _ hW h
        · replace h := h.2 c
          refine ⟨fun c => ?_, fun c => ?_⟩
          · replace h := h.1 c
            refine ⟨fun c => ?_, fun c => ?_⟩
            · replace h := h.1 c
              refine ⟨fun c => ?_, fun c => ?_⟩
              · replace h := h.1 c
                have hin := h.1
                refine ⟨h.1, ?_⟩
                replace h := h.2
                intro z21 e_z21
                replace h := h z21 e_z21
                exact ty_X6_join_166 hk t_t0 hW h
              · replace h := h.2 c
                have hin := h.1
                refine ⟨h.1, ?_⟩
                replace h := h.2
                intro z22 e_z22
                replace h := h z22 e_z22
                exact ty_X6_join_166 hk t_t0 hW h
            · replace h := h.2 c
              refine ⟨hasO_of hW t_t0, ?_⟩
              refine ty_X6_fail t_t0 t_a0 hW (fun S23 hW h => ?_) h
              exact hk _ hW h
          · replace h := h.2 c
            refine ⟨fun c => ?_, fun c => ?_⟩
            · replace h := h.1 c
              refine ⟨fun c => ?_, fun c => ?_⟩
              · replace h := h.1 c
                exact ty_X6_join_105 hk t_t0 hW h
              · replace h := h.2 c
                exact ty_X6_join_105 hk t_t0 hW h
            · replace h := h.2 c
              refine ⟨fun c => ?_, fun c => ?_⟩
              · replace h := h.1 c
                refine ⟨fun c => ?_, fun c => ?_⟩
                · replace h := h.1 c
                  exact ty_X6_join_124 hk t_t0 hW h
                · replace h := h.2 c
                  exact ty_X6_join_124 hk t_t0 hW h
              · replace h := h.2 c
                refine ⟨fun c => ?_, fun c => ?_⟩
                · replace h := h.1 c
                  refine ⟨fun c => ?_, fun c => ?_⟩
                  · replace h := h.1 c
                    have hin := h.1
                    refine ⟨h.1, ?_⟩
                    replace h := h.2
                    intro z30 e_z30
                    replace h := h z30 e_z30
                    exact ty_X6_join_166 hk t_t0 hW h
                  · replace h := h.2 c
                    have hin := h.1
                    refine ⟨h.1, ?_⟩
                    replace h := h.2
                    intro z31 e_z31
                    replace h := h z31 e_z31
                    exact ty_X6_join_166 hk t_t0 hW h
                · replace h := h.2 c
                  refine ⟨hasO_of hW t_t0, ?_⟩
                  refine ty_X6_fail t_t0 t_a0 hW (fun S32 hW h => ?_) h
                  exact hk _ hW h
def wT_X9_look (t0 : Nat) (a0 : Int32) (S : kS) (K : kS → Int32 → Prop) : Prop := ((a0 < 0 → K S 0) ∧ (¬ a0 < 0 → ((12 ≤ a0 → K S 0) ∧ (¬ 12 ≤ a0 → ∀ z3 : Option Nat, z3 = S.2.1 58 t0 → ∀ q4 : Nat, z3 = some q4 → inR a0 12 ∧ ∀ z5 : Int32, z5 = S.2.2.1 q4 (ix a0) → K S z5))))
theorem ty_X9_look {d : List (Nat × cK)} {t0 : Nat} {a0 : Int32} (t_t0 : (t0, Sum.inl 9) ∈ d) {S : kS} {K K' : kS → Int32 → Prop} (hW : WT d S) (hk : ∀ S1 r1, WT d S1 → K S1 r1 → K' S1 r1) (h : wT_X9_look t0 a0 S K) : wp_X9_look t0 a0 S K' := by
  unfold wT_X9_look at h
  unfold wp_X9_look
  refine ⟨fun c => ?_, fun c => ?_⟩
  · replace h := h.1 c
    exact hk _ _ hW h
  · replace h := h.2 c
    refine ⟨fun c => ?_, fun c => ?_⟩
    · replace h := h.1 c
      exact hk _ _ hW h
    · replace h := h.2 c
      refine ⟨hasO_of hW t_t0, ?_⟩
      intro z3 e_z3
      replace h := h z3 e_z3
      have t_z3 : ∀ b, z3 = some b → (b, Sum.inr (12, 0)) ∈ d := fun b hb => hW.2.1 58 _ b t_t0 (by rw [← e_z3]; exact hb)
      have n_z3 := wt_nn (f := 58) hW (by decide) t_t0 e_z3
      obtain ⟨q4, e_q4⟩ := n_z3
      refine ⟨q4, e_q4, ?_⟩
      replace h := h q4 e_q4
      have t_q4 := t_z3 q4 e_q4
      refine ⟨hasA_of hW t_q4, ?_⟩
      have hin := h.1
      refine ⟨h.1, ?_⟩
      replace h := h.2
      intro z5 e_z5
      replace h := h z5 e_z5
      exact hk _ _ hW h
def wT_X6_reckon (t0 : Nat) (a0 : Nat) (a1 : Int32) (a2 : Int32) (S : kS) (K : kS → Prop) : Prop := ∀ z1 : Option Nat, z1 = S.2.1 41 t0 → ∀ q2 : Nat, z1 = some q2 → ∀ z3 : Option Nat, z3 = S.2.1 2 q2 → ∃ q4 : Nat, z3 = some q4 ∧ ∀ z5 : Option Nat, z5 = S.2.1 29 q4 → ∀ q6 : Nat, z5 = some q6 → inR a2 8064 ∧ ∀ z7 : Int32, z7 = S.2.2.1 q6 (ix a2) → ((a1 = 0 → ∀ S9 : kS, S9 = cI S 21 t0 0 → K S9) ∧ (¬ a1 = 0 → ((a1 = 1 → K S) ∧ (¬ a1 = 1 → ((a1 = 2 → wT_X6_push t0 z7 S (fun (S12 : kS) => K S12)) ∧ (¬ a1 = 2 → ((a1 = 3 → wT_X9_look a0 z7 S (fun (S14 : kS) (r14 : Int32) => wT_X6_push t0 r14 S14 (fun (S15 : kS) => K S15))) ∧ (¬ a1 = 3 → ((a1 = 4 → ∀ z17 : Option Nat, z17 = S.2.1 41 t0 → ∀ q18 : Nat, z17 = some q18 → ∀ z19 : Int32, z19 = S.1 4 q18 → wT_X6_push t0 z19 S (fun (S20 : kS) => K S20)) ∧ (¬ a1 = 4 → ((a1 = 5 → wT_X6_pop t0 S (fun (S22 : kS) (r22 : Int32) => ∀ z23 : Int32, z23 = -r22 → wT_X6_push t0 z23 S22 (fun (S24 : kS) => K S24))) ∧ (¬ a1 = 5 → wT_X6_join t0 a0 a1 a2 S (fun (S25 : kS) => K S25)))))))))))))
theorem ty_X6_reckon {d : List (Nat × cK)} {t0 : Nat} {a0 : Nat} {a1 : Int32} {a2 : Int32} (t_t0 : (t0, Sum.inl 6) ∈ d) (t_a0 : (a0, Sum.inl 9) ∈ d) {S : kS} {K K' : kS → Prop} (hW : WT d S) (hk : ∀ S1, WT d S1 → K S1 → K' S1) (h : wT_X6_reckon t0 a0 a1 a2 S K) : wp_X6_reckon t0 a0 a1 a2 S K' := by
  unfold wT_X6_reckon at h
  unfold wp_X6_reckon
  refine ⟨hasO_of hW t_t0, ?_⟩
  intro z1 e_z1
  replace h := h z1 e_z1
  have t_z1 : ∀ b, z1 = some b → (b, Sum.inl 1) ∈ d := fun b hb => hW.2.1 41 _ b t_t0 (by rw [← e_z1]; exact hb)
  have n_z1 := wt_nn (f := 41) hW (by decide) t_t0 e_z1
  obtain ⟨q2, e_q2⟩ := n_z1
  refine ⟨q2, e_q2, ?_⟩
  replace h := h q2 e_q2
  have t_q2 := t_z1 q2 e_q2
  refine ⟨hasO_of hW t_q2, ?_⟩
  intro z3 e_z3
  replace h := h z3 e_z3
  have t_z3 : ∀ b, z3 = some b → (b, Sum.inl 5) ∈ d := fun b hb => hW.2.1 2 _ b t_q2 (by rw [← e_z3]; exact hb)
  obtain ⟨q4, e_q4, h9⟩ := h
  replace h := h9
  clear h9
  refine ⟨q4, e_q4, ?_⟩
  have t_q4 := t_z3 q4 e_q4
  refine ⟨hasO_of hW t_q4, ?_⟩
  intro z5 e_z5
  replace h := h z5 e_z5
  have t_z5 : ∀ b, z5 = some b → (b, Sum.inr (8064, 0)) ∈ d := fun b hb => hW.2.1 29 _ b t_q4 (by rw [← e_z5]; exact hb)
  have n_z5 := wt_nn (f := 29) hW (by decide) t_q4 e_z5
  obtain ⟨q6, e_q6⟩ := n_z5
  refine ⟨q6, e_q6, ?_⟩
  replace h := h q6 e_q6
  have t_q6 := t_z5 q6 e_q6
  refine ⟨hasA_of hW t_q6, ?_⟩
  have hin := h.1
  refine ⟨h.1, ?_⟩
  replace h := h.2
  intro z7 e_z7
  replace h := h z7 e_z7
  refine ⟨fun c => ?_, fun c => ?_⟩
  · replace h := h.1 c
    refine ⟨hasO_of hW t_t0, ?_⟩
    intro S9 e_S9
    replace h := h S9 e_S9
    replace hW := WT_i hW e_S9
    exact hk _ hW h
  · replace h := h.2 c
    refine ⟨fun c => ?_, fun c => ?_⟩
    · replace h := h.1 c
      exact hk _ hW h
    · replace h := h.2 c
      refine ⟨fun c => ?_, fun c => ?_⟩
      · replace h := h.1 c
        refine ⟨hasO_of hW t_t0, ?_⟩
        refine ty_X6_push t_t0 hW (fun S12 hW h => ?_) h
        exact hk _ hW h
      · replace h := h.2 c
        refine ⟨fun c => ?_, fun c => ?_⟩
        · replace h := h.1 c
          refine ⟨hasO_of hW t_a0, ?_⟩
          refine ty_X9_look t_a0 hW (fun S14 r14 hW h => ?_) h
          refine ⟨hasO_of hW t_t0, ?_⟩
          refine ty_X6_push t_t0 hW (fun S15 hW h => ?_) h
          exact hk _ hW h
        · replace h := h.2 c
          refine ⟨fun c => ?_, fun c => ?_⟩
          · replace h := h.1 c
            refine ⟨hasO_of hW t_t0, ?_⟩
            intro z17 e_z17
            replace h := h z17 e_z17
            have t_z17 : ∀ b, z17 = some b → (b, Sum.inl 1) ∈ d := fun b hb => hW.2.1 41 _ b t_t0 (by rw [← e_z17]; exact hb)
            have n_z17 := wt_nn (f := 41) hW (by decide) t_t0 e_z17
            obtain ⟨q18, e_q18⟩ := n_z17
            refine ⟨q18, e_q18, ?_⟩
            replace h := h q18 e_q18
            have t_q18 := t_z17 q18 e_q18
            refine ⟨hasO_of hW t_q18, ?_⟩
            intro z19 e_z19
            replace h := h z19 e_z19
            refine ⟨hasO_of hW t_t0, ?_⟩
            refine ty_X6_push t_t0 hW (fun S20 hW h => ?_) h
            exact hk _ hW h
          · replace h := h.2 c
            refine ⟨fun c => ?_, fun c => ?_⟩
            · replace h := h.1 c
              refine ⟨hasO_of hW t_t0, ?_⟩
              refine ty_X6_pop t_t0 hW (fun S22 r22 hW h => ?_) h
              intro z23 e_z23
              replace h := h z23 e_z23
              refine ⟨hasO_of hW t_t0, ?_⟩
              refine ty_X6_push t_t0 hW (fun S24 hW h => ?_) h
              exact hk _ hW h
            · replace h := h.2 c
              refine ⟨hasO_of hW t_t0, ?_⟩
              refine ty_X6_join t_t0 t_a0 hW (fun S25 hW h => ?_) h
              exact hk _ hW h
def wT_X6_step (t0 : Nat) (S : kS) (K : kS → Int32 → Prop) : Prop := ∀ z1 : Int32, z1 = S.1 20 t0 → ((3000 ≤ z1 → K S 0) ∧ (¬ 3000 ≤ z1 → ∀ z3 : Int32, z3 = S.1 19 t0 → ((z3 < 100000 → ∀ z5 : Int32, z5 = S.1 20 t0 → ∀ z6 : Int32, z6 = z5 + 1 → ∀ S7 : kS, S7 = cI S 20 t0 z6 → ∀ z8 : Int32, z8 = S7.1 19 t0 → ∀ z9 : Int32, z9 = z8 + 1 → ∀ S10 : kS, S10 = cI S7 19 t0 z9 → K S10 1) ∧ (¬ z3 < 100000 → K S 0))))
theorem ty_X6_step {d : List (Nat × cK)} {t0 : Nat} (t_t0 : (t0, Sum.inl 6) ∈ d) {S : kS} {K K' : kS → Int32 → Prop} (hW : WT d S) (hk : ∀ S1 r1, WT d S1 → K S1 r1 → K' S1 r1) (h : wT_X6_step t0 S K) : wp_X6_step t0 S K' := by
  unfold wT_X6_step at h
  unfold wp_X6_step
  refine ⟨hasO_of hW t_t0, ?_⟩
  intro z1 e_z1
  replace h := h z1 e_z1
  refine ⟨fun c => ?_, fun c => ?_⟩
  · replace h := h.1 c
    exact hk _ _ hW h
  · replace h := h.2 c
    refine ⟨hasO_of hW t_t0, ?_⟩
    intro z3 e_z3
    replace h := h z3 e_z3
    refine ⟨fun c => ?_, fun c => ?_⟩
    · replace h := h.1 c
      refine ⟨hasO_of hW t_t0, ?_⟩
      intro z5 e_z5
      replace h := h z5 e_z5
      intro z6 e_z6
      replace h := h z6 e_z6
      refine ⟨hasO_of hW t_t0, ?_⟩
      intro S7 e_S7
      replace h := h S7 e_S7
      replace hW := WT_i hW e_S7
      refine ⟨hasO_of hW t_t0, ?_⟩
      intro z8 e_z8
      replace h := h z8 e_z8
      intro z9 e_z9
      replace h := h z9 e_z9
      refine ⟨hasO_of hW t_t0, ?_⟩
      intro S10 e_S10
      replace h := h S10 e_S10
      replace hW := WT_i hW e_S10
      exact hk _ _ hW h
    · replace h := h.2 c
      exact hk _ _ hW h
