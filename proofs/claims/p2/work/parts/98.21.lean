
def wT_X4_init (t0 : Nat) (S : kS) (K : kS → Prop) : Prop := K S
theorem ty_X4_init {d : List (Nat × cK)} {t0 : Nat} (t_t0 : (t0, Sum.inl 4) ∈ d) {S : kS} {K K' : kS → Prop} (hW : WT d S) (hk : ∀ S1, WT d S1 → K S1 → K' S1) (h : wT_X4_init t0 S K) : wp_X4_init t0 S K' := by
  unfold wT_X4_init at h
  unfold wp_X4_init
  exact hk _ hW h
def wT_X1_newPart_111 (K : kS → Option Nat → Prop) (x3 : Nat) (S : kS) : Prop := K S (some x3)
def wT_X1_newPart_28 (K : kS → Option Nat → Prop) (x1 : Nat) (x2 : Int32) (x3 : Nat) (S : kS) : Prop := ∀ S8 : kS, S8 = cR S 21 x3 (some x1) → ∀ S9 : kS, S9 = cI S8 12 x3 x2 → ∀ S10 : kS, S10 = cI S9 13 x3 0 → ∀ S11 : kS, S11 = cI S10 14 x3 0 → ∀ S12 : kS, S12 = cI S11 15 x3 0 → ∀ S13 : kS, S13 = cI S12 16 x3 0 → ∀ S14 : kS, S14 = cR S13 22 x3 none → ∀ z15 : Option Nat, z15 = S14.2.1 63 x1 → ∀ S16 : kS, S16 = cR S14 23 x3 z15 → ∀ z17 : Option Nat, z17 = S16.2.1 61 x1 → ∀ S18 : kS, S18 = cR S16 24 x3 z17 → ∀ S19 : kS, S19 = cR S18 25 x3 none → ∀ S20 : kS, S20 = cR S19 26 x3 none → ∀ S21 : kS, S21 = cR S20 27 x3 none → ∀ S22 : kS, S22 = cR S21 61 x1 (some x3) → ∀ z23 : Option Nat, z23 = S22.2.1 62 x1 → ((z23 = none → ∀ S25 : kS, S25 = cR S22 62 x1 (some x3) → wT_X1_newPart_111 K x3 S25) ∧ (∀ q24 : Nat, z23 = some q24 → wT_X1_newPart_111 K x3 S22))
def wT_X1_newPart (t0 : Nat) (a0 : Nat) (a1 : Int32) (S : kS) (K : kS → Option Nat → Prop) : Prop := ∀ z1 : Option Nat, z1 = S.2.1 11 t0 → ((z1 = none → ∀ q3 : Nat, (∀ k : cK, (q3, k) ∉ S.2.2.2.2.2) → ∀ S4 : kS, S4 = cNw S q3 (.inl 4) → wT_X4_init q3 S4 (fun (S5 : kS) => wT_X1_newPart_28 K a0 a1 q3 S5)) ∧ (∀ q2 : Nat, z1 = some q2 → ∀ z6 : Option Nat, z6 = S.2.1 24 q2 → ∀ S7 : kS, S7 = cR S 11 t0 z6 → wT_X1_newPart_28 K a0 a1 q2 S7))
theorem ty_X1_newPart_111 {d : List (Nat × cK)} {K K' : kS → Option Nat → Prop} (hk : ∀ (d1 : List (Nat × cK)) (S1 : kS) (r1 : Option Nat), (∀ q, q ∈ d → q ∈ d1) → WT d1 S1 → (∀ b, r1 = some b → (b, Sum.inl 4) ∈ d1) → K S1 r1 → K' S1 r1) {x3 : Nat} (t_x3 : (x3, Sum.inl 4) ∈ d) {S : kS} (hW : WT d S) (h : wT_X1_newPart_111 K x3 S) : wp_X1_newPart_111 K' x3 S := by
  unfold wT_X1_newPart_111 at h
  unfold wp_X1_newPart_111
  exact hk _ _ _ (fun _ h => h) hW (fun b hb => by cases hb; exact t_x3) h
theorem ty_X1_newPart_28 {d : List (Nat × cK)} {K K' : kS → Option Nat → Prop} (hk : ∀ (d1 : List (Nat × cK)) (S1 : kS) (r1 : Option Nat), (∀ q, q ∈ d → q ∈ d1) → WT d1 S1 → (∀ b, r1 = some b → (b, Sum.inl 4) ∈ d1) → K S1 r1 → K' S1 r1) {x1 : Nat} {x2 : Int32} {x3 : Nat} (t_x1 : (x1, Sum.inl 9) ∈ d) (t_x3 : (x3, Sum.inl 4) ∈ d) {S : kS} (hW : WT d S) (h : wT_X1_newPart_28 K x1 x2 x3 S) : wp_X1_newPart_28 K' x1 x2 x3 S := by
  unfold wT_X1_newPart_28 at h
  unfold wp_X1_newPart_28
  refine ⟨hasO_of hW t_x3, ?_⟩
  intro S8 e_S8
  replace h := h S8 e_S8
  replace hW := WT_r hW e_S8 (fun b hb => by cases hb; exact t_x1) (by decide)
  refine ⟨hasO_of hW t_x3, ?_⟩
  intro S9 e_S9
  replace h := h S9 e_S9
  replace hW := WT_i hW e_S9
  refine ⟨hasO_of hW t_x3, ?_⟩
  intro S10 e_S10
  replace h := h S10 e_S10
  replace hW := WT_i hW e_S10
  refine ⟨hasO_of hW t_x3, ?_⟩
  intro S11 e_S11
  replace h := h S11 e_S11
  replace hW := WT_i hW e_S11
  refine ⟨hasO_of hW t_x3, ?_⟩
  intro S12 e_S12
  replace h := h S12 e_S12
  replace hW := WT_i hW e_S12
  refine ⟨hasO_of hW t_x3, ?_⟩
  intro S13 e_S13
  replace h := h S13 e_S13
  replace hW := WT_i hW e_S13
  refine ⟨hasO_of hW t_x3, ?_⟩
  intro S14 e_S14
  replace h := h S14 e_S14
  replace hW := WT_r hW e_S14 (fun b hb => by cases hb) (by decide)
  refine ⟨hasO_of hW t_x1, ?_⟩
  intro z15 e_z15
  replace h := h z15 e_z15
  have t_z15 : ∀ b, z15 = some b → (b, Sum.inl 4) ∈ d := fun b hb => hW.2.1 63 _ b t_x1 (by rw [← e_z15]; exact hb)
  refine ⟨hasO_of hW t_x3, ?_⟩
  intro S16 e_S16
  replace h := h S16 e_S16
  replace hW := WT_r hW e_S16 t_z15 (by decide)
  refine ⟨hasO_of hW t_x1, ?_⟩
  intro z17 e_z17
  replace h := h z17 e_z17
  have t_z17 : ∀ b, z17 = some b → (b, Sum.inl 4) ∈ d := fun b hb => hW.2.1 61 _ b t_x1 (by rw [← e_z17]; exact hb)
  refine ⟨hasO_of hW t_x3, ?_⟩
  intro S18 e_S18
  replace h := h S18 e_S18
  replace hW := WT_r hW e_S18 t_z17 (by decide)
  refine ⟨hasO_of hW t_x3, ?_⟩
  intro S19 e_S19
  replace h := h S19 e_S19
  replace hW := WT_r hW e_S19 (fun b hb => by cases hb) (by decide)
  refine ⟨hasO_of hW t_x3, ?_⟩
  intro S20 e_S20
  replace h := h S20 e_S20
  replace hW := WT_r hW e_S20 (fun b hb => by cases hb) (by decide)
  refine ⟨hasO_of hW t_x3, ?_⟩
  intro S21 e_S21
  replace h := h S21 e_S21
  replace hW := WT_r hW e_S21 (fun b hb => by cases hb) (by decide)
  refine ⟨hasO_of hW t_x1, ?_⟩
  intro S22 e_S22
  replace h := h S22 e_S22
  replace hW := WT_r hW e_S22 (fun b hb => by cases hb; exact t_x3) (by decide)
  refine ⟨hasO_of hW t_x1, ?_⟩
  intro z23 e_z23
  replace h := h z23 e_z23
  have t_z23 : ∀ b, z23 = some b → (b, Sum.inl 4) ∈ d := fun b hb => hW.2.1 62 _ b t_x1 (by rw [← e_z23]; exact hb)
  refine ⟨fun c => ?_, fun q24 c => ?_⟩
  · replace h := h.1 c
    refine ⟨hasO_of hW t_x1, ?_⟩
    intro S25 e_S25
    replace h := h S25 e_S25
    replace hW := WT_r hW e_S25 (fun b hb => by cases hb; exact t_x3) (by decide)
    exact ty_X1_newPart_111 (fun d1 S1 r1 hs9 hw9 t9 h9 => hk d1 S1 r1 (fun q hq => hs9 q ((fun _ h => h) q hq)) hw9 t9 h9) t_x3 hW h
  · replace h := h.2 q24 c
    have t_q24 := t_z23 q24 c
    exact ty_X1_newPart_111 (fun d1 S1 r1 hs9 hw9 t9 h9 => hk d1 S1 r1 (fun q hq => hs9 q ((fun _ h => h) q hq)) hw9 t9 h9) t_x3 hW h
theorem ty_X1_newPart {d : List (Nat × cK)} {t0 : Nat} {a0 : Nat} {a1 : Int32} (t_t0 : (t0, Sum.inl 1) ∈ d) (t_a0 : (a0, Sum.inl 9) ∈ d) {S : kS} {K K' : kS → Option Nat → Prop} (hW : WT d S) (hk : ∀ (d1 : List (Nat × cK)) (S1 : kS) (r1 : Option Nat), (∀ q, q ∈ d → q ∈ d1) → WT d1 S1 → (∀ b, r1 = some b → (b, Sum.inl 4) ∈ d1) → K S1 r1 → K' S1 r1) (h : wT_X1_newPart t0 a0 a1 S K) : wp_X1_newPart t0 a0 a1 S K' := by
  unfold wT_X1_newPart at h
  unfold wp_X1_newPart
  refine ⟨hasO_of hW t_t0, ?_⟩
  intro z1 e_z1
  replace h := h z1 e_z1
  have t_z1 : ∀ b, z1 = some b → (b, Sum.inl 4) ∈ d := fun b hb => hW.2.1 11 _ b t_t0 (by rw [← e_z1]; exact hb)
  refine ⟨fun c => ?_, fun q2 c => ?_⟩
  · replace h := h.1 c
    intro q3 f_q3 S4 e_S4
    replace h := h q3 f_q3 S4 e_S4
    replace hW := WT_new hW f_q3 e_S4 (by decide)
    obtain ⟨d11, hd9⟩ : ∃ d9, d9 = d ++ [(q3, Sum.inl 4)] := ⟨_, rfl⟩
    rw [← hd9] at hW
    have hu1 : ∀ q, q ∈ d → q ∈ d11 := fun q h => by rw [hd9]; exact List.mem_append_left _ h
    have t_q3 : (q3, Sum.inl 4) ∈ d11 := by rw [hd9]; exact List.mem_append_right _ (List.mem_singleton.mpr rfl)
    replace t_t0 := hu1 _ t_t0
    replace t_a0 := hu1 _ t_a0
    replace t_z1 := (fun b hb => hu1 _ (t_z1 b hb))
    have hs1 : ∀ q, q ∈ d → q ∈ d11 := fun q h => hu1 q ((fun _ h => h) q h)
    refine ty_X4_init t_q3 hW (fun S5 hW h => ?_) h
    exact ty_X1_newPart_28 (fun d1 S1 r1 hs9 hw9 t9 h9 => hk d1 S1 r1 (fun q hq => hs9 q (hs1 q hq)) hw9 t9 h9) t_a0 t_q3 hW h
  · replace h := h.2 q2 c
    have t_q2 := t_z1 q2 c
    refine ⟨hasO_of hW t_q2, ?_⟩
    intro z6 e_z6
    replace h := h z6 e_z6
    have t_z6 : ∀ b, z6 = some b → (b, Sum.inl 4) ∈ d := fun b hb => hW.2.1 24 _ b t_q2 (by rw [← e_z6]; exact hb)
    refine ⟨hasO_of hW t_t0, ?_⟩
    intro S7 e_S7
    replace h := h S7 e_S7
    replace hW := WT_r hW e_S7 t_z6 (by decide)
    exact ty_X1_newPart_28 (fun d1 S1 r1 hs9 hw9 t9 h9 => hk d1 S1 r1 (fun q hq => hs9 q ((fun _ h => h) q hq)) hw9 t9 h9) t_a0 t_q2 hW h
def wT_X1_newTask_114 (K : kS → Option Nat → Prop) (k114 : Nat × Nat × Int32 × kS → Prop) (x0 : Nat) (x3 : Nat) (x4 : Int32) (S : kS) : Prop := ((12 ≤ x4 → ∀ S34 : kS, S34 = cI S 37 x3 0 → ∀ S35 : kS, S35 = cI S34 38 x3 0 → wT_X1_enterRow x0 x3 S35 (fun (S36 : kS) => K S36 (some x3))) ∧ (¬ 12 ≤ x4 → ∀ z37 : Option Nat, z37 = S.2.1 58 x3 → ∀ q38 : Nat, z37 = some q38 → inR x4 12 ∧ ∀ S39 : kS, S39 = cA S q38 (ix x4) 0 → ∀ z40 : Int32, z40 = x4 + 1 → k114 (x0, x3, z40, S39)))
def lT_X1_newTask_114 (K : kS → Option Nat → Prop) (k114 : Nat × Nat × Int32 × kS → Prop) (u : Nat × Nat × Int32 × kS) : Prop := wT_X1_newTask_114 K k114 u.1 u.2.1 u.2.2.1 u.2.2.2
def wT_X1_newTask_48 (K : kS → Option Nat → Prop) (x0 : Nat) (x1 : Int32) (x2 : Option Nat) (x3 : Nat) (S : kS) : Prop := ∀ z16 : Int32, z16 = S.1 1 x0 → ∀ z17 : Int32, z17 = z16 + 1 → ∀ S18 : kS, S18 = cI S 1 x0 z17 → ∀ S19 : kS, S19 = cI S18 29 x3 x1 → ∀ S20 : kS, S20 = cR S19 56 x3 x2 → ∀ S21 : kS, S21 = cR S20 57 x3 none → ∀ S22 : kS, S22 = cI S21 31 x3 0 → ∀ S23 : kS, S23 = cI S22 32 x3 0 → ∀ S24 : kS, S24 = cI S23 33 x3 0 → ∀ S25 : kS, S25 = cI S24 34 x3 0 → ∀ S26 : kS, S26 = cI S25 35 x3 0 → ∀ z27 : Option Nat, z27 = S26.2.1 2 x0 → ∃ q28 : Nat, z27 = some q28 ∧ ∀ z29 : Option Nat, z29 = S26.2.1 32 q28 → ∀ q30 : Nat, z29 = some q30 → inR x1 12 ∧ ∀ z31 : Int32, z31 = S26.2.2.1 q30 (ix x1) → ∀ S32 : kS, S32 = cI S26 36 x3 z31 → (∃ n9, it (lT_X1_newTask_114 K) n9 (x0, x3, 0, S32))
def wT_X1_newTask (t0 : Nat) (a0 : Int32) (a1 : Option Nat) (S : kS) (K : kS → Option Nat → Prop) : Prop := ∀ z1 : Int32, z1 = S.1 1 t0 → ((z1 < 200 → ∀ z3 : Option Nat, z3 = S.2.1 3 t0 → ∀ z4 : Int32, z4 = S.1 1 t0 → ∀ q5 : Nat, z3 = some q5 → inR z4 200 ∧ ∀ z6 : Option Nat, z6 = S.2.2.2.2.1 q5 (ix z4) → ((z6 = none → ∀ q8 : Nat, (∀ k : cK, (q8, k) ∉ S.2.2.2.2.2) → ∀ S9 : kS, S9 = cNw S q8 (.inl 9) → ∀ z10 : Int32, z10 = S9.1 1 t0 → wT_X9_init q8 z10 S9 (fun (S11 : kS) => ∀ z12 : Option Nat, z12 = S11.2.1 3 t0 → ∀ z13 : Int32, z13 = S11.1 1 t0 → ∀ q14 : Nat, z12 = some q14 → inR z13 200 ∧ ∀ S15 : kS, S15 = cQ S11 q14 (ix z13) (some q8) → wT_X1_newTask_48 K t0 a0 a1 q8 S15)) ∧ (∀ q7 : Nat, z6 = some q7 → wT_X1_newTask_48 K t0 a0 a1 q7 S))) ∧ (¬ z1 < 200 → K S none))
theorem ty_X1_newTask_114 {d : List (Nat × cK)} {K K' : kS → Option Nat → Prop} {k114 k114' : Nat × Nat × Int32 × kS → Prop} (hk : ∀ (d1 : List (Nat × cK)) (S1 : kS) (r1 : Option Nat), (∀ q, q ∈ d → q ∈ d1) → WT d1 S1 → (∀ b, r1 = some b → (b, Sum.inl 9) ∈ d1) → K S1 r1 → K' S1 r1) (hk114 : ∀ (d1 : List (Nat × cK)) (x0 : Nat) (x3 : Nat) (x4 : Int32), (∀ q, q ∈ d → q ∈ d1) → ((x0, Sum.inl 1) ∈ d1) → ((x3, Sum.inl 9) ∈ d1) → ∀ S : kS, WT d1 S → k114 (x0, x3, x4, S) → k114' (x0, x3, x4, S)) {x0 : Nat} {x3 : Nat} {x4 : Int32} (t_x0 : (x0, Sum.inl 1) ∈ d) (t_x3 : (x3, Sum.inl 9) ∈ d) {S : kS} (hW : WT d S) (h : wT_X1_newTask_114 K k114 x0 x3 x4 S) : wp_X1_newTask_114 K' k114' x0 x3 x4 S := by
  unfold wT_X1_newTask_114 at h
  unfold wp_X1_newTask_114
  refine ⟨fun c => ?_, fun c => ?_⟩
  · replace h := h.1 c
    refine ⟨hasO_of hW t_x3, ?_⟩
    intro S34 e_S34
    replace h := h S34 e_S34
    replace hW := WT_i hW e_S34
    refine ⟨hasO_of hW t_x3, ?_⟩
    intro S35 e_S35
    replace h := h S35 e_S35
    replace hW := WT_i hW e_S35
    refine ⟨hasO_of hW t_x0, ?_⟩
    refine ty_X1_enterRow t_x0 t_x3 hW (fun S36 hW h => ?_) h
    exact hk _ _ _ (fun _ h => h) hW (fun b hb => by cases hb; exact t_x3) h
  · replace h := h.2 c
    refine ⟨hasO_of hW t_x3, ?_⟩
    intro z37 e_z37
    replace h := h z37 e_z37
    have t_z37 : ∀ b, z37 = some b → (b, Sum.inr (12, 0)) ∈ d := fun b hb => hW.2.1 58 _ b t_x3 (by rw [← e_z37]; exact hb)
    have n_z37 := wt_nn (f := 58) hW (by decide) t_x3 e_z37
    obtain ⟨q38, e_q38⟩ := n_z37
    refine ⟨q38, e_q38, ?_⟩
    replace h := h q38 e_q38
    have t_q38 := t_z37 q38 e_q38
    refine ⟨hasA_of hW t_q38, ?_⟩
    have hin := h.1
    refine ⟨h.1, ?_⟩
    replace h := h.2
    intro S39 e_S39
    replace h := h S39 e_S39
    replace hW := WT_a hW e_S39
    intro z40 e_z40
    replace h := h z40 e_z40
    exact hk114 _ _ _ _ (fun _ h => h) t_x0 t_x3 _ hW h
theorem tyl_X1_newTask_114 {K K' : kS → Option Nat → Prop} : ∀ (n : Nat) (d : List (Nat × cK)), (∀ (d1 : List (Nat × cK)) (S1 : kS) (r1 : Option Nat), (∀ q, q ∈ d → q ∈ d1) → WT d1 S1 → (∀ b, r1 = some b → (b, Sum.inl 9) ∈ d1) → K S1 r1 → K' S1 r1) → ∀ (x0 : Nat) (x3 : Nat) (x4 : Int32), ((x0, Sum.inl 1) ∈ d) → ((x3, Sum.inl 9) ∈ d) → ∀ S : kS, WT d S → it (lT_X1_newTask_114 K) n (x0, x3, x4, S) → it (ls_X1_newTask_114 K') n (x0, x3, x4, S) := by
  intro n
  induction n with
  | zero => intro d hk x0 x3 x4 t_x0 t_x3 S hW h; exact h
  | succ n ih =>
    intro d hk x0 x3 x4 t_x0 t_x3 S hW h
    exact ty_X1_newTask_114 hk (fun d1 x0 x3 x4 hs9 t_x0 t_x3 S1 hw9 h9 => ih d1 (fun d2 S2 r1 hs8 hw8 t8 h8 => hk d2 S2 r1 (fun q hq => hs8 q (hs9 q hq)) hw8 t8 h8) x0 x3 x4 t_x0 t_x3 S1 hw9 h9) t_x0 t_x3 hW h
theorem ty_X1_newTask_48 {d : List (Nat × cK)} {K K' : kS → Option Nat → Prop} (hk : ∀ (d1 : List (Nat × cK)) (S1 : kS) (r1 : Option Nat), (∀ q, q ∈ d → q ∈ d1) → WT d1 S1 → (∀ b, r1 = some b → (b, Sum.inl 9) ∈ d1) → K S1 r1 → K' S1 r1) {x0 : Nat} {x1 : Int32} {x2 : Option Nat} {x3 : Nat} (t_x0 : (x0, Sum.inl 1) ∈ d) (t_x2 : ∀ b, x2 = some b → (b, Sum.inl 9) ∈ d) (t_x3 : (x3, Sum.inl 9) ∈ d) {S : kS} (hW : WT d S) (h : wT_X1_newTask_48 K x0 x1 x2 x3 S) : wp_X1_newTask_48 K' x0 x1 x2 x3 S := by
  unfold wT_X1_newTask_48 at h
  unfold wp_X1_newTask_48
  refine ⟨hasO_of hW t_x0, ?_⟩
  intro z16 e_z16
  replace h := h z16 e_z16
  intro z17 e_z17
  replace h := h z17 e_z17
  refine ⟨hasO_of hW t_x0, ?_⟩
  intro S18 e_S18
  replace h := h S18 e_S18
  replace hW := WT_i hW e_S18
  refine ⟨hasO_of hW t_x3, ?_⟩
  intro S19 e_S19
  replace h := h S19 e_S19
  replace hW := WT_i hW e_S19
  refine ⟨hasO_of hW t_x3, ?_⟩
  intro S20 e_S20
  replace h := h S20 e_S20
  replace hW := WT_r hW e_S20 t_x2 (by decide)
  refine ⟨hasO_of hW t_x3, ?_⟩
  intro S21 e_S21
  replace h := h S21 e_S21
  replace hW := WT_r hW e_S21 (fun b hb => by cases hb) (by decide)
  refine ⟨hasO_of hW t_x3, ?_⟩
  intro S22 e_S22
  replace h := h S22 e_S22
  replace hW := WT_i hW e_S22
  refine ⟨hasO_of hW t_x3, ?_⟩
  intro S23 e_S23
  replace h := h S23 e_S23
  replace hW := WT_i hW e_S23
  refine ⟨hasO_of hW t_x3, ?_⟩
  intro S24 e_S24
  replace h := h S24 e_S24
  replace hW := WT_i hW e_S24
  refine ⟨hasO_of hW t_x3, ?_⟩
  intro S25 e_S25
  replace h := h S25 e_S25
  replace hW := WT_i hW e_S25
  refine ⟨hasO_of hW t_x3, ?_⟩
  intro S26 e_S26
  replace h := h S26 e_S26
  replace hW := WT_i hW e_S26
  refine ⟨hasO_of hW t_x0, ?_⟩
  intro z27 e_z27
  replace h := h z27 e_z27
  have t_z27 : ∀ b, z27 = some b → (b, Sum.inl 5) ∈ d := fun b hb => hW.2.1 2 _ b t_x0 (by rw [← e_z27]; exact hb)
  obtain ⟨q28, e_q28, h9⟩ := h
  replace h := h9
  clear h9
  refine ⟨q28, e_q28, ?_⟩
  have t_q28 := t_z27 q28 e_q28
  refine ⟨hasO_of hW t_q28, ?_⟩
  intro z29 e_z29
  replace h := h z29 e_z29
  have t_z29 : ∀ b, z29 = some b → (b, Sum.inr (12, 0)) ∈ d := fun b hb => hW.2.1 32 _ b t_q28 (by rw [← e_z29]; exact hb)
  have n_z29 := wt_nn (f := 32) hW (by decide) t_q28 e_z29
  obtain ⟨q30, e_q30⟩ := n_z29
  refine ⟨q30, e_q30, ?_⟩
  replace h := h q30 e_q30
  have t_q30 := t_z29 q30 e_q30
  refine ⟨hasA_of hW t_q30, ?_⟩
  have hin := h.1
  refine ⟨h.1, ?_⟩
  replace h := h.2
  intro z31 e_z31
  replace h := h z31 e_z31
  refine ⟨hasO_of hW t_x3, ?_⟩
  intro S32 e_S32
  replace h := h S32 e_S32
  replace hW := WT_i hW e_S32
  obtain ⟨n9, h⟩ := h
  exact ⟨n9, tyl_X1_newTask_114 n9 _ (fun d1 S1 r1 hs9 hw9 t9 h9 => hk d1 S1 r1 (fun q hq => hs9 q ((fun _ h => h) q hq)) hw9 t9 h9) _ _ _ t_x0 t_x3 _ hW h⟩
theorem ty_X1_newTask {d : List (Nat × cK)} {t0 : Nat} {a0 : Int32} {a1 : Option Nat} (t_t0 : (t0, Sum.inl 1) ∈ d) (t_a1 : ∀ b, a1 = some b → (b, Sum.inl 9) ∈ d) {S : kS} {K K' : kS → Option Nat → Prop} (hW : WT d S) (hk : ∀ (d1 : List (Nat × cK)) (S1 : kS) (r1 : Option Nat), (∀ q, q ∈ d → q ∈ d1) → WT d1 S1 → (∀ b, r1 = some b → (b, Sum.inl 9) ∈ d1) → K S1 r1 → K' S1 r1) (h : wT_X1_newTask t0 a0 a1 S K) : wp_X1_newTask t0 a0 a1 S K' := by
  unfold wT_X1_newTask at h
  unfold wp_X1_newTask
  refine ⟨hasO_of hW t_t0, ?_⟩
  intro z1 e_z1
  replace h := h z1 e_z1
  refine ⟨fun c => ?_, fun c => ?_⟩
  · replace h := h.1 c
    refine ⟨hasO_of hW t_t0, ?_⟩
    intro z3 e_z3
    replace h := h z3 e_z3
    have t_z3 : ∀ b, z3 = some b → (b, Sum.inr (200, 2)) ∈ d := fun b hb => hW.2.1 3 _ b t_t0 (by rw [← e_z3]; exact hb)
    have n_z3 := wt_nn (f := 3) hW (by decide) t_t0 e_z3
    refine ⟨hasO_of hW t_t0, ?_⟩
    intro z4 e_z4
    replace h := h z4 e_z4
    obtain ⟨q5, e_q5⟩ := n_z3
    refine ⟨q5, e_q5, ?_⟩
    replace h := h q5 e_q5
    have t_q5 := t_z3 q5 e_q5
    refine ⟨hasA_of hW t_q5, ?_⟩
    have hin := h.1
    refine ⟨h.1, ?_⟩
    replace h := h.2
    intro z6 e_z6
    replace h := h z6 e_z6
    have t_z6 : ∀ b, z6 = some b → (b, Sum.inl 9) ∈ d := fun b hb => hW.2.2.2.1 _ _ b t_q5 (by rw [← e_z6]; exact hb)
    refine ⟨fun c => ?_, fun q7 c => ?_⟩
    · replace h := h.1 c
      intro q8 f_q8 S9 e_S9
      replace h := h q8 f_q8 S9 e_S9
      refine ⟨by unfold hasO; rw [e_S9]; show _ ∈ _ ++ _; rw [hW.1]; exact List.mem_append_left _ t_t0, ?_⟩
      intro z10 e_z10
      replace h := h z10 e_z10
      refine ty_X9_new hW f_q8 e_S9 (fun d11 S11 hu1 hW t_q8 h => ?_) h
      replace t_t0 := hu1 _ t_t0
      replace t_a1 := (fun b hb => hu1 _ (t_a1 b hb))
      replace t_z3 := (fun b hb => hu1 _ (t_z3 b hb))
      replace t_q5 := hu1 _ t_q5
      replace t_z6 := (fun b hb => hu1 _ (t_z6 b hb))
      have hs1 : ∀ q, q ∈ d → q ∈ d11 := fun q h => hu1 q ((fun _ h => h) q h)
      refine ⟨hasO_of hW t_t0, ?_⟩
      intro z12 e_z12
      replace h := h z12 e_z12
      have t_z12 : ∀ b, z12 = some b → (b, Sum.inr (200, 2)) ∈ d11 := fun b hb => hW.2.1 3 _ b t_t0 (by rw [← e_z12]; exact hb)
      have n_z12 := wt_nn (f := 3) hW (by decide) t_t0 e_z12
      refine ⟨hasO_of hW t_t0, ?_⟩
      intro z13 e_z13
      replace h := h z13 e_z13
      obtain ⟨q14, e_q14⟩ := n_z12
      refine ⟨q14, e_q14, ?_⟩
      replace h := h q14 e_q14
      have t_q14 := t_z12 q14 e_q14
      refine ⟨hasA_of hW t_q14, ?_⟩
      refine ⟨hasO_of hW t_q8, ?_⟩
      have hin := h.1
      refine ⟨h.1, ?_⟩
      replace h := h.2
      intro S15 e_S15
      replace h := h S15 e_S15
      replace hW := WT_q hW e_S15 t_q14 t_q8
      exact ty_X1_newTask_48 (fun d1 S1 r1 hs9 hw9 t9 h9 => hk d1 S1 r1 (fun q hq => hs9 q (hs1 q hq)) hw9 t9 h9) t_t0 t_a1 t_q8 hW h
    · replace h := h.2 q7 c
      have t_q7 := t_z6 q7 c
      exact ty_X1_newTask_48 (fun d1 S1 r1 hs9 hw9 t9 h9 => hk d1 S1 r1 (fun q hq => hs9 q ((fun _ h => h) q hq)) hw9 t9 h9) t_t0 t_a1 t_q7 hW h
  · replace h := h.2 c
    exact hk _ _ _ (fun _ h => h) hW (fun b hb => by cases hb) h
def wT_X6_beginLetter (t0 : Nat) (a0 : Nat) (a1 : Int32) (S : kS) (K : kS → Prop) : Prop := ∀ z1 : Option Nat, z1 = S.2.1 41 t0 → ∀ q2 : Nat, z1 = some q2 → wT_X1_newPart q2 a0 0 S (fun (S3 : kS) (o3 : Option Nat) => ∀ z4 : Option Nat, z4 = S3.2.1 41 t0 → ∀ q5 : Nat, z4 = some q5 → ∀ z6 : Option Nat, z6 = S3.2.1 6 q5 → ∀ q7 : Nat, z6 = some q7 → inR a1 8 ∧ ∀ z8 : Int32, z8 = S3.2.2.1 q7 (ix a1) → ((z8 ≤ 0 → ∀ z10 : Option Nat, z10 = S3.2.1 41 t0 → ∀ q11 : Nat, z10 = some q11 → ∀ z12 : Option Nat, z12 = S3.2.1 7 q11 → ∀ q13 : Nat, z12 = some q13 → inR a1 8 ∧ ∀ z14 : Option Nat, z14 = S3.2.2.2.2.1 q13 (ix a1) → ∀ q15 : Nat, z14 = some q15 → ∃ q16 : Nat, o3 = some q16 ∧ wT_X2_add q15 q16 S3 (fun (S17 : kS) => K S17)) ∧ (¬ z8 ≤ 0 → ∀ z18 : Option Nat, z18 = S3.2.1 41 t0 → ∀ q19 : Nat, z18 = some q19 → wT_X1_takeLetter q19 a1 S3 (fun (S20 : kS) (r20 : Int32) => ∃ q21 : Nat, o3 = some q21 ∧ wT_X6_come t0 q21 r20 S20 (fun (S22 : kS) => K S22)))))
theorem ty_X6_beginLetter {d : List (Nat × cK)} {t0 : Nat} {a0 : Nat} {a1 : Int32} (t_t0 : (t0, Sum.inl 6) ∈ d) (t_a0 : (a0, Sum.inl 9) ∈ d) {S : kS} {K K' : kS → Prop} (hW : WT d S) (hk : ∀ (d1 : List (Nat × cK)) (S1 : kS), (∀ q, q ∈ d → q ∈ d1) → WT d1 S1 → K S1 → K' S1) (h : wT_X6_beginLetter t0 a0 a1 S K) : wp_X6_beginLetter t0 a0 a1 S K' := by
  unfold wT_X6_beginLetter at h
  unfold wp_X6_beginLetter
  refine ⟨hasO_of hW t_t0, ?_⟩
  intro z1 e_z1
  replace h := h z1 e_z1
  have t_z1 : ∀ b, z1 = some b → (b, Sum.inl 1) ∈ d := fun b hb => hW.2.1 41 _ b t_t0 (by rw [← e_z1]; exact hb)
  have n_z1 := wt_nn (f := 41) hW (by decide) t_t0 e_z1
  obtain ⟨q2, e_q2⟩ := n_z1
  refine ⟨q2, e_q2, ?_⟩
  replace h := h q2 e_q2
  have t_q2 := t_z1 q2 e_q2
  refine ⟨hasO_of hW t_q2, ?_⟩
  refine ty_X1_newPart t_q2 t_a0 hW (fun d11 S3 o3 hu1 hW t_o3 h => ?_) h
  replace t_t0 := hu1 _ t_t0
  replace t_a0 := hu1 _ t_a0
  replace t_z1 := (fun b hb => hu1 _ (t_z1 b hb))
  replace t_q2 := hu1 _ t_q2
  have hs1 : ∀ q, q ∈ d → q ∈ d11 := fun q h => hu1 q ((fun _ h => h) q h)
  refine ⟨hasO_of hW t_t0, ?_⟩
  intro z4 e_z4
  replace h := h z4 e_z4
  have t_z4 : ∀ b, z4 = some b → (b, Sum.inl 1) ∈ d11 := fun b hb => hW.2.1 41 _ b t_t0 (by rw [← e_z4]; exact hb)
  have n_z4 := wt_nn (f := 41) hW (by decide) t_t0 e_z4
  obtain ⟨q5, e_q5⟩ := n_z4
  refine ⟨q5, e_q5, ?_⟩
  replace h := h q5 e_q5
  have t_q5 := t_z4 q5 e_q5
  refine ⟨hasO_of hW t_q5, ?_⟩
  intro z6 e_z6
  replace h := h z6 e_z6
  have t_z6 : ∀ b, z6 = some b → (b, Sum.inr (8, 0)) ∈ d11 := fun b hb => hW.2.1 6 _ b t_q5 (by rw [← e_z6]; exact hb)
  have n_z6 := wt_nn (f := 6) hW (by decide) t_q5 e_z6
  obtain ⟨q7, e_q7⟩ := n_z6
  refine ⟨q7, e_q7, ?_⟩
  replace h := h q7 e_q7
  have t_q7 := t_z6 q7 e_q7
  refine ⟨hasA_of hW t_q7, ?_⟩
  have hin := h.1
  refine ⟨h.1, ?_⟩
  replace h := h.2
  intro z8 e_z8
  replace h := h z8 e_z8
  refine ⟨fun c => ?_, fun c => ?_⟩
  · replace h := h.1 c
    refine ⟨hasO_of hW t_t0, ?_⟩
    intro z10 e_z10
    replace h := h z10 e_z10
    have t_z10 : ∀ b, z10 = some b → (b, Sum.inl 1) ∈ d11 := fun b hb => hW.2.1 41 _ b t_t0 (by rw [← e_z10]; exact hb)
    have n_z10 := wt_nn (f := 41) hW (by decide) t_t0 e_z10
    obtain ⟨q11, e_q11⟩ := n_z10
    refine ⟨q11, e_q11, ?_⟩
    replace h := h q11 e_q11
    have t_q11 := t_z10 q11 e_q11
    refine ⟨hasO_of hW t_q11, ?_⟩
    intro z12 e_z12
    replace h := h z12 e_z12
    have t_z12 : ∀ b, z12 = some b → (b, Sum.inr (8, 4)) ∈ d11 := fun b hb => hW.2.1 7 _ b t_q11 (by rw [← e_z12]; exact hb)
    have n_z12 := wt_nn (f := 7) hW (by decide) t_q11 e_z12
    obtain ⟨q13, e_q13⟩ := n_z12
    refine ⟨q13, e_q13, ?_⟩
    replace h := h q13 e_q13
    have t_q13 := t_z12 q13 e_q13
    refine ⟨hasA_of hW t_q13, ?_⟩
    have hin := h.1
    refine ⟨h.1, ?_⟩
    replace h := h.2
    intro z14 e_z14
    replace h := h z14 e_z14
    have n0_z14 := wt_ln hW t_q13 (inR_lt hin) e_z14
    have n_z14 : ∃ q, z14 = some q := by obtain ⟨q9, h9, _⟩ := n0_z14; exact ⟨q9, h9⟩
    have t_z14 : ∀ b, z14 = some b → (b, Sum.inl 2) ∈ d11 := by obtain ⟨q9, h9, g9⟩ := n0_z14; intro b hb; cases h9.symm.trans hb; exact g9
    obtain ⟨q15, e_q15⟩ := n_z14
    refine ⟨q15, e_q15, ?_⟩
    replace h := h q15 e_q15
    have t_q15 := t_z14 q15 e_q15
    obtain ⟨q16, e_q16, h9⟩ := h
    replace h := h9
    clear h9
    refine ⟨q16, e_q16, ?_⟩
    have t_q16 := t_o3 q16 e_q16
    refine ⟨hasO_of hW t_q15, ?_⟩
    refine ty_X2_add t_q15 t_q16 hW (fun S17 hW h => ?_) h
    exact hk _ _ hs1 hW h
  · replace h := h.2 c
    refine ⟨hasO_of hW t_t0, ?_⟩
    intro z18 e_z18
    replace h := h z18 e_z18
    have t_z18 : ∀ b, z18 = some b → (b, Sum.inl 1) ∈ d11 := fun b hb => hW.2.1 41 _ b t_t0 (by rw [← e_z18]; exact hb)
    have n_z18 := wt_nn (f := 41) hW (by decide) t_t0 e_z18
    obtain ⟨q19, e_q19⟩ := n_z18
    refine ⟨q19, e_q19, ?_⟩
    replace h := h q19 e_q19
    have t_q19 := t_z18 q19 e_q19
    refine ⟨hasO_of hW t_q19, ?_⟩
    refine ty_X1_takeLetter t_q19 hW (fun S20 r20 hW h => ?_) h
    obtain ⟨q21, e_q21, h9⟩ := h
    replace h := h9
    clear h9
    refine ⟨q21, e_q21, ?_⟩
    have t_q21 := t_o3 q21 e_q21
    refine ⟨hasO_of hW t_t0, ?_⟩
    refine ty_X6_come t_t0 t_q21 hW (fun S22 hW h => ?_) h
    exact hk _ _ hs1 hW h
def wT_X6_beginTick (t0 : Nat) (a0 : Nat) (a1 : Int32) (S : kS) (K : kS → Prop) : Prop := ∀ z1 : Option Nat, z1 = S.2.1 41 t0 → ∀ q2 : Nat, z1 = some q2 → wT_X1_newPart q2 a0 2 S (fun (S3 : kS) (o3 : Option Nat) => ((0 < a1 → ∀ z5 : Option Nat, z5 = S3.2.1 41 t0 → ∀ q6 : Nat, z5 = some q6 → ∃ q7 : Nat, o3 = some q7 ∧ wT_X1_setAlarm q6 q7 a1 S3 (fun (S8 : kS) => K S8)) ∧ (¬ 0 < a1 → ∃ q9 : Nat, o3 = some q9 ∧ wT_X6_come t0 q9 0 S3 (fun (S10 : kS) => K S10))))
theorem ty_X6_beginTick {d : List (Nat × cK)} {t0 : Nat} {a0 : Nat} {a1 : Int32} (t_t0 : (t0, Sum.inl 6) ∈ d) (t_a0 : (a0, Sum.inl 9) ∈ d) {S : kS} {K K' : kS → Prop} (hW : WT d S) (hk : ∀ (d1 : List (Nat × cK)) (S1 : kS), (∀ q, q ∈ d → q ∈ d1) → WT d1 S1 → K S1 → K' S1) (h : wT_X6_beginTick t0 a0 a1 S K) : wp_X6_beginTick t0 a0 a1 S K' := by
  unfold wT_X6_beginTick at h
  unfold wp_X6_beginTick
  refine ⟨hasO_of hW t_t0, ?_⟩
  intro z1 e_z1
  replace h := h z1 e_z1
  have t_z1 : ∀ b, z1 = some b → (b, Sum.inl 1) ∈ d := fun b hb => hW.2.1 41 _ b t_t0 (by rw [← e_z1]; exact hb)
  have n_z1 := wt_nn (f := 41) hW (by decide) t_t0 e_z1
  obtain ⟨q2, e_q2⟩ := n_z1
  refine ⟨q2, e_q2, ?_⟩
  replace h := h q2 e_q2
  have t_q2 := t_z1 q2 e_q2
  refine ⟨hasO_of hW t_q2, ?_⟩
  refine ty_X1_newPart t_q2 t_a0 hW (fun d11 S3 o3 hu1 hW t_o3 h => ?_) h
  replace t_t0 := hu1 _ t_t0
  replace t_a0 := hu1 _ t_a0
  replace t_z1 := (fun b hb => hu1 _ (t_z1 b hb))
  replace t_q2 := hu1 _ t_q2
  have hs1 : ∀ q, q ∈ d → q ∈ d11 := fun q h => hu1 q ((fun _ h => h) q h)
  refine ⟨fun c => ?_, fun c => ?_⟩
  · replace h := h.1 c
    refine ⟨hasO_of hW t_t0, ?_⟩
    intro z5 e_z5
    replace h := h z5 e_z5
    have t_z5 : ∀ b, z5 = some b → (b, Sum.inl 1) ∈ d11 := fun b hb => hW.2.1 41 _ b t_t0 (by rw [← e_z5]; exact hb)
    have n_z5 := wt_nn (f := 41) hW (by decide) t_t0 e_z5
    obtain ⟨q6, e_q6⟩ := n_z5
    refine ⟨q6, e_q6, ?_⟩
    replace h := h q6 e_q6
    have t_q6 := t_z5 q6 e_q6
    obtain ⟨q7, e_q7, h9⟩ := h
    replace h := h9
    clear h9
    refine ⟨q7, e_q7, ?_⟩
    have t_q7 := t_o3 q7 e_q7
    refine ⟨hasO_of hW t_q6, ?_⟩
    refine ty_X1_setAlarm t_q6 t_q7 hW (fun S8 hW h => ?_) h
    exact hk _ _ hs1 hW h
  · replace h := h.2 c
    obtain ⟨q9, e_q9, h9⟩ := h
    replace h := h9
    clear h9
    refine ⟨q9, e_q9, ?_⟩
    have t_q9 := t_o3 q9 e_q9
    refine ⟨hasO_of hW t_t0, ?_⟩
    refine ty_X6_come t_t0 t_q9 hW (fun S10 hW h => ?_) h
    exact hk _ _ hs1 hW h
def wT_X6_beginChild_41 (K : kS → Prop) (k41 : Nat × Nat × Nat × Int32 × kS → Prop) (x0 : Nat) (x1 : Nat) (x4 : Nat) (x5 : Int32) (S : kS) : Prop := ((x5 < 0 → ∀ z15 : Option Nat, z15 = S.2.1 41 x0 → ∀ q16 : Nat, z15 = some q16 → wT_X1_newPart q16 x1 3 S (fun (S17 : kS) (o17 : Option Nat) => ∃ q18 : Nat, o17 = some q18 ∧ ∀ S19 : kS, S19 = cR S17 22 q18 (some x4) → ∀ S20 : kS, S20 = cR S19 57 x4 (some q18) → ∀ z21 : Int32, z21 = S20.1 37 x1 → ∀ z22 : Int32, z22 = z21 + 1 → ∀ S23 : kS, S23 = cI S20 37 x1 z22 → K S23)) ∧ (¬ x5 < 0 → wT_X6_pop x0 S (fun (S24 : kS) (r24 : Int32) => wT_X9_set x4 x5 r24 S24 (fun (S25 : kS) => ∀ z26 : Int32, z26 = x5 + (-1) → k41 (x0, x1, x4, z26, S25)))))
def lT_X6_beginChild_41 (K : kS → Prop) (k41 : Nat × Nat × Nat × Int32 × kS → Prop) (u : Nat × Nat × Nat × Int32 × kS) : Prop := wT_X6_beginChild_41 K k41 u.1 u.2.1 u.2.2.1 u.2.2.2.1 u.2.2.2.2
def wT_X6_beginChild (t0 : Nat) (a0 : Nat) (a1 : Int32) (a2 : Int32) (S : kS) (K : kS → Prop) : Prop := ∀ z1 : Option Nat, z1 = S.2.1 41 t0 → ∀ q2 : Nat, z1 = some q2 → wT_X1_newTask q2 a1 (some a0) S (fun (S3 : kS) (o3 : Option Nat) => ((o3 = none → wT_X6_fail t0 a0 23 a2 S3 (fun (S5 : kS) => K S5)) ∧ (∀ q4 : Nat, o3 = some q4 → ∀ z6 : Option Nat, z6 = S3.2.1 41 t0 → ∀ q7 : Nat, z6 = some q7 → ∀ z8 : Option Nat, z8 = S3.2.1 2 q7 → ∃ q9 : Nat, z8 = some q9 ∧ ∀ z10 : Option Nat, z10 = S3.2.1 34 q9 → ∀ q11 : Nat, z10 = some q11 → inR a1 12 ∧ ∀ z12 : Int32, z12 = S3.2.2.1 q11 (ix a1) → ∀ z13 : Int32, z13 = z12 - 1 → (∃ n9, it (lT_X6_beginChild_41 K) n9 (t0, a0, q4, z13, S3)))))
theorem ty_X6_beginChild_41 {d : List (Nat × cK)} {K K' : kS → Prop} {k41 k41' : Nat × Nat × Nat × Int32 × kS → Prop} (hk : ∀ (d1 : List (Nat × cK)) (S1 : kS), (∀ q, q ∈ d → q ∈ d1) → WT d1 S1 → K S1 → K' S1) (hk41 : ∀ (d1 : List (Nat × cK)) (x0 : Nat) (x1 : Nat) (x4 : Nat) (x5 : Int32), (∀ q, q ∈ d → q ∈ d1) → ((x0, Sum.inl 6) ∈ d1) → ((x1, Sum.inl 9) ∈ d1) → ((x4, Sum.inl 9) ∈ d1) → ∀ S : kS, WT d1 S → k41 (x0, x1, x4, x5, S) → k41' (x0, x1, x4, x5, S)) {x0 : Nat} {x1 : Nat} {x4 : Nat} {x5 : Int32} (t_x0 : (x0, Sum.inl 6) ∈ d) (t_x1 : (x1, Sum.inl 9) ∈ d) (t_x4 : (x4, Sum.inl 9) ∈ d) {S : kS} (hW : WT d S) (h : wT_X6_beginChild_41 K k41 x0 x1 x4 x5 S) : wp_X6_beginChild_41 K' k41' x0 x1 x4 x5 S := by
  unfold wT_X6_beginChild_41 at h
  unfold wp_X6_beginChild_41
  refine ⟨fun c => ?_, fun c => ?_⟩
  · replace h := h.1 c
    refine ⟨hasO_of hW t_x0, ?_⟩
    intro z15 e_z15
    replace h := h z15 e_z15
    have t_z15 : ∀ b, z15 = some b → (b, Sum.inl 1) ∈ d := fun b hb => hW.2.1 41 _ b t_x0 (by rw [← e_z15]; exact hb)
    have n_z15 := wt_nn (f := 41) hW (by decide) t_x0 e_z15
    obtain ⟨q16, e_q16⟩ := n_z15
    refine ⟨q16, e_q16, ?_⟩
    replace h := h q16 e_q16
    have t_q16 := t_z15 q16 e_q16
    refine ⟨hasO_of hW t_q16, ?_⟩
    refine ty_X1_newPart t_q16 t_x1 hW (fun d11 S17 o17 hu1 hW t_o17 h => ?_) h
    replace t_x0 := hu1 _ t_x0
    replace t_x1 := hu1 _ t_x1
    replace t_x4 := hu1 _ t_x4
    replace t_z15 := (fun b hb => hu1 _ (t_z15 b hb))
    replace t_q16 := hu1 _ t_q16
    have hs1 : ∀ q, q ∈ d → q ∈ d11 := fun q h => hu1 q ((fun _ h => h) q h)
    obtain ⟨q18, e_q18, h9⟩ := h
    replace h := h9
    clear h9
    refine ⟨q18, e_q18, ?_⟩
    have t_q18 := t_o17 q18 e_q18
    refine ⟨hasO_of hW t_q18, ?_⟩
    intro S19 e_S19
    replace h := h S19 e_S19
    replace hW := WT_r hW e_S19 (fun b hb => by cases hb; exact t_x4) (by decide)
    refine ⟨hasO_of hW t_x4, ?_⟩
    intro S20 e_S20
    replace h := h S20 e_S20
    replace hW := WT_r hW e_S20 (fun b hb => by cases hb; exact t_q18) (by decide)
    refine ⟨hasO_of hW t_x1, ?_⟩
    intro z21 e_z21
    replace h := h z21 e_z21
    intro z22 e_z22
    replace h := h z22 e_z22
    refine ⟨hasO_of hW t_x1, ?_⟩
    intro S23 e_S23
    replace h := h S23 e_S23
    replace hW := WT_i hW e_S23
    exact hk _ _ hs1 hW h
  · replace h := h.2 c
    refine ⟨hasO_of hW t_x0, ?_⟩
    refine ty_X6_pop t_x0 hW (fun S24 r24 hW h => ?_) h
    refine ⟨hasO_of hW t_x4, ?_⟩
    refine ty_X9_set t_x4 hW (fun S25 hW h => ?_) h
    intro z26 e_z26
    replace h := h z26 e_z26
    exact hk41 _ _ _ _ _ (fun _ h => h) t_x0 t_x1 t_x4 _ hW h
theorem tyl_X6_beginChild_41 {K K' : kS → Prop} : ∀ (n : Nat) (d : List (Nat × cK)), (∀ (d1 : List (Nat × cK)) (S1 : kS), (∀ q, q ∈ d → q ∈ d1) → WT d1 S1 → K S1 → K' S1) → ∀ (x0 : Nat) (x1 : Nat) (x4 : Nat) (x5 : Int32), ((x0, Sum.inl 6) ∈ d) → ((x1, Sum.inl 9) ∈ d) → ((x4, Sum.inl 9) ∈ d) → ∀ S : kS, WT d S → it (lT_X6_beginChild_41 K) n (x0, x1, x4, x5, S) → it (ls_X6_beginChild_41 K') n (x0, x1, x4, x5, S) := by
  intro n
  induction n with
  | zero => intro d hk x0 x1 x4 x5 t_x0 t_x1 t_x4 S hW h; exact h
  | succ n ih =>
    intro d hk x0 x1 x4 x5 t_x0 t_x1 t_x4 S hW h
    exact ty_X6_beginChild_41 hk (fun d1 x0 x1 x4 x5 hs9 t_x0 t_x1 t_x4 S1 hw9 h9 => ih d1 (fun d2 S2 hs8 hw8 h8 => hk d2 S2 (fun q hq => hs8 q (hs9 q hq)) hw8 h8) x0 x1 x4 x5 t_x0 t_x1 t_x4 S1 hw9 h9) t_x0 t_x1 t_x4 hW h
theorem ty_X6_beginChild {d : List (Nat × cK)} {t0 : Nat} {a0 : Nat} {a1 : Int32} {a2 : Int32} (t_t0 : (t0, Sum.inl 6) ∈ d) (t_a0 : (a0, Sum.inl 9) ∈ d) {S : kS} {K K' : kS → Prop} (hW : WT d S) (hk : ∀ (d1 : List (Nat × cK)) (S1 : kS), (∀ q, q ∈ d → q ∈ d1) → WT d1 S1 → K S1 → K' S1) (h : wT_X6_beginChild t0 a0 a1 a2 S K) : wp_X6_beginChild t0 a0 a1 a2 S K' := by
  unfold wT_X6_beginChild at h
  unfold wp_X6_beginChild
  refine ⟨hasO_of hW t_t0, ?_⟩
  intro z1 e_z1
  replace h := h z1 e_z1
  have t_z1 : ∀ b, z1 = some b → (b, Sum.inl 1) ∈ d := fun b hb => hW.2.1 41 _ b t_t0 (by rw [← e_z1]; exact hb)
  have n_z1 := wt_nn (f := 41) hW (by decide) t_t0 e_z1
  obtain ⟨q2, e_q2⟩ := n_z1
  refine ⟨q2, e_q2, ?_⟩
  replace h := h q2 e_q2
  have t_q2 := t_z1 q2 e_q2
  refine ⟨hasO_of hW t_q2, ?_⟩
  refine ty_X1_newTask t_q2 (fun b hb => by cases hb; exact t_a0) hW (fun d11 S3 o3 hu1 hW t_o3 h => ?_) h
  replace t_t0 := hu1 _ t_t0
  replace t_a0 := hu1 _ t_a0
  replace t_z1 := (fun b hb => hu1 _ (t_z1 b hb))
  replace t_q2 := hu1 _ t_q2
  have hs1 : ∀ q, q ∈ d → q ∈ d11 := fun q h => hu1 q ((fun _ h => h) q h)
  refine ⟨fun c => ?_, fun q4 c => ?_⟩
  · replace h := h.1 c
    refine ⟨hasO_of hW t_t0, ?_⟩
    refine ty_X6_fail t_t0 t_a0 hW (fun S5 hW h => ?_) h
    exact hk _ _ hs1 hW h
  · replace h := h.2 q4 c
    have t_q4 := t_o3 q4 c
    refine ⟨hasO_of hW t_t0, ?_⟩
    intro z6 e_z6
    replace h := h z6 e_z6
    have t_z6 : ∀ b, z6 = some b → (b, Sum.inl 1) ∈ d11 := fun b hb => hW.2.1 41 _ b t_t0 (by rw [← e_z6]; exact hb)
    have n_z6 := wt_nn (f := 41) hW (by decide) t_t0 e_z6
    obtain ⟨q7, e_q7⟩ := n_z6
    refine ⟨q7, e_q7, ?_⟩
    replace h := h q7 e_q7
    have t_q7 := t_z6 q7 e_q7
    refine ⟨hasO_of hW t_q7, ?_⟩
    intro z8 e_z8
    replace h := h z8 e_z8
    have t_z8 : ∀ b, z8 = some b → (b, Sum.inl 5) ∈ d11 := fun b hb => hW.2.1 2 _ b t_q7 (by rw [← e_z8]; exact hb)
    obtain ⟨q9, e_q9, h9⟩ := h
    replace h := h9
    clear h9
    refine ⟨q9, e_q9, ?_⟩
    have t_q9 := t_z8 q9 e_q9
    refine ⟨hasO_of hW t_q9, ?_⟩
    intro z10 e_z10
    replace h := h z10 e_z10
    have t_z10 : ∀ b, z10 = some b → (b, Sum.inr (12, 0)) ∈ d11 := fun b hb => hW.2.1 34 _ b t_q9 (by rw [← e_z10]; exact hb)
    have n_z10 := wt_nn (f := 34) hW (by decide) t_q9 e_z10
    obtain ⟨q11, e_q11⟩ := n_z10
    refine ⟨q11, e_q11, ?_⟩
    replace h := h q11 e_q11
    have t_q11 := t_z10 q11 e_q11
    refine ⟨hasA_of hW t_q11, ?_⟩
    have hin := h.1
    refine ⟨h.1, ?_⟩
    replace h := h.2
    intro z12 e_z12
    replace h := h z12 e_z12
    intro z13 e_z13
    replace h := h z13 e_z13
    obtain ⟨n9, h⟩ := h
    exact ⟨n9, tyl_X6_beginChild_41 n9 _ (fun d1 S1 hs9 hw9 h9 => hk d1 S1 (fun q hq => hs9 q (hs1 q hq)) hw9 h9) _ _ _ _ t_t0 t_a0 t_q4 _ hW h⟩
def wT_X6_attend (t0 : Nat) (a0 : Nat) (a1 : Int32) (a2 : Int32) (S : kS) (K : kS → Prop) : Prop := ∀ z1 : Option Nat, z1 = S.2.1 41 t0 → ∀ q2 : Nat, z1 = some q2 → ∀ z3 : Option Nat, z3 = S.2.1 2 q2 → ∃ q4 : Nat, z3 = some q4 ∧ ∀ z5 : Option Nat, z5 = S.2.1 29 q4 → ∀ q6 : Nat, z5 = some q6 → inR a2 8064 ∧ ∀ z7 : Int32, z7 = S.2.2.1 q6 (ix a2) → ((a1 = 25 → ∀ S9 : kS, S9 = cI S 33 a0 z7 → ∀ S10 : kS, S10 = cI S9 30 a0 5 → K S10) ∧ (¬ a1 = 25 → ((a1 = 26 → K S) ∧ (¬ a1 = 26 → ((a1 = 27 → wT_X6_beginLetter t0 a0 z7 S (fun (S13 : kS) => K S13)) ∧ (¬ a1 = 27 → ((a1 = 28 → wT_X6_pop t0 S (fun (S15 : kS) (r15 : Int32) => wT_X6_beginTick t0 a0 r15 S15 (fun (S16 : kS) => K S16))) ∧ (¬ a1 = 28 → ((a1 = 29 → ∀ z18 : Option Nat, z18 = S.2.1 41 t0 → ∀ q19 : Nat, z18 = some q19 → wT_X1_newPart q19 a0 1 S (fun (S20 : kS) (o20 : Option Nat) => ∃ q21 : Nat, o20 = some q21 ∧ wT_X6_come t0 q21 0 S20 (fun (S22 : kS) => K S22))) ∧ (¬ a1 = 29 → ((a1 = 30 → wT_X6_beginChild t0 a0 z7 a2 S (fun (S24 : kS) => K S24)) ∧ (¬ a1 = 30 → ((a1 = 31 → ∀ z26 : Option Nat, z26 = S.2.1 41 t0 → ∀ q27 : Nat, z26 = some q27 → wT_X1_newPart q27 a0 4 S (fun (S28 : kS) (o28 : Option Nat) => ∀ S29 : kS, S29 = cR S28 63 a0 o28 → ∀ z30 : Option Nat, z30 = S29.2.1 63 a0 → ∃ q31 : Nat, z30 = some q31 ∧ ∀ S32 : kS, S32 = cI S29 15 q31 z7 → K S32)) ∧ (¬ a1 = 31 → ((a1 = 32 → ∀ z34 : Option Nat, z34 = S.2.1 41 t0 → ∀ q35 : Nat, z34 = some q35 → wT_X1_newPart q35 a0 5 S (fun (S36 : kS) (o36 : Option Nat) => ∀ S37 : kS, S37 = cR S36 63 a0 o36 → K S37)) ∧ (¬ a1 = 32 → ((a1 = 33 → ∀ z39 : Option Nat, z39 = S.2.1 41 t0 → ∀ q40 : Nat, z39 = some q40 → wT_X1_newPart q40 a0 6 S (fun (S41 : kS) (o41 : Option Nat) => ∀ S42 : kS, S42 = cR S41 63 a0 o41 → ∀ z43 : Option Nat, z43 = S42.2.1 63 a0 → wT_X6_pop t0 S42 (fun (S44 : kS) (r44 : Int32) => ∃ q45 : Nat, z43 = some q45 ∧ ∀ S46 : kS, S46 = cI S44 15 q45 r44 → K S46))) ∧ (¬ a1 = 33 → ((a1 = 34 → wT_X6_closePart t0 a0 S (fun (S48 : kS) => K S48)) ∧ (¬ a1 = 34 → ∀ S49 : kS, S49 = cI S 36 a0 a2 → ∀ S50 : kS, S50 = cI S49 22 t0 1 → K S50))))))))))))))))))))
theorem ty_X6_attend {d : List (Nat × cK)} {t0 : Nat} {a0 : Nat} {a1 : Int32} {a2 : Int32} (t_t0 : (t0, Sum.inl 6) ∈ d) (t_a0 : (a0, Sum.inl 9) ∈ d) {S : kS} {K K' : kS → Prop} (hW : WT d S) (hk : ∀ (d1 : List (Nat × cK)) (S1 : kS), (∀ q, q ∈ d → q ∈ d1) → WT d1 S1 → K S1 → K' S1) (h : wT_X6_attend t0 a0 a1 a2 S K) : wp_X6_attend t0 a0 a1 a2 S K' := by
  unfold wT_X6_attend at h
  unfold wp_X6_attend
  refine ⟨hasO_of hW t_t0, ?_⟩
  intro z1 e_z1
  replace h := h z1 e_z1
  have t_z1 : ∀ b, z1 = some b → (b, Sum.inl 1) ∈ d := fun b hb => hW.2.1 41 _ b t_t0 (by rw [← e_z1]; exact hb)
  have n_z1 := wt_nn (f := 41) hW (by decide) t_t0 e_z1
  obtain ⟨q2, e_q2⟩ := n_z1
  refine ⟨q2, e_q2, ?_⟩
  replace h := h q2 e_q2
  have t_q2 := t_z1 q2 e_q2
  refine ⟨hasO_of hW t_q2, ?_⟩
  intro z3 e_z3
  replace h := h z3 e_z3
  have t_z3 : ∀ b, z3 = some b → (b, Sum.inl 5) ∈ d := fun b hb => hW.2.1 2 _ b t_q2 (by rw [← e_z3]; exact hb)
  obtain ⟨q4, e_q4, h9⟩ := h
  replace h := h9
  clear h9
  refine ⟨q4, e_q4, ?_⟩
  have t_q4 := t_z3 q4 e_q4
  refine ⟨hasO_of hW t_q4, ?_⟩
  intro z5 e_z5
  replace h := h z5 e_z5
  have t_z5 : ∀ b, z5 = some b → (b, Sum.inr (8064, 0)) ∈ d := fun b hb => hW.2.1 29 _ b t_q4 (by rw [← e_z5]; exact hb)
  have n_z5 := wt_nn (f := 29) hW (by decide) t_q4 e_z5
  obtain ⟨q6, e_q6⟩ := n_z5
  refine ⟨q6, e_q6, ?_⟩
  replace h := h q6 e_q6
  have t_q6 := t_z5 q6 e_q6
  refine ⟨hasA_of hW t_q6, ?_⟩
  have hin := h.1
  refine ⟨h.1, ?_⟩
  replace h := h.2
  intro z7 e_z7
  replace h := h z7 e_z7
  refine ⟨fun c => ?_, fun c => ?_⟩
  · replace h := h.1 c
    refine ⟨hasO_of hW t_a0, ?_⟩
    intro S9 e_S9
    replace h := h S9 e_S9
    replace hW := WT_i hW e_S9
    refine ⟨hasO_of hW t_a0, ?_⟩
    intro S10 e_S10
    replace h := h S10 e_S10
    replace hW := WT_i hW e_S10
    exact hk _ _ (fun _ h => h) hW h
  · replace h := h.2 c
    refine ⟨fun c => ?_, fun c => ?_⟩
    · replace h := h.1 c
      exact hk _ _ (fun _ h => h) hW h
    · replace h := h.2 c
      refine ⟨fun c => ?_, fun c => ?_⟩
      · replace h := h.1 c
        refine ⟨hasO_of hW t_t0, ?_⟩
        refine ty_X6_beginLetter t_t0 t_a0 hW (fun d11 S13 hu1 hW h => ?_) h
        replace t_t0 := hu1 _ t_t0
        replace t_a0 := hu1 _ t_a0
        replace t_z1 := (fun b hb => hu1 _ (t_z1 b hb))
        replace t_q2 := hu1 _ t_q2
        replace t_z3 := (fun b hb => hu1 _ (t_z3 b hb))
        replace t_q4 := hu1 _ t_q4
        replace t_z5 := (fun b hb => hu1 _ (t_z5 b hb))
        replace t_q6 := hu1 _ t_q6
        have hs1 : ∀ q, q ∈ d → q ∈ d11 := fun q h => hu1 q ((fun _ h => h) q h)
        exact hk _ _ hs1 hW h
      · replace h := h.2 c
        refine ⟨fun c => ?_, fun c => ?_⟩
        · replace h := h.1 c
          refine ⟨hasO_of hW t_t0, ?_⟩
          refine ty_X6_pop t_t0 hW (fun S15 r15 hW h => ?_) h
          refine ⟨hasO_of hW t_t0, ?_⟩
          refine ty_X6_beginTick t_t0 t_a0 hW (fun d12 S16 hu2 hW h => ?_) h
          replace t_t0 := hu2 _ t_t0
          replace t_a0 := hu2 _ t_a0
          replace t_z1 := (fun b hb => hu2 _ (t_z1 b hb))
          replace t_q2 := hu2 _ t_q2
          replace t_z3 := (fun b hb => hu2 _ (t_z3 b hb))
          replace t_q4 := hu2 _ t_q4
          replace t_z5 := (fun b hb => hu2 _ (t_z5 b hb))
          replace t_q6 := hu2 _ t_q6
          have hs2 : ∀ q, q ∈ d → q ∈ d12 := fun q h => hu2 q ((fun _ h => h) q h)
          exact hk _ _ hs2 hW h
        · replace h := h.2 c
          refine ⟨fun c => ?_, fun c => ?_⟩
          · replace h := h.1 c
            refine ⟨hasO_of hW t_t0, ?_⟩
            intro z18 e_z18
            replace h := h z18 e_z18
            have t_z18 : ∀ b, z18 = some b → (b, Sum.inl 1) ∈ d := fun b hb => hW.2.1 41 _ b t_t0 (by rw [← e_z18]; exact hb)
            have n_z18 := wt_nn (f := 41) hW (by decide) t_t0 e_z18
            obtain ⟨q19, e_q19⟩ := n_z18
            refine ⟨q19, e_q19, ?_⟩
            replace h := h q19 e_q19
            have t_q19 := t_z18 q19 e_q19
            refine ⟨hasO_of hW t_q19, ?_⟩
            refine ty_X1_newPart t_q19 t_a0 hW (fun d13 S20 o20 hu3 hW t_o20 h => ?_) h
            replace t_t0 := hu3 _ t_t0
            replace t_a0 := hu3 _ t_a0
            replace t_z1 := (fun b hb => hu3 _ (t_z1 b hb))
            replace t_q2 := hu3 _ t_q2
            replace t_z3 := (fun b hb => hu3 _ (t_z3 b hb))
            replace t_q4 := hu3 _ t_q4
            replace t_z5 := (fun b hb => hu3 _ (t_z5 b hb))
            replace t_q6 := hu3 _ t_q6
            replace t_z18 := (fun b hb => hu3 _ (t_z18 b hb))
            replace t_q19 := hu3 _ t_q19
            have hs3 : ∀ q, q ∈ d → q ∈ d13 := fun q h => hu3 q ((fun _ h => h) q h)
            obtain ⟨q21, e_q21, h9⟩ := h
            replace h := h9
            clear h9
            refine ⟨q21, e_q21, ?_⟩
            have t_q21 := t_o20 q21 e_q21
            refine ⟨hasO_of hW t_t0, ?_⟩
            refine ty_X6_come t_t0 t_q21 hW (fun S22 hW h => ?_) h
            exact hk _ _ hs3 hW h
          · replace h := h.2 c
            refine ⟨fun c => ?_, fun c => ?_⟩
            · replace h := h.1 c
              refine ⟨hasO_of hW t_t0, ?_⟩
              refine ty_X6_beginChild t_t0 t_a0 hW (fun d14 S24 hu4 hW h => ?_) h
              replace t_t0 := hu4 _ t_t0
              replace t_a0 := hu4 _ t_a0
              replace t_z1 := (fun b hb => hu4 _ (t_z1 b hb))
              replace t_q2 := hu4 _ t_q2
              replace t_z3 := (fun b hb => hu4 _ (t_z3 b hb))
              replace t_q4 := hu4 _ t_q4
              replace t_z5 := (fun b hb => hu4 _ (t_z5 b hb))
              replace t_q6 := hu4 _ t_q6
              have hs4 : ∀ q, q ∈ d → q ∈ d14 := fun q h => hu4 q ((fun _ h => h) q h)
              exact hk _ _ hs4 hW h
            · replace h := h.2 c
              refine ⟨fun c => ?_, fun c => ?_⟩
              · replace h := h.1 c
                refine ⟨hasO_of hW t_t0, ?_⟩
                intro z26 e_z26
                replace h := h z26 e_z26
                have t_z26 : ∀ b, z26 = some b → (b, Sum.inl 1) ∈ d := fun b hb => hW.2.1 41 _ b t_t0 (by rw [← e_z26]; exact hb)
                have n_z26 := wt_nn (f := 41) hW (by decide) t_t0 e_z26
                obtain ⟨q27, e_q27⟩ := n_z26
                refine ⟨q27, e_q27, ?_⟩
                replace h := h q27 e_q27
                have t_q27 := t_z26 q27 e_q27
                refine ⟨hasO_of hW t_q27, ?_⟩
                refine ty_X1_newPart t_q27 t_a0 hW (fun d15 S28 o28 hu5 hW t_o28 h => ?_) h
                replace t_t0 := hu5 _ t_t0
                replace t_a0 := hu5 _ t_a0
                replace t_z1 := (fun b hb => hu5 _ (t_z1 b hb))
                replace t_q2 := hu5 _ t_q2
                replace t_z3 := (fun b hb => hu5 _ (t_z3 b hb))
                replace t_q4 := hu5 _ t_q4
                replace t_z5 := (fun b hb => hu5 _ (t_z5 b hb))
                replace t_q6 := hu5 _ t_q6
                replace t_z26 := (fun b hb => hu5 _ (t_z26 b hb))
                replace t_q27 := hu5 _ t_q27
                have hs5 : ∀ q, q ∈ d → q ∈ d15 := fun q h => hu5 q ((fun _ h => h) q h)
                refine ⟨hasO_of hW t_a0, ?_⟩
                intro S29 e_S29
                replace h := h S29 e_S29
                replace hW := WT_r hW e_S29 t_o28 (by decide)
                refine ⟨hasO_of hW t_a0, ?_⟩
                intro z30 e_z30
                replace h := h z30 e_z30
                have t_z30 : ∀ b, z30 = some b → (b, Sum.inl 4) ∈ d15 := fun b hb => hW.2.1 63 _ b t_a0 (by rw [← e_z30]; exact hb)
                obtain ⟨q31, e_q31, h9⟩ := h
                replace h := h9
                clear h9
                refine ⟨q31, e_q31, ?_⟩
                have t_q31 := t_z30 q31 e_q31
                refine ⟨hasO_of hW t_q31, ?_⟩
                intro S32 e_S32
                replace h := h S32 e_S32
                replace hW := WT_i hW e_S32
                exact hk _ _ hs5 hW h
              · replace h := h.2 c
                refine ⟨fun c => ?_, fun c => ?_⟩
                · replace h := h.1 c
                  refine ⟨hasO_of hW t_t0, ?_⟩
                  intro z34 e_z34
                  replace h := h z34 e_z34
                  have t_z34 : ∀ b, z34 = some b → (b, Sum.inl 1) ∈ d := fun b hb => hW.2.1 41 _ b t_t0 (by rw [← e_z34]; exact hb)
                  have n_z34 := wt_nn (f := 41) hW (by decide) t_t0 e_z34
                  obtain ⟨q35, e_q35⟩ := n_z34
                  refine ⟨q35, e_q35, ?_⟩
                  replace h := h q35 e_q35
                  have t_q35 := t_z34 q35 e_q35
                  refine ⟨hasO_of hW t_q35, ?_⟩
                  refine ty_X1_newPart t_q35 t_a0 hW (fun d16 S36 o36 hu6 hW t_o36 h => ?_) h
                  replace t_t0 := hu6 _ t_t0
                  replace t_a0 := hu6 _ t_a0
                  replace t_z1 := (fun b hb => hu6 _ (t_z1 b hb))
                  replace t_q2 := hu6 _ t_q2
                  replace t_z3 := (fun b hb => hu6 _ (t_z3 b hb))
                  replace t_q4 := hu6 _ t_q4
                  replace t_z5 := (fun b hb => hu6 _ (t_z5 b hb))
                  replace t_q6 := hu6 _ t_q6
                  replace t_z34 := (fun b hb => hu6 _ (t_z34 b hb))
                  replace t_q35 := hu6 _ t_q35
                  have hs6 : ∀ q, q ∈ d → q ∈ d16 := fun q h => hu6 q ((fun _ h => h) q h)
                  refine ⟨hasO_of hW t_a0, ?_⟩
                  intro S37 e_S37
                  replace h := h S37 e_S37
                  replace hW := WT_r hW e_S37 t_o36 (by decide)
                  exact hk _ _ hs6 hW h
                · replace h := h.2 c
                  refine ⟨fun c => ?_, fun c => ?_⟩
                  · replace h := h.1 c
                    refine ⟨hasO_of hW t_t0, ?_⟩
                    intro z39 e_z39
                    replace h := h z39 e_z39
                    have t_z39 : ∀ b, z39 = some b → (b, Sum.inl 1) ∈ d := fun b hb => hW.2.1 41 _ b t_t0 (by rw [← e_z39]; exact hb)
                    have n_z39 := wt_nn (f := 41) hW (by decide) t_t0 e_z39
                    obtain ⟨q40, e_q40⟩ := n_z39
                    refine ⟨q40, e_q40, ?_⟩
                    replace h := h q40 e_q40
                    have t_q40 := t_z39 q40 e_q40
                    refine ⟨hasO_of hW t_q40, ?_⟩
                    refine ty_X1_newPart t_q40 t_a0 hW (fun d17 S41 o41 hu7 hW t_o41 h => ?_) h
                    replace t_t0 := hu7 _ t_t0
                    replace t_a0 := hu7 _ t_a0
                    replace t_z1 := (fun b hb => hu7 _ (t_z1 b hb))
                    replace t_q2 := hu7 _ t_q2
                    replace t_z3 := (fun b hb => hu7 _ (t_z3 b hb))
                    replace t_q4 := hu7 _ t_q4
                    replace t_z5 := (fun b hb => hu7 _ (t_z5 b hb))
                    replace t_q6 := hu7 _ t_q6
                    replace t_z39 := (fun b hb => hu7 _ (t_z39 b hb))
                    replace t_q40 := hu7 _ t_q40
                    have hs7 : ∀ q, q ∈ d → q ∈ d17 := fun q h => hu7 q ((fun _ h => h) q h)
                    refine ⟨hasO_of hW t_a0, ?_⟩
                    intro S42 e_S42
                    replace h := h S42 e_S42
                    replace hW := WT_r hW e_S42 t_o41 (by decide)
                    refine ⟨hasO_of hW t_a0, ?_⟩
                    intro z43 e_z43
                    replace h := h z43 e_z43
                    have t_z43 : ∀ b, z43 = some b → (b, Sum.inl 4) ∈ d17 := fun b hb => hW.2.1 63 _ b t_a0 (by rw [← e_z43]; exact hb)
                    refine ⟨hasO_of hW t_t0, ?_⟩
                    refine ty_X6_pop t_t0 hW (fun S44 r44 hW h => ?_) h
                    obtain ⟨q45, e_q45, h9⟩ := h
                    replace h := h9
                    clear h9
                    refine ⟨q45, e_q45, ?_⟩
                    have t_q45 := t_z43 q45 e_q45
                    refine ⟨hasO_of hW t_q45, ?_⟩
                    intro S46 e_S46
                    replace h := h S46 e_S46
                    replace hW := WT_i hW e_S46
                    exact hk _ _ hs7 hW h
                  · replace h := h.2 c
                    refine ⟨fun c => ?_, fun c => ?_⟩
                    · replace h := h.1 c
                      refine ⟨hasO_of hW t_t0, ?_⟩
                      refine ty_X6_closePart t_t0 t_a0 hW (fun S48 hW h => ?_) h
                      exact hk _ _ (fun _ h => h) hW h
                    · replace h := h.2 c
                      refine ⟨hasO_of hW t_a0, ?_⟩
                      intro S49 e_S49
                      replace h := h S49 e_S49
                      replace hW := WT_i hW e_S49
                      refine ⟨hasO_of hW t_t0, ?_⟩
                      intro S50 e_S50
                      replace h := h S50 e_S50
                      replace hW := WT_i hW e_S50
                      exact hk _ _ (fun _ h => h) hW h
def wT_X6_act_65 (K : kS → Prop) (x0 : Nat) (x1 : Nat) (x3 : Int32) (x4 : Int32) (S : kS) : Prop := ∀ z17 : Int32, z17 = x3 + 1 → ∀ S18 : kS, S18 = cI S 36 x1 z17 → ((12 < x4 → ((24 < x4 → wT_X6_attend x0 x1 x4 x3 S18 (fun (S21 : kS) => K S21)) ∧ (¬ 24 < x4 → wT_X6_flow x0 x1 x4 x3 S18 (fun (S22 : kS) => K S22)))) ∧ (¬ 12 < x4 → wT_X6_reckon x0 x1 x4 x3 S18 (fun (S23 : kS) => K S23)))
def wT_X6_act_25 (K : kS → Prop) (x0 : Nat) (x1 : Nat) (S : kS) : Prop := wT_X6_end x0 x1 0 0 S (fun (S24 : kS) => K S24)
def wT_X6_act (t0 : Nat) (a0 : Nat) (S : kS) (K : kS → Prop) : Prop := ∀ z1 : Option Nat, z1 = S.2.1 41 t0 → ∀ q2 : Nat, z1 = some q2 → ∀ z3 : Option Nat, z3 = S.2.1 2 q2 → ∀ z4 : Int32, z4 = S.1 36 a0 → ((z4 < 0 → wT_X6_act_25 K t0 a0 S) ∧ (¬ z4 < 0 → ∃ q6 : Nat, z3 = some q6 ∧ ∀ z7 : Int32, z7 = S.1 17 q6 → ((z4 < z7 → ∀ z9 : Option Nat, z9 = S.2.1 28 q6 → ∀ q10 : Nat, z9 = some q10 → inR z4 8064 ∧ ∀ z11 : Int32, z11 = S.2.2.1 q10 (ix z4) → wT_X5_isStep z11 S (fun (S12 : kS) (r12 : Int32) => ((r12 = 0 → wT_X6_act_65 K t0 a0 z4 z11 S12) ∧ (¬ r12 = 0 → wT_X6_step t0 S12 (fun (S14 : kS) (r14 : Int32) => ((¬ r14 = 0 → wT_X6_act_65 K t0 a0 z4 z11 S14) ∧ (r14 = 0 → wT_X6_end t0 a0 24 0 S14 (fun (S16 : kS) => K S16)))))))) ∧ (¬ z4 < z7 → wT_X6_act_25 K t0 a0 S))))
theorem ty_X6_act_65 {d : List (Nat × cK)} {K K' : kS → Prop} (hk : ∀ (d1 : List (Nat × cK)) (S1 : kS), (∀ q, q ∈ d → q ∈ d1) → WT d1 S1 → K S1 → K' S1) {x0 : Nat} {x1 : Nat} {x3 : Int32} {x4 : Int32} (t_x0 : (x0, Sum.inl 6) ∈ d) (t_x1 : (x1, Sum.inl 9) ∈ d) {S : kS} (hW : WT d S) (h : wT_X6_act_65 K x0 x1 x3 x4 S) : wp_X6_act_65 K' x0 x1 x3 x4 S := by
  unfold wT_X6_act_65 at h
  unfold wp_X6_act_65
  intro z17 e_z17
  replace h := h z17 e_z17
  refine ⟨hasO_of hW t_x1, ?_⟩
  intro S18 e_S18
  replace h := h S18 e_S18
  replace hW := WT_i hW e_S18
  refine ⟨fun c => ?_, fun c => ?_⟩
  · replace h := h.1 c
    refine ⟨fun c => ?_, fun c => ?_⟩
    · replace h := h.1 c
      refine ⟨hasO_of hW t_x0, ?_⟩
      refine ty_X6_attend t_x0 t_x1 hW (fun d11 S21 hu1 hW h => ?_) h
      replace t_x0 := hu1 _ t_x0
      replace t_x1 := hu1 _ t_x1
      have hs1 : ∀ q, q ∈ d → q ∈ d11 := fun q h => hu1 q ((fun _ h => h) q h)
      exact hk _ _ hs1 hW h
    · replace h := h.2 c
      refine ⟨hasO_of hW t_x0, ?_⟩
      refine ty_X6_flow t_x0 t_x1 hW (fun S22 hW h => ?_) h
      exact hk _ _ (fun _ h => h) hW h
  · replace h := h.2 c
    refine ⟨hasO_of hW t_x0, ?_⟩
    refine ty_X6_reckon t_x0 t_x1 hW (fun S23 hW h => ?_) h
    exact hk _ _ (fun _ h => h) hW h
theorem ty_X6_act_25 {d : List (Nat × cK)} {K K' : kS → Prop} (hk : ∀ (d1 : List (Nat × cK)) (S1 : kS), (∀ q, q ∈ d → q ∈ d1) → WT d1 S1 → K S1 → K' S1) {x0 : Nat} {x1 : Nat} (t_x0 : (x0, Sum.inl 6) ∈ d) (t_x1 : (x1, Sum.inl 9) ∈ d) {S : kS} (hW : WT d S) (h : wT_X6_act_25 K x0 x1 S) : wp_X6_act_25 K' x0 x1 S := by
  unfold wT_X6_act_25 at h
  unfold wp_X6_act_25
  refine ⟨hasO_of hW t_x0, ?_⟩
  refine ty_X6_end t_x0 t_x1 hW (fun S24 hW h => ?_) h
  exact hk _ _ (fun _ h => h) hW h
theorem ty_X6_act {d : List (Nat × cK)} {t0 : Nat} {a0 : Nat} (t_t0 : (t0, Sum.inl 6) ∈ d) (t_a0 : (a0, Sum.inl 9) ∈ d) {S : kS} {K K' : kS → Prop} (hW : WT d S) (hk : ∀ (d1 : List (Nat × cK)) (S1 : kS), (∀ q, q ∈ d → q ∈ d1) → WT d1 S1 → K S1 → K' S1) (h : wT_X6_act t0 a0 S K) : wp_X6_act t0 a0 S K' := by
  unfold wT_X6_act at h
  unfold wp_X6_act
  refine ⟨hasO_of hW t_t0, ?_⟩
  intro z1 e_z1
  replace h := h z1 e_z1
  have t_z1 : ∀ b, z1 = some b → (b, Sum.inl 1) ∈ d := fun b hb => hW.2.1 41 _ b t_t0 (by rw [← e_z1]; exact hb)
  have n_z1 := wt_nn (f := 41) hW (by decide) t_t0 e_z1
  obtain ⟨q2, e_q2⟩ := n_z1
  refine ⟨q2, e_q2, ?_⟩
  replace h := h q2 e_q2
  have t_q2 := t_z1 q2 e_q2
  refine ⟨hasO_of hW t_q2, ?_⟩
  intro z3 e_z3
  replace h := h z3 e_z3
  have t_z3 : ∀ b, z3 = some b → (b, Sum.inl 5) ∈ d := fun b hb => hW.2.1 2 _ b t_q2 (by rw [← e_z3]; exact hb)
  refine ⟨hasO_of hW t_a0, ?_⟩
  intro z4 e_z4
  replace h := h z4 e_z4
  refine ⟨fun c => ?_, fun c => ?_⟩
  · replace h := h.1 c
    exact ty_X6_act_25 (fun d1 S1 hs9 hw9 h9 => hk d1 S1 (fun q hq => hs9 q ((fun _ h => h) q hq)) hw9 h9) t_t0 t_a0 hW h
  · replace h := h.2 c
    obtain ⟨q6, e_q6, h9⟩ := h
    replace h := h9
    clear h9
    refine ⟨q6, e_q6, ?_⟩
    have t_q6 := t_z3 q6 e_q6
    refine ⟨hasO_of hW t_q6, ?_⟩
    intro z7 e_z7
    replace h := h z7 e_z7
    refine ⟨fun c => ?_, fun c => ?_⟩
    · replace h := h.1 c
      refine ⟨hasO_of hW t_q6, ?_⟩
      intro z9 e_z9
      replace h := h z9 e_z9
      have t_z9 : ∀ b, z9 = some b → (b, Sum.inr (8064, 0)) ∈ d := fun b hb => hW.2.1 28 _ b t_q6 (by rw [← e_z9]; exact hb)
      have n_z9 := wt_nn (f := 28) hW (by decide) t_q6 e_z9
      obtain ⟨q10, e_q10⟩ := n_z9
      refine ⟨q10, e_q10, ?_⟩
      replace h := h q10 e_q10
      have t_q10 := t_z9 q10 e_q10
      refine ⟨hasA_of hW t_q10, ?_⟩
      have hin := h.1
      refine ⟨h.1, ?_⟩
      replace h := h.2
      intro z11 e_z11
      replace h := h z11 e_z11
      refine ty_X5_isStep  hW (fun S12 r12 hW h => ?_) h
      refine ⟨fun c => ?_, fun c => ?_⟩
      · replace h := h.1 c
        exact ty_X6_act_65 (fun d1 S1 hs9 hw9 h9 => hk d1 S1 (fun q hq => hs9 q ((fun _ h => h) q hq)) hw9 h9) t_t0 t_a0 hW h
      · replace h := h.2 c
        refine ⟨hasO_of hW t_t0, ?_⟩
        refine ty_X6_step t_t0 hW (fun S14 r14 hW h => ?_) h
        refine ⟨fun c => ?_, fun c => ?_⟩
        · replace h := h.1 c
          exact ty_X6_act_65 (fun d1 S1 hs9 hw9 h9 => hk d1 S1 (fun q hq => hs9 q ((fun _ h => h) q hq)) hw9 h9) t_t0 t_a0 hW h
        · replace h := h.2 c
          refine ⟨hasO_of hW t_t0, ?_⟩
          refine ty_X6_end t_t0 t_a0 hW (fun S16 hW h => ?_) h
          exact hk _ _ (fun _ h => h) hW h
    · replace h := h.2 c
      exact ty_X6_act_25 (fun d1 S1 hs9 hw9 h9 => hk d1 S1 (fun q hq => hs9 q ((fun _ h => h) q hq)) hw9 h9) t_t0 t_a0 hW h
def wT_X6_takeTurn_61 (K : kS → Int32 → Prop) (n0 : Nat) (x0 : Nat) (x2 : Nat) (S : kS) : Prop := ∀ z14 : Int32, z14 = S.1 22 x0 → ((¬ z14 = 1 → ∀ z16 : Int32, z16 = S.1 22 x0 → ((¬ z16 = 2 → ∀ z18 : Option Nat, z18 = S.2.1 41 x0 → ∀ q19 : Nat, z18 = some q19 → wT_X1_end q19 x2 S (fun (S20 : kS) => ∀ z21 : Int32, z21 = S20.1 28 x2 → K S20 z21)) ∧ (z16 = 2 → ∀ z22 : Option Nat, z22 = S.2.1 41 x0 → ∀ z23 : Int32, z23 = S.1 23 x0 → ∀ q24 : Nat, z22 = some q24 → wT_X1_breakOff q24 x2 z23 S (fun (S25 : kS) => ∀ z26 : Int32, z26 = S25.1 28 x2 → K S25 z26)))) ∧ (z14 = 1 → ∀ z27 : Option Nat, z27 = S.2.1 41 x0 → ∀ q28 : Nat, z27 = some q28 → wT_X1_stand q28 x2 S (fun (S29 : kS) => ∀ z30 : Int32, z30 = S29.1 28 x2 → K S29 z30)))
def wT_X6_takeTurn_37 (K : kS → Int32 → Prop) (n0 : Nat) (k37 : Nat × Nat × Int32 × kS → Prop) (x0 : Nat) (x2 : Nat) (x3 : Int32) (S : kS) : Prop := ((1000000 ≤ x3 → wT_X6_takeTurn_61 K n0 x0 x2 S) ∧ (¬ 1000000 ≤ x3 → ∀ z10 : Int32, z10 = S.1 22 x0 → ((¬ z10 = 0 → wT_X6_takeTurn_61 K n0 x0 x2 S) ∧ (z10 = 0 → cnt S + 5 ≤ n0 + 4000 ∧ wT_X6_act x0 x2 S (fun (S12 : kS) => ∀ z13 : Int32, z13 = x3 + 1 → k37 (x0, x2, z13, S12))))))
def lT_X6_takeTurn_37 (K : kS → Int32 → Prop) (n0 : Nat) (k37 : Nat × Nat × Int32 × kS → Prop) (u : Nat × Nat × Int32 × kS) : Prop := wT_X6_takeTurn_37 K n0 k37 u.1 u.2.1 u.2.2.1 u.2.2.2
def wT_X6_takeTurn (t0 : Nat) (a0 : Int32) (S : kS) (K : kS → Int32 → Prop) : Prop := ∀ z1 : Option Nat, z1 = S.2.1 41 t0 → ∀ q2 : Nat, z1 = some q2 → wT_X1_leaveRow q2 a0 S (fun (S3 : kS) (o3 : Option Nat) => ((o3 = none → K S3 (-1)) ∧ (∀ q4 : Nat, o3 = some q4 → ∀ S5 : kS, S5 = cI S3 20 t0 0 → ∀ S6 : kS, S6 = cI S5 21 t0 0 → ∀ S7 : kS, S7 = cI S6 22 t0 0 → wT_X6_wake t0 q4 S7 (fun (S8 : kS) => (∃ n9, it (lT_X6_takeTurn_37 K (cnt S)) n9 (t0, q4, 0, S8))))))
theorem ty_X6_takeTurn_61 {d : List (Nat × cK)} {K K' : kS → Int32 → Prop} {n0 : Nat} (hk : ∀ (d1 : List (Nat × cK)) (S1 : kS) (r1 : Int32), (∀ q, q ∈ d → q ∈ d1) → WT d1 S1 → K S1 r1 → K' S1 r1) {x0 : Nat} {x2 : Nat} (t_x0 : (x0, Sum.inl 6) ∈ d) (t_x2 : (x2, Sum.inl 9) ∈ d) {S : kS} (hW : WT d S) (h : wT_X6_takeTurn_61 K n0 x0 x2 S) : wp_X6_takeTurn_61 K' n0 x0 x2 S := by
  unfold wT_X6_takeTurn_61 at h
  unfold wp_X6_takeTurn_61
  refine ⟨hasO_of hW t_x0, ?_⟩
  intro z14 e_z14
  replace h := h z14 e_z14
  refine ⟨fun c => ?_, fun c => ?_⟩
  · replace h := h.1 c
    refine ⟨hasO_of hW t_x0, ?_⟩
    intro z16 e_z16
    replace h := h z16 e_z16
    refine ⟨fun c => ?_, fun c => ?_⟩
    · replace h := h.1 c
      refine ⟨hasO_of hW t_x0, ?_⟩
      intro z18 e_z18
      replace h := h z18 e_z18
      have t_z18 : ∀ b, z18 = some b → (b, Sum.inl 1) ∈ d := fun b hb => hW.2.1 41 _ b t_x0 (by rw [← e_z18]; exact hb)
      have n_z18 := wt_nn (f := 41) hW (by decide) t_x0 e_z18
      obtain ⟨q19, e_q19⟩ := n_z18
      refine ⟨q19, e_q19, ?_⟩
      replace h := h q19 e_q19
      have t_q19 := t_z18 q19 e_q19
      refine ⟨hasO_of hW t_q19, ?_⟩
      refine ty_X1_end t_q19 t_x2 hW (fun S20 hW h => ?_) h
      refine ⟨hasO_of hW t_x2, ?_⟩
      intro z21 e_z21
      replace h := h z21 e_z21
      exact hk _ _ _ (fun _ h => h) hW h
    · replace h := h.2 c
      refine ⟨hasO_of hW t_x0, ?_⟩
      intro z22 e_z22
      replace h := h z22 e_z22
      have t_z22 : ∀ b, z22 = some b → (b, Sum.inl 1) ∈ d := fun b hb => hW.2.1 41 _ b t_x0 (by rw [← e_z22]; exact hb)
      have n_z22 := wt_nn (f := 41) hW (by decide) t_x0 e_z22
      refine ⟨hasO_of hW t_x0, ?_⟩
      intro z23 e_z23
      replace h := h z23 e_z23
      obtain ⟨q24, e_q24⟩ := n_z22
      refine ⟨q24, e_q24, ?_⟩
      replace h := h q24 e_q24
      have t_q24 := t_z22 q24 e_q24
      refine ⟨hasO_of hW t_q24, ?_⟩
      refine ty_X1_breakOff t_q24 t_x2 hW (fun S25 hW h => ?_) h
      refine ⟨hasO_of hW t_x2, ?_⟩
      intro z26 e_z26
      replace h := h z26 e_z26
      exact hk _ _ _ (fun _ h => h) hW h
  · replace h := h.2 c
    refine ⟨hasO_of hW t_x0, ?_⟩
    intro z27 e_z27
    replace h := h z27 e_z27
    have t_z27 : ∀ b, z27 = some b → (b, Sum.inl 1) ∈ d := fun b hb => hW.2.1 41 _ b t_x0 (by rw [← e_z27]; exact hb)
    have n_z27 := wt_nn (f := 41) hW (by decide) t_x0 e_z27
    obtain ⟨q28, e_q28⟩ := n_z27
    refine ⟨q28, e_q28, ?_⟩
    replace h := h q28 e_q28
    have t_q28 := t_z27 q28 e_q28
    refine ⟨hasO_of hW t_q28, ?_⟩
    refine ty_X1_stand t_q28 t_x2 hW (fun S29 hW h => ?_) h
    refine ⟨hasO_of hW t_x2, ?_⟩
    intro z30 e_z30
    replace h := h z30 e_z30
    exact hk _ _ _ (fun _ h => h) hW h
theorem ty_X6_takeTurn_37 {d : List (Nat × cK)} {K K' : kS → Int32 → Prop} {n0 : Nat} {k37 k37' : Nat × Nat × Int32 × kS → Prop} (hk : ∀ (d1 : List (Nat × cK)) (S1 : kS) (r1 : Int32), (∀ q, q ∈ d → q ∈ d1) → WT d1 S1 → K S1 r1 → K' S1 r1) (hk37 : ∀ (d1 : List (Nat × cK)) (x0 : Nat) (x2 : Nat) (x3 : Int32), (∀ q, q ∈ d → q ∈ d1) → ((x0, Sum.inl 6) ∈ d1) → ((x2, Sum.inl 9) ∈ d1) → ∀ S : kS, WT d1 S → k37 (x0, x2, x3, S) → k37' (x0, x2, x3, S)) {x0 : Nat} {x2 : Nat} {x3 : Int32} (t_x0 : (x0, Sum.inl 6) ∈ d) (t_x2 : (x2, Sum.inl 9) ∈ d) {S : kS} (hW : WT d S) (h : wT_X6_takeTurn_37 K n0 k37 x0 x2 x3 S) : wp_X6_takeTurn_37 K' n0 k37' x0 x2 x3 S := by
  unfold wT_X6_takeTurn_37 at h
  unfold wp_X6_takeTurn_37
  refine ⟨fun c => ?_, fun c => ?_⟩
  · replace h := h.1 c
    exact ty_X6_takeTurn_61 (fun d1 S1 r1 hs9 hw9 h9 => hk d1 S1 r1 (fun q hq => hs9 q ((fun _ h => h) q hq)) hw9 h9) t_x0 t_x2 hW h
  · replace h := h.2 c
    refine ⟨hasO_of hW t_x0, ?_⟩
    intro z10 e_z10
    replace h := h z10 e_z10
    refine ⟨fun c => ?_, fun c => ?_⟩
    · replace h := h.1 c
      exact ty_X6_takeTurn_61 (fun d1 S1 r1 hs9 hw9 h9 => hk d1 S1 r1 (fun q hq => hs9 q ((fun _ h => h) q hq)) hw9 h9) t_x0 t_x2 hW h
    · replace h := h.2 c
      refine ⟨hasO_of hW t_x0, ?_⟩
      have hin := h.1
      refine ⟨h.1, ?_⟩
      replace h := h.2
      refine ty_X6_act t_x0 t_x2 hW (fun d11 S12 hu1 hW h => ?_) h
      replace t_x0 := hu1 _ t_x0
      replace t_x2 := hu1 _ t_x2
      have hs1 : ∀ q, q ∈ d → q ∈ d11 := fun q h => hu1 q ((fun _ h => h) q h)
      intro z13 e_z13
      replace h := h z13 e_z13
      exact hk37 _ _ _ _ hs1 t_x0 t_x2 _ hW h
theorem tyl_X6_takeTurn_37 {K K' : kS → Int32 → Prop} {n0 : Nat} : ∀ (n : Nat) (d : List (Nat × cK)), (∀ (d1 : List (Nat × cK)) (S1 : kS) (r1 : Int32), (∀ q, q ∈ d → q ∈ d1) → WT d1 S1 → K S1 r1 → K' S1 r1) → ∀ (x0 : Nat) (x2 : Nat) (x3 : Int32), ((x0, Sum.inl 6) ∈ d) → ((x2, Sum.inl 9) ∈ d) → ∀ S : kS, WT d S → it (lT_X6_takeTurn_37 K n0) n (x0, x2, x3, S) → it (ls_X6_takeTurn_37 K' n0) n (x0, x2, x3, S) := by
  intro n
  induction n with
  | zero => intro d hk x0 x2 x3 t_x0 t_x2 S hW h; exact h
  | succ n ih =>
    intro d hk x0 x2 x3 t_x0 t_x2 S hW h
    exact ty_X6_takeTurn_37 hk (fun d1 x0 x2 x3 hs9 t_x0 t_x2 S1 hw9 h9 => ih d1 (fun d2 S2 r1 hs8 hw8 h8 => hk d2 S2 r1 (fun q hq => hs8 q (hs9 q hq)) hw8 h8) x0 x2 x3 t_x0 t_x2 S1 hw9 h9) t_x0 t_x2 hW h
theorem ty_X6_takeTurn {d : List (Nat × cK)} {t0 : Nat} {a0 : Int32} (t_t0 : (t0, Sum.inl 6) ∈ d) {S : kS} {K K' : kS → Int32 → Prop} (hW : WT d S) (hk : ∀ (d1 : List (Nat × cK)) (S1 : kS) (r1 : Int32), (∀ q, q ∈ d → q ∈ d1) → WT d1 S1 → K S1 r1 → K' S1 r1) (h : wT_X6_takeTurn t0 a0 S K) : wp_X6_takeTurn t0 a0 S K' := by
  unfold wT_X6_takeTurn at h
  unfold wp_X6_takeTurn
  refine ⟨hasO_of hW t_t0, ?_⟩
  intro z1 e_z1
  replace h := h z1 e_z1
  have t_z1 : ∀ b, z1 = some b → (b, Sum.inl 1) ∈ d := fun b hb => hW.2.1 41 _ b t_t0 (by rw [← e_z1]; exact hb)
  have n_z1 := wt_nn (f := 41) hW (by decide) t_t0 e_z1
  obtain ⟨q2, e_q2⟩ := n_z1
  refine ⟨q2, e_q2, ?_⟩
  replace h := h q2 e_q2
  have t_q2 := t_z1 q2 e_q2
  refine ⟨hasO_of hW t_q2, ?_⟩
  refine ty_X1_leaveRow t_q2 hW (fun S3 o3 hW t_o3 h => ?_) h
  refine ⟨fun c => ?_, fun q4 c => ?_⟩
  · replace h := h.1 c
    exact hk _ _ _ (fun _ h => h) hW h
  · replace h := h.2 q4 c
    have t_q4 := t_o3 q4 c
    refine ⟨hasO_of hW t_t0, ?_⟩
    intro S5 e_S5
    replace h := h S5 e_S5
    replace hW := WT_i hW e_S5
    refine ⟨hasO_of hW t_t0, ?_⟩
    intro S6 e_S6
    replace h := h S6 e_S6
    replace hW := WT_i hW e_S6
    refine ⟨hasO_of hW t_t0, ?_⟩
    intro S7 e_S7
    replace h := h S7 e_S7
    replace hW := WT_i hW e_S7
    refine ⟨hasO_of hW t_t0, ?_⟩
    refine ty_X6_wake t_t0 t_q4 hW (fun S8 hW h => ?_) h
    obtain ⟨n9, h⟩ := h
    exact ⟨n9, tyl_X6_takeTurn_37 n9 _ (fun d1 S1 r1 hs9 hw9 h9 => hk d1 S1 r1 (fun q hq => hs9 q ((fun _ h => h) q hq)) hw9 h9) _ _ _ t_t0 t_q4 _ hW h⟩
def wT_X11_turn (t0 : Nat) (a0 : Int32) (S : kS) (K : kS → Int32 → Prop) : Prop := ∀ z1 : Option Nat, z1 = S.2.1 73 t0 → ∀ q2 : Nat, z1 = some q2 → wT_X6_takeTurn q2 a0 S (fun (S3 : kS) (r3 : Int32) => K S3 r3)
theorem ty_X11_turn {d : List (Nat × cK)} {t0 : Nat} {a0 : Int32} (t_t0 : (t0, Sum.inl 11) ∈ d) {S : kS} {K K' : kS → Int32 → Prop} (hW : WT d S) (hk : ∀ (d1 : List (Nat × cK)) (S1 : kS) (r1 : Int32), (∀ q, q ∈ d → q ∈ d1) → WT d1 S1 → K S1 r1 → K' S1 r1) (h : wT_X11_turn t0 a0 S K) : wp_X11_turn t0 a0 S K' := by
  unfold wT_X11_turn at h
  unfold wp_X11_turn
  refine ⟨hasO_of hW t_t0, ?_⟩
  intro z1 e_z1
  replace h := h z1 e_z1
  have t_z1 : ∀ b, z1 = some b → (b, Sum.inl 6) ∈ d := fun b hb => hW.2.1 73 _ b t_t0 (by rw [← e_z1]; exact hb)
  have n_z1 := wt_nn (f := 73) hW (by decide) t_t0 e_z1
  obtain ⟨q2, e_q2⟩ := n_z1
  refine ⟨q2, e_q2, ?_⟩
  replace h := h q2 e_q2
  have t_q2 := t_z1 q2 e_q2
  refine ⟨hasO_of hW t_q2, ?_⟩
  refine ty_X6_takeTurn t_q2 hW (fun d11 S3 r3 hu1 hW h => ?_) h
  replace t_t0 := hu1 _ t_t0
  replace t_z1 := (fun b hb => hu1 _ (t_z1 b hb))
  replace t_q2 := hu1 _ t_q2
  have hs1 : ∀ q, q ∈ d → q ∈ d11 := fun q h => hu1 q ((fun _ h => h) q h)
  exact hk _ _ _ hs1 hW h
def wT_X11_rounds_15 (K : kS → Int32 → Prop) (n0 : Nat) (k15 : Nat × Int32 × Int32 × kS → Prop) (x0 : Nat) (x1 : Int32) (x2 : Int32) (S : kS) : Prop := ((x1 ≤ x2 → K S x2) ∧ (¬ x1 ≤ x2 → ∀ z4 : Option Nat, z4 = S.2.1 73 x0 → ∀ q5 : Nat, z4 = some q5 → cnt S + 4000 ≤ n0 + 105000 ∧ wT_X6_takeTurn q5 0 S (fun (S6 : kS) (r6 : Int32) => ((r6 = (-1) → K S6 x2) ∧ (¬ r6 = (-1) → ∀ z8 : Int32, z8 = x2 + 1 → k15 (x0, x1, z8, S6))))))
def lT_X11_rounds_15 (K : kS → Int32 → Prop) (n0 : Nat) (k15 : Nat × Int32 × Int32 × kS → Prop) (u : Nat × Int32 × Int32 × kS) : Prop := wT_X11_rounds_15 K n0 k15 u.1 u.2.1 u.2.2.1 u.2.2.2
def wT_X11_rounds (t0 : Nat) (a0 : Int32) (S : kS) (K : kS → Int32 → Prop) : Prop := ((a0 < 0 → K S (-1)) ∧ (¬ a0 < 0 → ((a0 ≤ 400 → (∃ n9, it (lT_X11_rounds_15 K (cnt S)) n9 (t0, a0, 0, S))) ∧ (¬ a0 ≤ 400 → K S (-1)))))
theorem ty_X11_rounds_15 {d : List (Nat × cK)} {K K' : kS → Int32 → Prop} {n0 : Nat} {k15 k15' : Nat × Int32 × Int32 × kS → Prop} (hk : ∀ (d1 : List (Nat × cK)) (S1 : kS) (r1 : Int32), (∀ q, q ∈ d → q ∈ d1) → WT d1 S1 → K S1 r1 → K' S1 r1) (hk15 : ∀ (d1 : List (Nat × cK)) (x0 : Nat) (x1 : Int32) (x2 : Int32), (∀ q, q ∈ d → q ∈ d1) → ((x0, Sum.inl 11) ∈ d1) → ∀ S : kS, WT d1 S → k15 (x0, x1, x2, S) → k15' (x0, x1, x2, S)) {x0 : Nat} {x1 : Int32} {x2 : Int32} (t_x0 : (x0, Sum.inl 11) ∈ d) {S : kS} (hW : WT d S) (h : wT_X11_rounds_15 K n0 k15 x0 x1 x2 S) : wp_X11_rounds_15 K' n0 k15' x0 x1 x2 S := by
  unfold wT_X11_rounds_15 at h
  unfold wp_X11_rounds_15
  refine ⟨fun c => ?_, fun c => ?_⟩
  · replace h := h.1 c
    exact hk _ _ _ (fun _ h => h) hW h
  · replace h := h.2 c
    refine ⟨hasO_of hW t_x0, ?_⟩
    intro z4 e_z4
    replace h := h z4 e_z4
    have t_z4 : ∀ b, z4 = some b → (b, Sum.inl 6) ∈ d := fun b hb => hW.2.1 73 _ b t_x0 (by rw [← e_z4]; exact hb)
    have n_z4 := wt_nn (f := 73) hW (by decide) t_x0 e_z4
    obtain ⟨q5, e_q5⟩ := n_z4
    refine ⟨q5, e_q5, ?_⟩
    replace h := h q5 e_q5
    have t_q5 := t_z4 q5 e_q5
    refine ⟨hasO_of hW t_q5, ?_⟩
    have hin := h.1
    refine ⟨h.1, ?_⟩
    replace h := h.2
    refine ty_X6_takeTurn t_q5 hW (fun d11 S6 r6 hu1 hW h => ?_) h
    replace t_x0 := hu1 _ t_x0
    replace t_z4 := (fun b hb => hu1 _ (t_z4 b hb))
    replace t_q5 := hu1 _ t_q5
    have hs1 : ∀ q, q ∈ d → q ∈ d11 := fun q h => hu1 q ((fun _ h => h) q h)
    refine ⟨fun c => ?_, fun c => ?_⟩
    · replace h := h.1 c
      exact hk _ _ _ hs1 hW h
    · replace h := h.2 c
      intro z8 e_z8
      replace h := h z8 e_z8
      exact hk15 _ _ _ _ hs1 t_x0 _ hW h
theorem tyl_X11_rounds_15 {K K' : kS → Int32 → Prop} {n0 : Nat} : ∀ (n : Nat) (d : List (Nat × cK)), (∀ (d1 : List (Nat × cK)) (S1 : kS) (r1 : Int32), (∀ q, q ∈ d → q ∈ d1) → WT d1 S1 → K S1 r1 → K' S1 r1) → ∀ (x0 : Nat) (x1 : Int32) (x2 : Int32), ((x0, Sum.inl 11) ∈ d) → ∀ S : kS, WT d S → it (lT_X11_rounds_15 K n0) n (x0, x1, x2, S) → it (ls_X11_rounds_15 K' n0) n (x0, x1, x2, S) := by
  intro n
  induction n with
  | zero => intro d hk x0 x1 x2 t_x0 S hW h; exact h
  | succ n ih =>
    intro d hk x0 x1 x2 t_x0 S hW h
    exact ty_X11_rounds_15 hk (fun d1 x0 x1 x2 hs9 t_x0 S1 hw9 h9 => ih d1 (fun d2 S2 r1 hs8 hw8 h8 => hk d2 S2 r1 (fun q hq => hs8 q (hs9 q hq)) hw8 h8) x0 x1 x2 t_x0 S1 hw9 h9) t_x0 hW h
theorem ty_X11_rounds {d : List (Nat × cK)} {t0 : Nat} {a0 : Int32} (t_t0 : (t0, Sum.inl 11) ∈ d) {S : kS} {K K' : kS → Int32 → Prop} (hW : WT d S) (hk : ∀ (d1 : List (Nat × cK)) (S1 : kS) (r1 : Int32), (∀ q, q ∈ d → q ∈ d1) → WT d1 S1 → K S1 r1 → K' S1 r1) (h : wT_X11_rounds t0 a0 S K) : wp_X11_rounds t0 a0 S K' := by
  unfold wT_X11_rounds at h
  unfold wp_X11_rounds
  refine ⟨fun c => ?_, fun c => ?_⟩
  · replace h := h.1 c
    exact hk _ _ _ (fun _ h => h) hW h
  · replace h := h.2 c
    refine ⟨fun c => ?_, fun c => ?_⟩
    · replace h := h.1 c
      obtain ⟨n9, h⟩ := h
      exact ⟨n9, tyl_X11_rounds_15 n9 _ (fun d1 S1 r1 hs9 hw9 h9 => hk d1 S1 r1 (fun q hq => hs9 q ((fun _ h => h) q hq)) hw9 h9) _ _ _ t_t0 _ hW h⟩
    · replace h := h.2 c
      exact hk _ _ _ (fun _ h => h) hW h
