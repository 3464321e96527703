
def wT_X11_stands (t0 : Nat) (a0 : Int32) (a1 : Int32) (S : kS) (K : kS → Int32 → Prop) : Prop := ((a0 < 0 → K S (-1)) ∧ (¬ a0 < 0 → ((a0 < 8 → ∀ z3 : Option Nat, z3 = S.2.1 72 t0 → ∀ q4 : Nat, z3 = some q4 → ∀ z5 : Option Nat, z5 = S.2.1 7 q4 → ∀ q6 : Nat, z5 = some q6 → inR a0 8 ∧ ∀ z7 : Option Nat, z7 = S.2.2.2.2.1 q6 (ix a0) → ∀ q8 : Nat, z7 = some q8 → wT_X2_taskAt q8 a1 S (fun (S9 : kS) (r9 : Int32) => K S9 r9)) ∧ (¬ a0 < 8 → K S (-1)))))
theorem ty_X11_stands {d : List (Nat × cK)} {t0 : Nat} {a0 : Int32} {a1 : Int32} (t_t0 : (t0, Sum.inl 11) ∈ d) {S : kS} {K K' : kS → Int32 → Prop} (hW : WT d S) (hk : ∀ S1 r1, WT d S1 → K S1 r1 → K' S1 r1) (h : wT_X11_stands t0 a0 a1 S K) : wp_X11_stands t0 a0 a1 S K' := by
  unfold wT_X11_stands at h
  unfold wp_X11_stands
  refine ⟨fun c => ?_, fun c => ?_⟩
  · replace h := h.1 c
    exact hk _ _ hW h
  · replace h := h.2 c
    refine ⟨fun c => ?_, fun c => ?_⟩
    · replace h := h.1 c
      refine ⟨hasO_of hW t_t0, ?_⟩
      intro z3 e_z3
      replace h := h z3 e_z3
      have t_z3 : ∀ b, z3 = some b → (b, Sum.inl 1) ∈ d := fun b hb => hW.2.1 72 _ b t_t0 (by rw [← e_z3]; exact hb)
      have n_z3 := wt_nn (f := 72) hW (by decide) t_t0 e_z3
      obtain ⟨q4, e_q4⟩ := n_z3
      refine ⟨q4, e_q4, ?_⟩
      replace h := h q4 e_q4
      have t_q4 := t_z3 q4 e_q4
      refine ⟨hasO_of hW t_q4, ?_⟩
      intro z5 e_z5
      replace h := h z5 e_z5
      have t_z5 : ∀ b, z5 = some b → (b, Sum.inr (8, 4)) ∈ d := fun b hb => hW.2.1 7 _ b t_q4 (by rw [← e_z5]; exact hb)
      have n_z5 := wt_nn (f := 7) hW (by decide) t_q4 e_z5
      obtain ⟨q6, e_q6⟩ := n_z5
      refine ⟨q6, e_q6, ?_⟩
      replace h := h q6 e_q6
      have t_q6 := t_z5 q6 e_q6
      refine ⟨hasA_of hW t_q6, ?_⟩
      have hin := h.1
      refine ⟨h.1, ?_⟩
      replace h := h.2
      intro z7 e_z7
      replace h := h z7 e_z7
      have n0_z7 := wt_ln hW t_q6 (inR_lt hin) e_z7
      have n_z7 : ∃ q, z7 = some q := by obtain ⟨q9, h9, _⟩ := n0_z7; exact ⟨q9, h9⟩
      have t_z7 : ∀ b, z7 = some b → (b, Sum.inl 2) ∈ d := by obtain ⟨q9, h9, g9⟩ := n0_z7; intro b hb; cases h9.symm.trans hb; exact g9
      obtain ⟨q8, e_q8⟩ := n_z7
      refine ⟨q8, e_q8, ?_⟩
      replace h := h q8 e_q8
      have t_q8 := t_z7 q8 e_q8
      refine ⟨hasO_of hW t_q8, ?_⟩
      refine ty_X2_taskAt t_q8 hW (fun S9 r9 hW h => ?_) h
      exact hk _ _ hW h
    · replace h := h.2 c
      exact hk _ _ hW h
def wT_X1_pass_80 (K : kS → Prop) (k9 : Nat × Int32 × Int32 × kS → Prop) (x0 : Nat) (x2 : Int32) (x3 : Int32) (S : kS) : Prop := wT_X1_work x0 S (fun (S19 : kS) => ∀ z20 : Int32, z20 = x3 + 1 → k9 (x0, x2, z20, S19))
def wT_X1_pass_9 (K : kS → Prop) (k9 : Nat × Int32 × Int32 × kS → Prop) (x0 : Nat) (x2 : Int32) (x3 : Int32) (S : kS) : Prop := ((1000000 ≤ x3 → ∀ S4 : kS, S4 = cI S 4 x0 x2 → K S4) ∧ (¬ 1000000 ≤ x3 → ∀ z5 : Option Nat, z5 = S.2.1 8 x0 → ∀ q6 : Nat, z5 = some q6 → ∀ z7 : Option Nat, z7 = S.2.1 12 q6 → ((z7 = none → ∀ S9 : kS, S9 = cI S 4 x0 x2 → K S9) ∧ (∀ q8 : Nat, z7 = some q8 → ∀ z10 : Int32, z10 = S.1 16 q8 → ((z10 ≤ x2 → ∀ z12 : Int32, z12 = S.1 16 q8 → ∀ S13 : kS, S13 = cI S 4 x0 z12 → ∀ z14 : Int32, z14 = S13.1 12 q8 → ((¬ z14 = 6 → wT_X1_report x0 q8 1 0 S13 (fun (S16 : kS) => wT_X1_pass_80 K k9 x0 x2 x3 S16)) ∧ (z14 = 6 → wT_X1_report x0 q8 2 21 S13 (fun (S17 : kS) => wT_X1_pass_80 K k9 x0 x2 x3 S17)))) ∧ (¬ z10 ≤ x2 → ∀ S18 : kS, S18 = cI S 4 x0 x2 → K S18))))))
def lT_X1_pass_9 (K : kS → Prop) (k9 : Nat × Int32 × Int32 × kS → Prop) (u : Nat × Int32 × Int32 × kS) : Prop := wT_X1_pass_9 K k9 u.1 u.2.1 u.2.2.1 u.2.2.2
def wT_X1_pass (t0 : Nat) (a0 : Int32) (S : kS) (K : kS → Prop) : Prop := ∀ z1 : Int32, z1 = S.1 4 t0 → ∀ z2 : Int32, z2 = z1 + a0 → (∃ n9, it (lT_X1_pass_9 K) n9 (t0, z2, 0, S))
theorem ty_X1_pass_80 {d : List (Nat × cK)} {K K' : kS → Prop} {k9 k9' : Nat × Int32 × Int32 × kS → Prop} (hk : ∀ S1, WT d S1 → K S1 → K' S1) (hk9 : ∀ (x0 : Nat) (x2 : Int32) (x3 : Int32), ((x0, Sum.inl 1) ∈ d) → ∀ S : kS, WT d S → k9 (x0, x2, x3, S) → k9' (x0, x2, x3, S)) {x0 : Nat} {x2 : Int32} {x3 : Int32} (t_x0 : (x0, Sum.inl 1) ∈ d) {S : kS} (hW : WT d S) (h : wT_X1_pass_80 K k9 x0 x2 x3 S) : wp_X1_pass_80 K' k9' x0 x2 x3 S := by
  unfold wT_X1_pass_80 at h
  unfold wp_X1_pass_80
  refine ⟨hasO_of hW t_x0, ?_⟩
  refine ty_X1_work t_x0 hW (fun S19 hW h => ?_) h
  intro z20 e_z20
  replace h := h z20 e_z20
  exact hk9 _ _ _ t_x0 _ hW h
theorem ty_X1_pass_9 {d : List (Nat × cK)} {K K' : kS → Prop} {k9 k9' : Nat × Int32 × Int32 × kS → Prop} (hk : ∀ S1, WT d S1 → K S1 → K' S1) (hk9 : ∀ (x0 : Nat) (x2 : Int32) (x3 : Int32), ((x0, Sum.inl 1) ∈ d) → ∀ S : kS, WT d S → k9 (x0, x2, x3, S) → k9' (x0, x2, x3, S)) {x0 : Nat} {x2 : Int32} {x3 : Int32} (t_x0 : (x0, Sum.inl 1) ∈ d) {S : kS} (hW : WT d S) (h : wT_X1_pass_9 K k9 x0 x2 x3 S) : wp_X1_pass_9 K' k9' x0 x2 x3 S := by
  unfold wT_X1_pass_9 at h
  unfold wp_X1_pass_9
  refine ⟨fun c => ?_, fun c => ?_⟩
  · replace h := h.1 c
    refine ⟨hasO_of hW t_x0, ?_⟩
    intro S4 e_S4
    replace h := h S4 e_S4
    replace hW := WT_i hW e_S4
    exact hk _ hW h
  · replace h := h.2 c
    refine ⟨hasO_of hW t_x0, ?_⟩
    intro z5 e_z5
    replace h := h z5 e_z5
    have t_z5 : ∀ b, z5 = some b → (b, Sum.inl 2) ∈ d := fun b hb => hW.2.1 8 _ b t_x0 (by rw [← e_z5]; exact hb)
    have n_z5 := wt_nn (f := 8) hW (by decide) t_x0 e_z5
    obtain ⟨q6, e_q6⟩ := n_z5
    refine ⟨q6, e_q6, ?_⟩
    replace h := h q6 e_q6
    have t_q6 := t_z5 q6 e_q6
    refine ⟨hasO_of hW t_q6, ?_⟩
    intro z7 e_z7
    replace h := h z7 e_z7
    have t_z7 : ∀ b, z7 = some b → (b, Sum.inl 4) ∈ d := fun b hb => hW.2.1 12 _ b t_q6 (by rw [← e_z7]; exact hb)
    refine ⟨fun c => ?_, fun q8 c => ?_⟩
    · replace h := h.1 c
      refine ⟨hasO_of hW t_x0, ?_⟩
      intro S9 e_S9
      replace h := h S9 e_S9
      replace hW := WT_i hW e_S9
      exact hk _ hW h
    · replace h := h.2 q8 c
      have t_q8 := t_z7 q8 c
      refine ⟨hasO_of hW t_q8, ?_⟩
      intro z10 e_z10
      replace h := h z10 e_z10
      refine ⟨fun c => ?_, fun c => ?_⟩
      · replace h := h.1 c
        refine ⟨hasO_of hW t_q8, ?_⟩
        intro z12 e_z12
        replace h := h z12 e_z12
        refine ⟨hasO_of hW t_x0, ?_⟩
        intro S13 e_S13
        replace h := h S13 e_S13
        replace hW := WT_i hW e_S13
        refine ⟨hasO_of hW t_q8, ?_⟩
        intro z14 e_z14
        replace h := h z14 e_z14
        refine ⟨fun c => ?_, fun c => ?_⟩
        · replace h := h.1 c
          refine ⟨hasO_of hW t_x0, ?_⟩
          refine ty_X1_report t_x0 t_q8 hW (fun S16 hW h => ?_) h
          exact ty_X1_pass_80 hk hk9 t_x0 hW h
        · replace h := h.2 c
          refine ⟨hasO_of hW t_x0, ?_⟩
          refine ty_X1_report t_x0 t_q8 hW (fun S17 hW h => ?_) h
          exact ty_X1_pass_80 hk hk9 t_x0 hW h
      · replace h := h.2 c
        refine ⟨hasO_of hW t_x0, ?_⟩
        intro S18 e_S18
        replace h := h S18 e_S18
        replace hW := WT_i hW e_S18
        exact hk _ hW h
theorem tyl_X1_pass_9 {d : List (Nat × cK)} {K K' : kS → Prop} (hk : ∀ S1, WT d S1 → K S1 → K' S1) : ∀ (n : Nat) (x0 : Nat) (x2 : Int32) (x3 : Int32), ((x0, Sum.inl 1) ∈ d) → ∀ S : kS, WT d S → it (lT_X1_pass_9 K) n (x0, x2, x3, S) → it (ls_X1_pass_9 K') n (x0, x2, x3, S) := by
  intro n
  induction n with
  | zero => exact fun _ _ _ _ _ _ h => h
  | succ n ih => exact fun x0 x2 x3 t_x0 S hW h => ty_X1_pass_9 hk ih t_x0 hW h
theorem ty_X1_pass {d : List (Nat × cK)} {t0 : Nat} {a0 : Int32} (t_t0 : (t0, Sum.inl 1) ∈ d) {S : kS} {K K' : kS → Prop} (hW : WT d S) (hk : ∀ S1, WT d S1 → K S1 → K' S1) (h : wT_X1_pass t0 a0 S K) : wp_X1_pass t0 a0 S K' := by
  unfold wT_X1_pass at h
  unfold wp_X1_pass
  refine ⟨hasO_of hW t_t0, ?_⟩
  intro z1 e_z1
  replace h := h z1 e_z1
  intro z2 e_z2
  replace h := h z2 e_z2
  obtain ⟨n9, h⟩ := h
  exact ⟨n9, tyl_X1_pass_9 hk n9 _ _ _ t_t0 _ hW h⟩
def wT_X11_tick (t0 : Nat) (a0 : Int32) (S : kS) (K : kS → Int32 → Prop) : Prop := ((a0 < 0 → K S (-1)) ∧ (¬ a0 < 0 → ((a0 ≤ 10000 → ∀ z3 : Option Nat, z3 = S.2.1 72 t0 → ∀ q4 : Nat, z3 = some q4 → wT_X1_pass q4 a0 S (fun (S5 : kS) => ∀ z6 : Option Nat, z6 = S5.2.1 72 t0 → ∀ q7 : Nat, z6 = some q7 → ∀ z8 : Int32, z8 = S5.1 4 q7 → K S5 z8)) ∧ (¬ a0 ≤ 10000 → K S (-1)))))
theorem ty_X11_tick {d : List (Nat × cK)} {t0 : Nat} {a0 : Int32} (t_t0 : (t0, Sum.inl 11) ∈ d) {S : kS} {K K' : kS → Int32 → Prop} (hW : WT d S) (hk : ∀ S1 r1, WT d S1 → K S1 r1 → K' S1 r1) (h : wT_X11_tick t0 a0 S K) : wp_X11_tick t0 a0 S K' := by
  unfold wT_X11_tick at h
  unfold wp_X11_tick
  refine ⟨fun c => ?_, fun c => ?_⟩
  · replace h := h.1 c
    exact hk _ _ hW h
  · replace h := h.2 c
    refine ⟨fun c => ?_, fun c => ?_⟩
    · replace h := h.1 c
      refine ⟨hasO_of hW t_t0, ?_⟩
      intro z3 e_z3
      replace h := h z3 e_z3
      have t_z3 : ∀ b, z3 = some b → (b, Sum.inl 1) ∈ d := fun b hb => hW.2.1 72 _ b t_t0 (by rw [← e_z3]; exact hb)
      have n_z3 := wt_nn (f := 72) hW (by decide) t_t0 e_z3
      obtain ⟨q4, e_q4⟩ := n_z3
      refine ⟨q4, e_q4, ?_⟩
      replace h := h q4 e_q4
      have t_q4 := t_z3 q4 e_q4
      refine ⟨hasO_of hW t_q4, ?_⟩
      refine ty_X1_pass t_q4 hW (fun S5 hW h => ?_) h
      refine ⟨hasO_of hW t_t0, ?_⟩
      intro z6 e_z6
      replace h := h z6 e_z6
      have t_z6 : ∀ b, z6 = some b → (b, Sum.inl 1) ∈ d := fun b hb => hW.2.1 72 _ b t_t0 (by rw [← e_z6]; exact hb)
      have n_z6 := wt_nn (f := 72) hW (by decide) t_t0 e_z6
      obtain ⟨q7, e_q7⟩ := n_z6
      refine ⟨q7, e_q7, ?_⟩
      replace h := h q7 e_q7
      have t_q7 := t_z6 q7 e_q7
      refine ⟨hasO_of hW t_q7, ?_⟩
      intro z8 e_z8
      replace h := h z8 e_z8
      exact hk _ _ hW h
    · replace h := h.2 c
      exact hk _ _ hW h
def wT_X1_breakOff (t0 : Nat) (a0 : Nat) (a1 : Int32) (S : kS) (K : kS → Prop) : Prop := ∀ S1 : kS, S1 = cI S 30 a0 1 → ∀ z2 : Int32, z2 = S1.1 28 a0 → ∀ z3 : Int32, z3 = z2 ^^^ (-1) → wT_X1_plan t0 z3 S1 (fun (S4 : kS) => wT_X1_letGo t0 a0 1 S4 (fun (S5 : kS) => ∀ S6 : kS, S6 = cI S5 38 a0 2 → ∀ S7 : kS, S7 = cI S6 39 a0 a1 → wT_X1_work t0 S7 (fun (S8 : kS) => K S8)))
theorem ty_X1_breakOff {d : List (Nat × cK)} {t0 : Nat} {a0 : Nat} {a1 : Int32} (t_t0 : (t0, Sum.inl 1) ∈ d) (t_a0 : (a0, Sum.inl 9) ∈ d) {S : kS} {K K' : kS → Prop} (hW : WT d S) (hk : ∀ S1, WT d S1 → K S1 → K' S1) (h : wT_X1_breakOff t0 a0 a1 S K) : wp_X1_breakOff t0 a0 a1 S K' := by
  unfold wT_X1_breakOff at h
  unfold wp_X1_breakOff
  refine ⟨hasO_of hW t_a0, ?_⟩
  intro S1 e_S1
  replace h := h S1 e_S1
  replace hW := WT_i hW e_S1
  refine ⟨hasO_of hW t_a0, ?_⟩
  intro z2 e_z2
  replace h := h z2 e_z2
  intro z3 e_z3
  replace h := h z3 e_z3
  refine ⟨hasO_of hW t_t0, ?_⟩
  refine ty_X1_plan t_t0 hW (fun S4 hW h => ?_) h
  refine ⟨hasO_of hW t_t0, ?_⟩
  refine ty_X1_letGo t_t0 t_a0 hW (fun S5 hW h => ?_) h
  refine ⟨hasO_of hW t_a0, ?_⟩
  intro S6 e_S6
  replace h := h S6 e_S6
  replace hW := WT_i hW e_S6
  refine ⟨hasO_of hW t_a0, ?_⟩
  intro S7 e_S7
  replace h := h S7 e_S7
  replace hW := WT_i hW e_S7
  refine ⟨hasO_of hW t_t0, ?_⟩
  refine ty_X1_work t_t0 hW (fun S8 hW h => ?_) h
  exact hk _ hW h
def wT_X1_end (t0 : Nat) (a0 : Nat) (S : kS) (K : kS → Prop) : Prop := wT_X1_letGo t0 a0 1 S (fun (S1 : kS) => wT_X1_work t0 S1 (fun (S2 : kS) => wT_X1_close t0 a0 S2 (fun (S3 : kS) => wT_X1_tellParent t0 a0 S3 (fun (S4 : kS) => wT_X1_work t0 S4 (fun (S5 : kS) => K S5)))))
theorem ty_X1_end {d : List (Nat × cK)} {t0 : Nat} {a0 : Nat} (t_t0 : (t0, Sum.inl 1) ∈ d) (t_a0 : (a0, Sum.inl 9) ∈ d) {S : kS} {K K' : kS → Prop} (hW : WT d S) (hk : ∀ S1, WT d S1 → K S1 → K' S1) (h : wT_X1_end t0 a0 S K) : wp_X1_end t0 a0 S K' := by
  unfold wT_X1_end at h
  unfold wp_X1_end
  refine ⟨hasO_of hW t_t0, ?_⟩
  refine ty_X1_letGo t_t0 t_a0 hW (fun S1 hW h => ?_) h
  refine ⟨hasO_of hW t_t0, ?_⟩
  refine ty_X1_work t_t0 hW (fun S2 hW h => ?_) h
  refine ⟨hasO_of hW t_t0, ?_⟩
  refine ty_X1_close t_t0 t_a0 hW (fun S3 hW h => ?_) h
  refine ⟨hasO_of hW t_t0, ?_⟩
  refine ty_X1_tellParent t_t0 t_a0 hW (fun S4 hW h => ?_) h
  refine ⟨hasO_of hW t_t0, ?_⟩
  refine ty_X1_work t_t0 hW (fun S5 hW h => ?_) h
  exact hk _ hW h
def wT_X1_takeBack_5 (K : kS → Prop) (k5 : Nat × Nat × Option Nat × kS → Prop) (x0 : Nat) (x1 : Nat) (x2 : Option Nat) (S : kS) : Prop := ((x2 = none → ∀ S3 : kS, S3 = cR S 61 x1 none → ∀ S4 : kS, S4 = cR S3 62 x1 none → ∀ S5 : kS, S5 = cR S4 63 x1 none → K S5) ∧ (∀ q2 : Nat, x2 = some q2 → ∀ z6 : Option Nat, z6 = S.2.1 24 q2 → ∀ z7 : Option Nat, z7 = S.2.1 11 x0 → ∀ S8 : kS, S8 = cR S 24 q2 z7 → ∀ S9 : kS, S9 = cR S8 11 x0 (some q2) → k5 (x0, x1, z6, S9)))
def lT_X1_takeBack_5 (K : kS → Prop) (k5 : Nat × Nat × Option Nat × kS → Prop) (u : Nat × Nat × Option Nat × kS) : Prop := wT_X1_takeBack_5 K k5 u.1 u.2.1 u.2.2.1 u.2.2.2
def wT_X1_takeBack (t0 : Nat) (a0 : Nat) (S : kS) (K : kS → Prop) : Prop := ∀ z1 : Option Nat, z1 = S.2.1 61 a0 → (∃ n9, it (lT_X1_takeBack_5 K) n9 (t0, a0, z1, S))
theorem ty_X1_takeBack_5 {d : List (Nat × cK)} {K K' : kS → Prop} {k5 k5' : Nat × Nat × Option Nat × kS → Prop} (hk : ∀ S1, WT d S1 → K S1 → K' S1) (hk5 : ∀ (x0 : Nat) (x1 : Nat) (x2 : Option Nat), ((x0, Sum.inl 1) ∈ d) → ((x1, Sum.inl 9) ∈ d) → (∀ b, x2 = some b → (b, Sum.inl 4) ∈ d) → ∀ S : kS, WT d S → k5 (x0, x1, x2, S) → k5' (x0, x1, x2, S)) {x0 : Nat} {x1 : Nat} {x2 : Option Nat} (t_x0 : (x0, Sum.inl 1) ∈ d) (t_x1 : (x1, Sum.inl 9) ∈ d) (t_x2 : ∀ b, x2 = some b → (b, Sum.inl 4) ∈ d) {S : kS} (hW : WT d S) (h : wT_X1_takeBack_5 K k5 x0 x1 x2 S) : wp_X1_takeBack_5 K' k5' x0 x1 x2 S := by
  unfold wT_X1_takeBack_5 at h
  unfold wp_X1_takeBack_5
  refine ⟨fun c => ?_, fun q2 c => ?_⟩
  · replace h := h.1 c
    refine ⟨hasO_of hW t_x1, ?_⟩
    intro S3 e_S3
    replace h := h S3 e_S3
    replace hW := WT_r hW e_S3 (fun b hb => by cases hb) (by decide)
    refine ⟨hasO_of hW t_x1, ?_⟩
    intro S4 e_S4
    replace h := h S4 e_S4
    replace hW := WT_r hW e_S4 (fun b hb => by cases hb) (by decide)
    refine ⟨hasO_of hW t_x1, ?_⟩
    intro S5 e_S5
    replace h := h S5 e_S5
    replace hW := WT_r hW e_S5 (fun b hb => by cases hb) (by decide)
    exact hk _ hW h
  · replace h := h.2 q2 c
    have t_q2 := t_x2 q2 c
    refine ⟨hasO_of hW t_q2, ?_⟩
    intro z6 e_z6
    replace h := h z6 e_z6
    have t_z6 : ∀ b, z6 = some b → (b, Sum.inl 4) ∈ d := fun b hb => hW.2.1 24 _ b t_q2 (by rw [← e_z6]; exact hb)
    refine ⟨hasO_of hW t_x0, ?_⟩
    intro z7 e_z7
    replace h := h z7 e_z7
    have t_z7 : ∀ b, z7 = some b → (b, Sum.inl 4) ∈ d := fun b hb => hW.2.1 11 _ b t_x0 (by rw [← e_z7]; exact hb)
    refine ⟨hasO_of hW t_q2, ?_⟩
    intro S8 e_S8
    replace h := h S8 e_S8
    replace hW := WT_r hW e_S8 t_z7 (by decide)
    refine ⟨hasO_of hW t_x0, ?_⟩
    intro S9 e_S9
    replace h := h S9 e_S9
    replace hW := WT_r hW e_S9 (fun b hb => by cases hb; exact t_q2) (by decide)
    exact hk5 _ _ _ t_x0 t_x1 t_z6 _ hW h
theorem tyl_X1_takeBack_5 {d : List (Nat × cK)} {K K' : kS → Prop} (hk : ∀ S1, WT d S1 → K S1 → K' S1) : ∀ (n : Nat) (x0 : Nat) (x1 : Nat) (x2 : Option Nat), ((x0, Sum.inl 1) ∈ d) → ((x1, Sum.inl 9) ∈ d) → (∀ b, x2 = some b → (b, Sum.inl 4) ∈ d) → ∀ S : kS, WT d S → it (lT_X1_takeBack_5 K) n (x0, x1, x2, S) → it (ls_X1_takeBack_5 K') n (x0, x1, x2, S) := by
  intro n
  induction n with
  | zero => exact fun _ _ _ _ _ _ _ _ h => h
  | succ n ih => exact fun x0 x1 x2 t_x0 t_x1 t_x2 S hW h => ty_X1_takeBack_5 hk ih t_x0 t_x1 t_x2 hW h
theorem ty_X1_takeBack {d : List (Nat × cK)} {t0 : Nat} {a0 : Nat} (t_t0 : (t0, Sum.inl 1) ∈ d) (t_a0 : (a0, Sum.inl 9) ∈ d) {S : kS} {K K' : kS → Prop} (hW : WT d S) (hk : ∀ S1, WT d S1 → K S1 → K' S1) (h : wT_X1_takeBack t0 a0 S K) : wp_X1_takeBack t0 a0 S K' := by
  unfold wT_X1_takeBack at h
  unfold wp_X1_takeBack
  refine ⟨hasO_of hW t_a0, ?_⟩
  intro z1 e_z1
  replace h := h z1 e_z1
  have t_z1 : ∀ b, z1 = some b → (b, Sum.inl 4) ∈ d := fun b hb => hW.2.1 61 _ b t_a0 (by rw [← e_z1]; exact hb)
  obtain ⟨n9, h⟩ := h
  exact ⟨n9, tyl_X1_takeBack_5 hk n9 _ _ _ t_t0 t_a0 t_z1 _ hW h⟩
def wT_X2_clear (t0 : Nat) (S : kS) (K : kS → Prop) : Prop := ∀ S1 : kS, S1 = cR S 12 t0 none → ∀ S2 : kS, S2 = cR S1 13 t0 none → K S2
theorem ty_X2_clear {d : List (Nat × cK)} {t0 : Nat} (t_t0 : (t0, Sum.inl 2) ∈ d) {S : kS} {K K' : kS → Prop} (hW : WT d S) (hk : ∀ S1, WT d S1 → K S1 → K' S1) (h : wT_X2_clear t0 S K) : wp_X2_clear t0 S K' := by
  unfold wT_X2_clear at h
  unfold wp_X2_clear
  refine ⟨hasO_of hW t_t0, ?_⟩
  intro S1 e_S1
  replace h := h S1 e_S1
  replace hW := WT_r hW e_S1 (fun b hb => by cases hb) (by decide)
  refine ⟨hasO_of hW t_t0, ?_⟩
  intro S2 e_S2
  replace h := h S2 e_S2
  replace hW := WT_r hW e_S2 (fun b hb => by cases hb) (by decide)
  exact hk _ hW h
def wT_X1_open_53 (K : kS → Prop) (k53 : Nat × Int32 × kS → Prop) (x0 : Nat) (x2 : Int32) (S : kS) : Prop := ((8 ≤ x2 → ∀ z15 : Option Nat, z15 = S.2.1 8 x0 → ∀ q16 : Nat, z15 = some q16 → wT_X2_clear q16 S (fun (S17 : kS) => ∀ z18 : Option Nat, z18 = S17.2.1 9 x0 → ∀ q19 : Nat, z18 = some q19 → wT_X0_clear q19 S17 (fun (S20 : kS) => K S20))) ∧ (¬ 8 ≤ x2 → ∀ z21 : Option Nat, z21 = S.2.1 6 x0 → ∀ q22 : Nat, z21 = some q22 → inR x2 8 ∧ ∀ S23 : kS, S23 = cA S q22 (ix x2) 0 → ∀ z24 : Option Nat, z24 = S23.2.1 7 x0 → ∀ q25 : Nat, z24 = some q25 → inR x2 8 ∧ ∀ z26 : Option Nat, z26 = S23.2.2.2.2.1 q25 (ix x2) → ∀ q27 : Nat, z26 = some q27 → wT_X2_clear q27 S23 (fun (S28 : kS) => ∀ z29 : Int32, z29 = x2 + 1 → k53 (x0, z29, S28))))
def lT_X1_open_53 (K : kS → Prop) (k53 : Nat × Int32 × kS → Prop) (u : Nat × Int32 × kS) : Prop := wT_X1_open_53 K k53 u.1 u.2.1 u.2.2
def wT_X1_open_7 (K : kS → Prop) (k7 : Nat × Int32 × kS → Prop) (x0 : Nat) (x2 : Int32) (S : kS) : Prop := ∀ z2 : Int32, z2 = S.1 1 x0 → ((z2 ≤ x2 → ∀ S4 : kS, S4 = cI S 1 x0 0 → ∀ S5 : kS, S5 = cI S4 2 x0 0 → ∀ S6 : kS, S6 = cI S5 3 x0 0 → ∀ S7 : kS, S7 = cI S6 4 x0 0 → (∃ n9, it (lT_X1_open_53 K) n9 (x0, 0, S7))) ∧ (¬ z2 ≤ x2 → ∀ z8 : Option Nat, z8 = S.2.1 3 x0 → ∀ q9 : Nat, z8 = some q9 → inR x2 200 ∧ ∀ z10 : Option Nat, z10 = S.2.2.2.2.1 q9 (ix x2) → ∃ q11 : Nat, z10 = some q11 ∧ wT_X1_takeBack x0 q11 S (fun (S12 : kS) => ∀ z13 : Int32, z13 = x2 + 1 → k7 (x0, z13, S12))))
def lT_X1_open_7 (K : kS → Prop) (k7 : Nat × Int32 × kS → Prop) (u : Nat × Int32 × kS) : Prop := wT_X1_open_7 K k7 u.1 u.2.1 u.2.2
def wT_X1_open (t0 : Nat) (a0 : Nat) (S : kS) (K : kS → Prop) : Prop := ∀ S1 : kS, S1 = cR S 2 t0 (some a0) → (∃ n9, it (lT_X1_open_7 K) n9 (t0, 0, S1))
theorem ty_X1_open_53 {d : List (Nat × cK)} {K K' : kS → Prop} {k53 k53' : Nat × Int32 × kS → Prop} (hk : ∀ S1, WT d S1 → K S1 → K' S1) (hk53 : ∀ (x0 : Nat) (x2 : Int32), ((x0, Sum.inl 1) ∈ d) → ∀ S : kS, WT d S → k53 (x0, x2, S) → k53' (x0, x2, S)) {x0 : Nat} {x2 : Int32} (t_x0 : (x0, Sum.inl 1) ∈ d) {S : kS} (hW : WT d S) (h : wT_X1_open_53 K k53 x0 x2 S) : wp_X1_open_53 K' k53' x0 x2 S := by
  unfold wT_X1_open_53 at h
  unfold wp_X1_open_53
  refine ⟨fun c => ?_, fun c => ?_⟩
  · replace h := h.1 c
    refine ⟨hasO_of hW t_x0, ?_⟩
    intro z15 e_z15
    replace h := h z15 e_z15
    have t_z15 : ∀ b, z15 = some b → (b, Sum.inl 2) ∈ d := fun b hb => hW.2.1 8 _ b t_x0 (by rw [← e_z15]; exact hb)
    have n_z15 := wt_nn (f := 8) hW (by decide) t_x0 e_z15
    obtain ⟨q16, e_q16⟩ := n_z15
    refine ⟨q16, e_q16, ?_⟩
    replace h := h q16 e_q16
    have t_q16 := t_z15 q16 e_q16
    refine ⟨hasO_of hW t_q16, ?_⟩
    refine ty_X2_clear t_q16 hW (fun S17 hW h => ?_) h
    refine ⟨hasO_of hW t_x0, ?_⟩
    intro z18 e_z18
    replace h := h z18 e_z18
    have t_z18 : ∀ b, z18 = some b → (b, Sum.inl 0) ∈ d := fun b hb => hW.2.1 9 _ b t_x0 (by rw [← e_z18]; exact hb)
    have n_z18 := wt_nn (f := 9) hW (by decide) t_x0 e_z18
    obtain ⟨q19, e_q19⟩ := n_z18
    refine ⟨q19, e_q19, ?_⟩
    replace h := h q19 e_q19
    have t_q19 := t_z18 q19 e_q19
    refine ⟨hasO_of hW t_q19, ?_⟩
    refine ty_X0_clear t_q19 hW (fun S20 hW h => ?_) h
    exact hk _ hW h
  · replace h := h.2 c
    refine ⟨hasO_of hW t_x0, ?_⟩
    intro z21 e_z21
    replace h := h z21 e_z21
    have t_z21 : ∀ b, z21 = some b → (b, Sum.inr (8, 0)) ∈ d := fun b hb => hW.2.1 6 _ b t_x0 (by rw [← e_z21]; exact hb)
    have n_z21 := wt_nn (f := 6) hW (by decide) t_x0 e_z21
    obtain ⟨q22, e_q22⟩ := n_z21
    refine ⟨q22, e_q22, ?_⟩
    replace h := h q22 e_q22
    have t_q22 := t_z21 q22 e_q22
    refine ⟨hasA_of hW t_q22, ?_⟩
    have hin := h.1
    refine ⟨h.1, ?_⟩
    replace h := h.2
    intro S23 e_S23
    replace h := h S23 e_S23
    replace hW := WT_a hW e_S23
    refine ⟨hasO_of hW t_x0, ?_⟩
    intro z24 e_z24
    replace h := h z24 e_z24
    have t_z24 : ∀ b, z24 = some b → (b, Sum.inr (8, 4)) ∈ d := fun b hb => hW.2.1 7 _ b t_x0 (by rw [← e_z24]; exact hb)
    have n_z24 := wt_nn (f := 7) hW (by decide) t_x0 e_z24
    obtain ⟨q25, e_q25⟩ := n_z24
    refine ⟨q25, e_q25, ?_⟩
    replace h := h q25 e_q25
    have t_q25 := t_z24 q25 e_q25
    refine ⟨hasA_of hW t_q25, ?_⟩
    have hin := h.1
    refine ⟨h.1, ?_⟩
    replace h := h.2
    intro z26 e_z26
    replace h := h z26 e_z26
    have n0_z26 := wt_ln hW t_q25 (inR_lt hin) e_z26
    have n_z26 : ∃ q, z26 = some q := by obtain ⟨q9, h9, _⟩ := n0_z26; exact ⟨q9, h9⟩
    have t_z26 : ∀ b, z26 = some b → (b, Sum.inl 2) ∈ d := by obtain ⟨q9, h9, g9⟩ := n0_z26; intro b hb; cases h9.symm.trans hb; exact g9
    obtain ⟨q27, e_q27⟩ := n_z26
    refine ⟨q27, e_q27, ?_⟩
    replace h := h q27 e_q27
    have t_q27 := t_z26 q27 e_q27
    refine ⟨hasO_of hW t_q27, ?_⟩
    refine ty_X2_clear t_q27 hW (fun S28 hW h => ?_) h
    intro z29 e_z29
    replace h := h z29 e_z29
    exact hk53 _ _ t_x0 _ hW h
theorem tyl_X1_open_53 {d : List (Nat × cK)} {K K' : kS → Prop} (hk : ∀ S1, WT d S1 → K S1 → K' S1) : ∀ (n : Nat) (x0 : Nat) (x2 : Int32), ((x0, Sum.inl 1) ∈ d) → ∀ S : kS, WT d S → it (lT_X1_open_53 K) n (x0, x2, S) → it (ls_X1_open_53 K') n (x0, x2, S) := by
  intro n
  induction n with
  | zero => exact fun _ _ _ _ _ h => h
  | succ n ih => exact fun x0 x2 t_x0 S hW h => ty_X1_open_53 hk ih t_x0 hW h
theorem ty_X1_open_7 {d : List (Nat × cK)} {K K' : kS → Prop} {k7 k7' : Nat × Int32 × kS → Prop} (hk : ∀ S1, WT d S1 → K S1 → K' S1) (hk7 : ∀ (x0 : Nat) (x2 : Int32), ((x0, Sum.inl 1) ∈ d) → ∀ S : kS, WT d S → k7 (x0, x2, S) → k7' (x0, x2, S)) {x0 : Nat} {x2 : Int32} (t_x0 : (x0, Sum.inl 1) ∈ d) {S : kS} (hW : WT d S) (h : wT_X1_open_7 K k7 x0 x2 S) : wp_X1_open_7 K' k7' x0 x2 S := by
  unfold wT_X1_open_7 at h
  unfold wp_X1_open_7
  refine ⟨hasO_of hW t_x0, ?_⟩
  intro z2 e_z2
  replace h := h z2 e_z2
  refine ⟨fun c => ?_, fun c => ?_⟩
  · replace h := h.1 c
    refine ⟨hasO_of hW t_x0, ?_⟩
    intro S4 e_S4
    replace h := h S4 e_S4
    replace hW := WT_i hW e_S4
    refine ⟨hasO_of hW t_x0, ?_⟩
    intro S5 e_S5
    replace h := h S5 e_S5
    replace hW := WT_i hW e_S5
    refine ⟨hasO_of hW t_x0, ?_⟩
    intro S6 e_S6
    replace h := h S6 e_S6
    replace hW := WT_i hW e_S6
    refine ⟨hasO_of hW t_x0, ?_⟩
    intro S7 e_S7
    replace h := h S7 e_S7
    replace hW := WT_i hW e_S7
    obtain ⟨n9, h⟩ := h
    exact ⟨n9, tyl_X1_open_53 hk n9 _ _ t_x0 _ hW h⟩
  · replace h := h.2 c
    refine ⟨hasO_of hW t_x0, ?_⟩
    intro z8 e_z8
    replace h := h z8 e_z8
    have t_z8 : ∀ b, z8 = some b → (b, Sum.inr (200, 2)) ∈ d := fun b hb => hW.2.1 3 _ b t_x0 (by rw [← e_z8]; exact hb)
    have n_z8 := wt_nn (f := 3) hW (by decide) t_x0 e_z8
    obtain ⟨q9, e_q9⟩ := n_z8
    refine ⟨q9, e_q9, ?_⟩
    replace h := h q9 e_q9
    have t_q9 := t_z8 q9 e_q9
    refine ⟨hasA_of hW t_q9, ?_⟩
    have hin := h.1
    refine ⟨h.1, ?_⟩
    replace h := h.2
    intro z10 e_z10
    replace h := h z10 e_z10
    have t_z10 : ∀ b, z10 = some b → (b, Sum.inl 9) ∈ d := fun b hb => hW.2.2.2.1 _ _ b t_q9 (by rw [← e_z10]; exact hb)
    obtain ⟨q11, e_q11, h9⟩ := h
    replace h := h9
    clear h9
    refine ⟨q11, e_q11, ?_⟩
    have t_q11 := t_z10 q11 e_q11
    refine ⟨hasO_of hW t_x0, ?_⟩
    refine ty_X1_takeBack t_x0 t_q11 hW (fun S12 hW h => ?_) h
    intro z13 e_z13
    replace h := h z13 e_z13
    exact hk7 _ _ t_x0 _ hW h
theorem tyl_X1_open_7 {d : List (Nat × cK)} {K K' : kS → Prop} (hk : ∀ S1, WT d S1 → K S1 → K' S1) : ∀ (n : Nat) (x0 : Nat) (x2 : Int32), ((x0, Sum.inl 1) ∈ d) → ∀ S : kS, WT d S → it (lT_X1_open_7 K) n (x0, x2, S) → it (ls_X1_open_7 K') n (x0, x2, S) := by
  intro n
  induction n with
  | zero => exact fun _ _ _ _ _ h => h
  | succ n ih => exact fun x0 x2 t_x0 S hW h => ty_X1_open_7 hk ih t_x0 hW h
theorem ty_X1_open {d : List (Nat × cK)} {t0 : Nat} {a0 : Nat} (t_t0 : (t0, Sum.inl 1) ∈ d) (t_a0 : (a0, Sum.inl 5) ∈ d) {S : kS} {K K' : kS → Prop} (hW : WT d S) (hk : ∀ S1, WT d S1 → K S1 → K' S1) (h : wT_X1_open t0 a0 S K) : wp_X1_open t0 a0 S K' := by
  unfold wT_X1_open at h
  unfold wp_X1_open
  refine ⟨hasO_of hW t_t0, ?_⟩
  intro S1 e_S1
  replace h := h S1 e_S1
  replace hW := WT_r hW e_S1 (fun b hb => by cases hb; exact t_a0) (by decide)
  obtain ⟨n9, h⟩ := h
  exact ⟨n9, tyl_X1_open_7 hk n9 _ _ t_t0 _ hW h⟩
def wT_X2_add_76 (K : kS → Prop) (x0 : Nat) (x1 : Nat) (x3 : Option Nat) (S : kS) : Prop := ((x3 = none → ∀ S17 : kS, S17 = cR S 13 x0 (some x1) → K S17) ∧ (∀ q16 : Nat, x3 = some q16 → ∀ S18 : kS, S18 = cR S 26 q16 (some x1) → K S18))
def wT_X2_add_43 (K : kS → Prop) (x0 : Nat) (x1 : Nat) (x2 : Option Nat) (y0 : Option Nat) (S : kS) : Prop := ∀ S10 : kS, S10 = cR S 25 x1 (some x0) → ∀ S11 : kS, S11 = cR S10 26 x1 x2 → ∀ S12 : kS, S12 = cR S11 27 x1 y0 → ((x2 = none → ∀ S14 : kS, S14 = cR S12 12 x0 (some x1) → wT_X2_add_76 K x0 x1 y0 S14) ∧ (∀ q13 : Nat, x2 = some q13 → ∀ S15 : kS, S15 = cR S12 27 q13 (some x1) → wT_X2_add_76 K x0 x1 y0 S15))
def wT_X2_add_28 (K : kS → Prop) (x0 : Nat) (x1 : Nat) (x2 : Option Nat) (S : kS) : Prop := ((x2 = none → ∀ z8 : Option Nat, z8 = S.2.1 12 x0 → wT_X2_add_43 K x0 x1 none z8 S) ∧ (∀ q7 : Nat, x2 = some q7 → ∀ z9 : Option Nat, z9 = S.2.1 27 q7 → wT_X2_add_43 K x0 x1 (some q7) z9 S))
def wT_X2_add_5 (K : kS → Prop) (k5 : Nat × Nat × Option Nat × kS → Prop) (x0 : Nat) (x1 : Nat) (x2 : Option Nat) (S : kS) : Prop := ((x2 = none → wT_X2_add_28 K x0 x1 none S) ∧ (∀ q2 : Nat, x2 = some q2 → ∀ z3 : Int32, z3 = S.1 16 q2 → ∀ z4 : Int32, z4 = S.1 16 x1 → ((z3 ≤ z4 → wT_X2_add_28 K x0 x1 (some q2) S) ∧ (¬ z3 ≤ z4 → ∀ z6 : Option Nat, z6 = S.2.1 26 q2 → k5 (x0, x1, z6, S)))))
def lT_X2_add_5 (K : kS → Prop) (k5 : Nat × Nat × Option Nat × kS → Prop) (u : Nat × Nat × Option Nat × kS) : Prop := wT_X2_add_5 K k5 u.1 u.2.1 u.2.2.1 u.2.2.2
def wT_X2_add (t0 : Nat) (a0 : Nat) (S : kS) (K : kS → Prop) : Prop := ∀ z1 : Option Nat, z1 = S.2.1 13 t0 → (∃ n9, it (lT_X2_add_5 K) n9 (t0, a0, z1, S))
theorem ty_X2_add_76 {d : List (Nat × cK)} {K K' : kS → Prop} (hk : ∀ S1, WT d S1 → K S1 → K' S1) {x0 : Nat} {x1 : Nat} {x3 : Option Nat} (t_x0 : (x0, Sum.inl 2) ∈ d) (t_x1 : (x1, Sum.inl 4) ∈ d) (t_x3 : ∀ b, x3 = some b → (b, Sum.inl 4) ∈ d) {S : kS} (hW : WT d S) (h : wT_X2_add_76 K x0 x1 x3 S) : wp_X2_add_76 K' x0 x1 x3 S := by
  unfold wT_X2_add_76 at h
  unfold wp_X2_add_76
  refine ⟨fun c => ?_, fun q16 c => ?_⟩
  · replace h := h.1 c
    refine ⟨hasO_of hW t_x0, ?_⟩
    intro S17 e_S17
    replace h := h S17 e_S17
    replace hW := WT_r hW e_S17 (fun b hb => by cases hb; exact t_x1) (by decide)
    exact hk _ hW h
  · replace h := h.2 q16 c
    have t_q16 := t_x3 q16 c
    refine ⟨hasO_of hW t_q16, ?_⟩
    intro S18 e_S18
    replace h := h S18 e_S18
    replace hW := WT_r hW e_S18 (fun b hb => by cases hb; exact t_x1) (by decide)
    exact hk _ hW h
theorem ty_X2_add_43 {d : List (Nat × cK)} {K K' : kS → Prop} (hk : ∀ S1, WT d S1 → K S1 → K' S1) {x0 : Nat} {x1 : Nat} {x2 : Option Nat} {y0 : Option Nat} (t_x0 : (x0, Sum.inl 2) ∈ d) (t_x1 : (x1, Sum.inl 4) ∈ d) (t_x2 : ∀ b, x2 = some b → (b, Sum.inl 4) ∈ d) (t_y0 : ∀ b, y0 = some b → (b, Sum.inl 4) ∈ d) {S : kS} (hW : WT d S) (h : wT_X2_add_43 K x0 x1 x2 y0 S) : wp_X2_add_43 K' x0 x1 x2 y0 S := by
  unfold wT_X2_add_43 at h
  unfold wp_X2_add_43
  refine ⟨hasO_of hW t_x1, ?_⟩
  intro S10 e_S10
  replace h := h S10 e_S10
  replace hW := WT_r hW e_S10 (fun b hb => by cases hb; exact t_x0) (by decide)
  refine ⟨hasO_of hW t_x1, ?_⟩
  intro S11 e_S11
  replace h := h S11 e_S11
  replace hW := WT_r hW e_S11 t_x2 (by decide)
  refine ⟨hasO_of hW t_x1, ?_⟩
  intro S12 e_S12
  replace h := h S12 e_S12
  replace hW := WT_r hW e_S12 t_y0 (by decide)
  refine ⟨fun c => ?_, fun q13 c => ?_⟩
  · replace h := h.1 c
    refine ⟨hasO_of hW t_x0, ?_⟩
    intro S14 e_S14
    replace h := h S14 e_S14
    replace hW := WT_r hW e_S14 (fun b hb => by cases hb; exact t_x1) (by decide)
    exact ty_X2_add_76 hk t_x0 t_x1 t_y0 hW h
  · replace h := h.2 q13 c
    have t_q13 := t_x2 q13 c
    refine ⟨hasO_of hW t_q13, ?_⟩
    intro S15 e_S15
    replace h := h S15 e_S15
    replace hW := WT_r hW e_S15 (fun b hb => by cases hb; exact t_x1) (by decide)
    exact ty_X2_add_76 hk t_x0 t_x1 t_y0 hW h
theorem ty_X2_add_28 {d : List (Nat × cK)} {K K' : kS → Prop} (hk : ∀ S1, WT d S1 → K S1 → K' S1) {x0 : Nat} {x1 : Nat} {x2 : Option Nat} (t_x0 : (x0, Sum.inl 2) ∈ d) (t_x1 : (x1, Sum.inl 4) ∈ d) (t_x2 : ∀ b, x2 = some b → (b, Sum.inl 4) ∈ d) {S : kS} (hW : WT d S) (h : wT_X2_add_28 K x0 x1 x2 S) : wp_X2_add_28 K' x0 x1 x2 S := by
  unfold wT_X2_add_28 at h
  unfold wp_X2_add_28
  refine ⟨fun c => ?_, fun q7 c => ?_⟩
  · replace h := h.1 c
    refine ⟨hasO_of hW t_x0, ?_⟩
    intro z8 e_z8
    replace h := h z8 e_z8
    have t_z8 : ∀ b, z8 = some b → (b, Sum.inl 4) ∈ d := fun b hb => hW.2.1 12 _ b t_x0 (by rw [← e_z8]; exact hb)
    exact ty_X2_add_43 hk t_x0 t_x1 (fun b hb => by cases hb) t_z8 hW h
  · replace h := h.2 q7 c
    have t_q7 := t_x2 q7 c
    refine ⟨hasO_of hW t_q7, ?_⟩
    intro z9 e_z9
    replace h := h z9 e_z9
    have t_z9 : ∀ b, z9 = some b → (b, Sum.inl 4) ∈ d := fun b hb => hW.2.1 27 _ b t_q7 (by rw [← e_z9]; exact hb)
    exact ty_X2_add_43 hk t_x0 t_x1 (fun b hb => by cases hb; exact t_q7) t_z9 hW h
theorem ty_X2_add_5 {d : List (Nat × cK)} {K K' : kS → Prop} {k5 k5' : Nat × Nat × Option Nat × kS → Prop} (hk : ∀ S1, WT d S1 → K S1 → K' S1) (hk5 : ∀ (x0 : Nat) (x1 : Nat) (x2 : Option Nat), ((x0, Sum.inl 2) ∈ d) → ((x1, Sum.inl 4) ∈ d) → (∀ b, x2 = some b → (b, Sum.inl 4) ∈ d) → ∀ S : kS, WT d S → k5 (x0, x1, x2, S) → k5' (x0, x1, x2, S)) {x0 : Nat} {x1 : Nat} {x2 : Option Nat} (t_x0 : (x0, Sum.inl 2) ∈ d) (t_x1 : (x1, Sum.inl 4) ∈ d) (t_x2 : ∀ b, x2 = some b → (b, Sum.inl 4) ∈ d) {S : kS} (hW : WT d S) (h : wT_X2_add_5 K k5 x0 x1 x2 S) : wp_X2_add_5 K' k5' x0 x1 x2 S := by
  unfold wT_X2_add_5 at h
  unfold wp_X2_add_5
  refine ⟨fun c => ?_, fun q2 c => ?_⟩
  · replace h := h.1 c
    exact ty_X2_add_28 hk t_x0 t_x1 (fun b hb => by cases hb) hW h
  · replace h := h.2 q2 c
    have t_q2 := t_x2 q2 c
    refine ⟨hasO_of hW t_q2, ?_⟩
    intro z3 e_z3
    replace h := h z3 e_z3
    refine ⟨hasO_of hW t_x1, ?_⟩
    intro z4 e_z4
    replace h := h z4 e_z4
    refine ⟨fun c => ?_, fun c => ?_⟩
    · replace h := h.1 c
      exact ty_X2_add_28 hk t_x0 t_x1 (fun b hb => by cases hb; exact t_q2) hW h
    · replace h := h.2 c
      refine ⟨hasO_of hW t_q2, ?_⟩
      intro z6 e_z6
      replace h := h z6 e_z6
      have t_z6 : ∀ b, z6 = some b → (b, Sum.inl 4) ∈ d := fun b hb => hW.2.1 26 _ b t_q2 (by rw [← e_z6]; exact hb)
      exact hk5 _ _ _ t_x0 t_x1 t_z6 _ hW h
theorem tyl_X2_add_5 {d : List (Nat × cK)} {K K' : kS → Prop} (hk : ∀ S1, WT d S1 → K S1 → K' S1) : ∀ (n : Nat) (x0 : Nat) (x1 : Nat) (x2 : Option Nat), ((x0, Sum.inl 2) ∈ d) → ((x1, Sum.inl 4) ∈ d) → (∀ b, x2 = some b → (b, Sum.inl 4) ∈ d) → ∀ S : kS, WT d S → it (lT_X2_add_5 K) n (x0, x1, x2, S) → it (ls_X2_add_5 K') n (x0, x1, x2, S) := by
  intro n
  induction n with
  | zero => exact fun _ _ _ _ _ _ _ _ h => h
  | succ n ih => exact fun x0 x1 x2 t_x0 t_x1 t_x2 S hW h => ty_X2_add_5 hk ih t_x0 t_x1 t_x2 hW h
theorem ty_X2_add {d : List (Nat × cK)} {t0 : Nat} {a0 : Nat} (t_t0 : (t0, Sum.inl 2) ∈ d) (t_a0 : (a0, Sum.inl 4) ∈ d) {S : kS} {K K' : kS → Prop} (hW : WT d S) (hk : ∀ S1, WT d S1 → K S1 → K' S1) (h : wT_X2_add t0 a0 S K) : wp_X2_add t0 a0 S K' := by
  unfold wT_X2_add at h
  unfold wp_X2_add
  refine ⟨hasO_of hW t_t0, ?_⟩
  intro z1 e_z1
  replace h := h z1 e_z1
  have t_z1 : ∀ b, z1 = some b → (b, Sum.inl 4) ∈ d := fun b hb => hW.2.1 13 _ b t_t0 (by rw [← e_z1]; exact hb)
  obtain ⟨n9, h⟩ := h
  exact ⟨n9, tyl_X2_add_5 hk n9 _ _ _ t_t0 t_a0 t_z1 _ hW h⟩
def wT_X1_setAlarm_23 (K : kS → Prop) (x0 : Nat) (x1 : Nat) (y0 : Nat) (y1 : Int32) (S : kS) : Prop := ∀ S6 : kS, S6 = cI S 16 y0 y1 → ∀ z7 : Option Nat, z7 = S6.2.1 8 x0 → ∀ q8 : Nat, z7 = some q8 → wT_X2_add q8 x1 S6 (fun (S9 : kS) => K S9)
def wT_X1_setAlarm (t0 : Nat) (a0 : Nat) (a1 : Int32) (S : kS) (K : kS → Prop) : Prop := ∀ z1 : Int32, z1 = S.1 4 t0 → ∀ z2 : Int32, z2 = 2147483647 - z1 → ((a1 ≤ z2 → ∀ z4 : Int32, z4 = S.1 4 t0 → ∀ z5 : Int32, z5 = z4 + a1 → wT_X1_setAlarm_23 K t0 a0 a0 z5 S) ∧ (¬ a1 ≤ z2 → wT_X1_setAlarm_23 K t0 a0 a0 2147483647 S))
theorem ty_X1_setAlarm_23 {d : List (Nat × cK)} {K K' : kS → Prop} (hk : ∀ S1, WT d S1 → K S1 → K' S1) {x0 : Nat} {x1 : Nat} {y0 : Nat} {y1 : Int32} (t_x0 : (x0, Sum.inl 1) ∈ d) (t_x1 : (x1, Sum.inl 4) ∈ d) (t_y0 : (y0, Sum.inl 4) ∈ d) {S : kS} (hW : WT d S) (h : wT_X1_setAlarm_23 K x0 x1 y0 y1 S) : wp_X1_setAlarm_23 K' x0 x1 y0 y1 S := by
  unfold wT_X1_setAlarm_23 at h
  unfold wp_X1_setAlarm_23
  refine ⟨hasO_of hW t_y0, ?_⟩
  intro S6 e_S6
  replace h := h S6 e_S6
  replace hW := WT_i hW e_S6
  refine ⟨hasO_of hW t_x0, ?_⟩
  intro z7 e_z7
  replace h := h z7 e_z7
  have t_z7 : ∀ b, z7 = some b → (b, Sum.inl 2) ∈ d := fun b hb => hW.2.1 8 _ b t_x0 (by rw [← e_z7]; exact hb)
  have n_z7 := wt_nn (f := 8) hW (by decide) t_x0 e_z7
  obtain ⟨q8, e_q8⟩ := n_z7
  refine ⟨q8, e_q8, ?_⟩
  replace h := h q8 e_q8
  have t_q8 := t_z7 q8 e_q8
  refine ⟨hasO_of hW t_q8, ?_⟩
  refine ty_X2_add t_q8 t_x1 hW (fun S9 hW h => ?_) h
  exact hk _ hW h
theorem ty_X1_setAlarm {d : List (Nat × cK)} {t0 : Nat} {a0 : Nat} {a1 : Int32} (t_t0 : (t0, Sum.inl 1) ∈ d) (t_a0 : (a0, Sum.inl 4) ∈ d) {S : kS} {K K' : kS → Prop} (hW : WT d S) (hk : ∀ S1, WT d S1 → K S1 → K' S1) (h : wT_X1_setAlarm t0 a0 a1 S K) : wp_X1_setAlarm t0 a0 a1 S K' := by
  unfold wT_X1_setAlarm at h
  unfold wp_X1_setAlarm
  refine ⟨hasO_of hW t_t0, ?_⟩
  intro z1 e_z1
  replace h := h z1 e_z1
  intro z2 e_z2
  replace h := h z2 e_z2
  refine ⟨fun c => ?_, fun c => ?_⟩
  · replace h := h.1 c
    refine ⟨hasO_of hW t_t0, ?_⟩
    intro z4 e_z4
    replace h := h z4 e_z4
    intro z5 e_z5
    replace h := h z5 e_z5
    exact ty_X1_setAlarm_23 hk t_t0 t_a0 t_a0 hW h
  · replace h := h.2 c
    exact ty_X1_setAlarm_23 hk t_t0 t_a0 t_a0 hW h
def wT_X1_stand_60 (K : kS → Prop) (x0 : Nat) (S : kS) : Prop := wT_X1_work x0 S (fun (S20 : kS) => K S20)
def wT_X1_stand (t0 : Nat) (a0 : Nat) (S : kS) (K : kS → Prop) : Prop := ∀ S1 : kS, S1 = cI S 30 a0 1 → ∀ z2 : Int32, z2 = S1.1 28 a0 → ∀ z3 : Int32, z3 = z2 ^^^ (-1) → wT_X1_plan t0 z3 S1 (fun (S4 : kS) => wT_X1_letGo t0 a0 0 S4 (fun (S5 : kS) => ∀ z6 : Option Nat, z6 = S5.2.1 62 a0 → ((z6 = none → wT_X1_stand_60 K t0 S5) ∧ (∀ q7 : Nat, z6 = some q7 → ∀ z8 : Option Nat, z8 = S5.2.1 62 a0 → ∃ q9 : Nat, z8 = some q9 ∧ ∀ z10 : Int32, z10 = S5.1 13 q9 → ((z10 = 0 → wT_X1_stand_60 K t0 S5) ∧ (¬ z10 = 0 → ∀ z12 : Option Nat, z12 = S5.2.1 62 a0 → ∃ q13 : Nat, z12 = some q13 ∧ ∀ z14 : Int32, z14 = S5.1 13 q13 → ∀ S15 : kS, S15 = cI S5 38 a0 z14 → ∀ z16 : Option Nat, z16 = S15.2.1 62 a0 → ∃ q17 : Nat, z16 = some q17 ∧ ∀ z18 : Int32, z18 = S15.1 14 q17 → ∀ S19 : kS, S19 = cI S15 39 a0 z18 → wT_X1_stand_60 K t0 S19))))))
theorem ty_X1_stand_60 {d : List (Nat × cK)} {K K' : kS → Prop} (hk : ∀ S1, WT d S1 → K S1 → K' S1) {x0 : Nat} (t_x0 : (x0, Sum.inl 1) ∈ d) {S : kS} (hW : WT d S) (h : wT_X1_stand_60 K x0 S) : wp_X1_stand_60 K' x0 S := by
  unfold wT_X1_stand_60 at h
  unfold wp_X1_stand_60
  refine ⟨hasO_of hW t_x0, ?_⟩
  refine ty_X1_work t_x0 hW (fun S20 hW h => ?_) h
  exact hk _ hW h
theorem ty_X1_stand {d : List (Nat × cK)} {t0 : Nat} {a0 : Nat} (t_t0 : (t0, Sum.inl 1) ∈ d) (t_a0 : (a0, Sum.inl 9) ∈ d) {S : kS} {K K' : kS → Prop} (hW : WT d S) (hk : ∀ S1, WT d S1 → K S1 → K' S1) (h : wT_X1_stand t0 a0 S K) : wp_X1_stand t0 a0 S K' := by
  unfold wT_X1_stand at h
  unfold wp_X1_stand
  refine ⟨hasO_of hW t_a0, ?_⟩
  intro S1 e_S1
  replace h := h S1 e_S1
  replace hW := WT_i hW e_S1
  refine ⟨hasO_of hW t_a0, ?_⟩
  intro z2 e_z2
  replace h := h z2 e_z2
  intro z3 e_z3
  replace h := h z3 e_z3
  refine ⟨hasO_of hW t_t0, ?_⟩
  refine ty_X1_plan t_t0 hW (fun S4 hW h => ?_) h
  refine ⟨hasO_of hW t_t0, ?_⟩
  refine ty_X1_letGo t_t0 t_a0 hW (fun S5 hW h => ?_) h
  refine ⟨hasO_of hW t_a0, ?_⟩
  intro z6 e_z6
  replace h := h z6 e_z6
  have t_z6 : ∀ b, z6 = some b → (b, Sum.inl 4) ∈ d := fun b hb => hW.2.1 62 _ b t_a0 (by rw [← e_z6]; exact hb)
  refine ⟨fun c => ?_, fun q7 c => ?_⟩
  · replace h := h.1 c
    exact ty_X1_stand_60 hk t_t0 hW h
  · replace h := h.2 q7 c
    have t_q7 := t_z6 q7 c
    refine ⟨hasO_of hW t_a0, ?_⟩
    intro z8 e_z8
    replace h := h z8 e_z8
    have t_z8 : ∀ b, z8 = some b → (b, Sum.inl 4) ∈ d := fun b hb => hW.2.1 62 _ b t_a0 (by rw [← e_z8]; exact hb)
    obtain ⟨q9, e_q9, h9⟩ := h
    replace h := h9
    clear h9
    refine ⟨q9, e_q9, ?_⟩
    have t_q9 := t_z8 q9 e_q9
    refine ⟨hasO_of hW t_q9, ?_⟩
    intro z10 e_z10
    replace h := h z10 e_z10
    refine ⟨fun c => ?_, fun c => ?_⟩
    · replace h := h.1 c
      exact ty_X1_stand_60 hk t_t0 hW h
    · replace h := h.2 c
      refine ⟨hasO_of hW t_a0, ?_⟩
      intro z12 e_z12
      replace h := h z12 e_z12
      have t_z12 : ∀ b, z12 = some b → (b, Sum.inl 4) ∈ d := fun b hb => hW.2.1 62 _ b t_a0 (by rw [← e_z12]; exact hb)
      obtain ⟨q13, e_q13, h9⟩ := h
      replace h := h9
      clear h9
      refine ⟨q13, e_q13, ?_⟩
      have t_q13 := t_z12 q13 e_q13
      refine ⟨hasO_of hW t_q13, ?_⟩
      intro z14 e_z14
      replace h := h z14 e_z14
      refine ⟨hasO_of hW t_a0, ?_⟩
      intro S15 e_S15
      replace h := h S15 e_S15
      replace hW := WT_i hW e_S15
      refine ⟨hasO_of hW t_a0, ?_⟩
      intro z16 e_z16
      replace h := h z16 e_z16
      have t_z16 : ∀ b, z16 = some b → (b, Sum.inl 4) ∈ d := fun b hb => hW.2.1 62 _ b t_a0 (by rw [← e_z16]; exact hb)
      obtain ⟨q17, e_q17, h9⟩ := h
      replace h := h9
      clear h9
      refine ⟨q17, e_q17, ?_⟩
      have t_q17 := t_z16 q17 e_q17
      refine ⟨hasO_of hW t_q17, ?_⟩
      intro z18 e_z18
      replace h := h z18 e_z18
      refine ⟨hasO_of hW t_a0, ?_⟩
      intro S19 e_S19
      replace h := h S19 e_S19
      replace hW := WT_i hW e_S19
      exact ty_X1_stand_60 hk t_t0 hW h
def wT_X1_takeLetter_25 (K : kS → Int32 → Prop) (k25 : Nat × Int32 × Int32 × Int32 × Int32 × kS → Prop) (x0 : Nat) (x1 : Int32) (x2 : Int32) (x3 : Int32) (x4 : Int32) (S : kS) : Prop := ∀ z10 : Option Nat, z10 = S.2.1 6 x0 → ∀ q11 : Nat, z10 = some q11 → inR x1 8 ∧ ∀ z12 : Int32, z12 = S.2.2.1 q11 (ix x1) → ((z12 ≤ x4 → K S x3) ∧ (¬ z12 ≤ x4 → ∀ z14 : Option Nat, z14 = S.2.1 5 x0 → ∀ z15 : Int32, z15 = x2 + x4 → ∀ z16 : Option Nat, z16 = S.2.1 5 x0 → ∀ z17 : Int32, z17 = x2 + x4 → ∀ z18 : Int32, z18 = z17 + 1 → ∀ q19 : Nat, z16 = some q19 → inR z18 400 ∧ ∀ z20 : Int32, z20 = S.2.2.1 q19 (ix z18) → ∀ q21 : Nat, z14 = some q21 → inR z15 400 ∧ ∀ S22 : kS, S22 = cA S q21 (ix z15) z20 → ∀ z23 : Int32, z23 = x4 + 1 → k25 (x0, x1, x2, x3, z23, S22)))
def lT_X1_takeLetter_25 (K : kS → Int32 → Prop) (k25 : Nat × Int32 × Int32 × Int32 × Int32 × kS → Prop) (u : Nat × Int32 × Int32 × Int32 × Int32 × kS) : Prop := wT_X1_takeLetter_25 K k25 u.1 u.2.1 u.2.2.1 u.2.2.2.1 u.2.2.2.2.1 u.2.2.2.2.2
def wT_X1_takeLetter (t0 : Nat) (a0 : Int32) (S : kS) (K : kS → Int32 → Prop) : Prop := ∀ z1 : Int32, z1 = a0 * 50 → ∀ z2 : Option Nat, z2 = S.2.1 5 t0 → ∀ q3 : Nat, z2 = some q3 → inR z1 400 ∧ ∀ z4 : Int32, z4 = S.2.2.1 q3 (ix z1) → ∀ z5 : Option Nat, z5 = S.2.1 6 t0 → ∀ q6 : Nat, z5 = some q6 → inR a0 8 ∧ ∀ z7 : Int32, z7 = S.2.2.1 q6 (ix a0) → ∀ z8 : Int32, z8 = z7 - 1 → inR a0 8 ∧ ∀ S9 : kS, S9 = cA S q6 (ix a0) z8 → (∃ n9, it (lT_X1_takeLetter_25 K) n9 (t0, a0, z1, z4, 0, S9))
theorem ty_X1_takeLetter_25 {d : List (Nat × cK)} {K K' : kS → Int32 → Prop} {k25 k25' : Nat × Int32 × Int32 × Int32 × Int32 × kS → Prop} (hk : ∀ S1 r1, WT d S1 → K S1 r1 → K' S1 r1) (hk25 : ∀ (x0 : Nat) (x1 : Int32) (x2 : Int32) (x3 : Int32) (x4 : Int32), ((x0, Sum.inl 1) ∈ d) → ∀ S : kS, WT d S → k25 (x0, x1, x2, x3, x4, S) → k25' (x0, x1, x2, x3, x4, S)) {x0 : Nat} {x1 : Int32} {x2 : Int32} {x3 : Int32} {x4 : Int32} (t_x0 : (x0, Sum.inl 1) ∈ d) {S : kS} (hW : WT d S) (h : wT_X1_takeLetter_25 K k25 x0 x1 x2 x3 x4 S) : wp_X1_takeLetter_25 K' k25' x0 x1 x2 x3 x4 S := by
  unfold wT_X1_takeLetter_25 at h
  unfold wp_X1_takeLetter_25
  refine ⟨hasO_of hW t_x0, ?_⟩
  intro z10 e_z10
  replace h := h z10 e_z10
  have t_z10 : ∀ b, z10 = some b → (b, Sum.inr (8, 0)) ∈ d := fun b hb => hW.2.1 6 _ b t_x0 (by rw [← e_z10]; exact hb)
  have n_z10 := wt_nn (f := 6) hW (by decide) t_x0 e_z10
  obtain ⟨q11, e_q11⟩ := n_z10
  refine ⟨q11, e_q11, ?_⟩
  replace h := h q11 e_q11
  have t_q11 := t_z10 q11 e_q11
  refine ⟨hasA_of hW t_q11, ?_⟩
  have hin := h.1
  refine ⟨h.1, ?_⟩
  replace h := h.2
  intro z12 e_z12
  replace h := h z12 e_z12
  refine ⟨fun c => ?_, fun c => ?_⟩
  · replace h := h.1 c
    exact hk _ _ hW h
  · replace h := h.2 c
    refine ⟨hasO_of hW t_x0, ?_⟩
    intro z14 e_z14
    replace h := h z14 e_z14
    have t_z14 : ∀ b, z14 = some b → (b, Sum.inr (400, 0)) ∈ d := fun b hb => hW.2.1 5 _ b t_x0 (by rw [← e_z14]; exact hb)
    have n_z14 := wt_nn (f := 5) hW (by decide) t_x0 e_z14
    intro z15 e_z15
    replace h := h z15 e_z15
    refine ⟨hasO_of hW t_x0, ?_⟩
    intro z16 e_z16
    replace h := h z16 e_z16
    have t_z16 : ∀ b, z16 = some b → (b, Sum.inr (400, 0)) ∈ d := fun b hb => hW.2.1 5 _ b t_x0 (by rw [← e_z16]; exact hb)
    have n_z16 := wt_nn (f := 5) hW (by decide) t_x0 e_z16
    intro z17 e_z17
    replace h := h z17 e_z17
    intro z18 e_z18
    replace h := h z18 e_z18
    obtain ⟨q19, e_q19⟩ := n_z16
    refine ⟨q19, e_q19, ?_⟩
    replace h := h q19 e_q19
    have t_q19 := t_z16 q19 e_q19
    refine ⟨hasA_of hW t_q19, ?_⟩
    have hin := h.1
    refine ⟨h.1, ?_⟩
    replace h := h.2
    intro z20 e_z20
    replace h := h z20 e_z20
    obtain ⟨q21, e_q21⟩ := n_z14
    refine ⟨q21, e_q21, ?_⟩
    replace h := h q21 e_q21
    have t_q21 := t_z14 q21 e_q21
    refine ⟨hasA_of hW t_q21, ?_⟩
    have hin := h.1
    refine ⟨h.1, ?_⟩
    replace h := h.2
    intro S22 e_S22
    replace h := h S22 e_S22
    replace hW := WT_a hW e_S22
    intro z23 e_z23
    replace h := h z23 e_z23
    exact hk25 _ _ _ _ _ t_x0 _ hW h
theorem tyl_X1_takeLetter_25 {d : List (Nat × cK)} {K K' : kS → Int32 → Prop} (hk : ∀ S1 r1, WT d S1 → K S1 r1 → K' S1 r1) : ∀ (n : Nat) (x0 : Nat) (x1 : Int32) (x2 : Int32) (x3 : Int32) (x4 : Int32), ((x0, Sum.inl 1) ∈ d) → ∀ S : kS, WT d S → it (lT_X1_takeLetter_25 K) n (x0, x1, x2, x3, x4, S) → it (ls_X1_takeLetter_25 K') n (x0, x1, x2, x3, x4, S) := by
  intro n
  induction n with
  | zero => exact fun _ _ _ _ _ _ _ _ h => h
  | succ n ih => exact fun x0 x1 x2 x3 x4 t_x0 S hW h => ty_X1_takeLetter_25 hk ih t_x0 hW h
theorem ty_X1_takeLetter {d : List (Nat × cK)} {t0 : Nat} {a0 : Int32} (t_t0 : (t0, Sum.inl 1) ∈ d) {S : kS} {K K' : kS → Int32 → Prop} (hW : WT d S) (hk : ∀ S1 r1, WT d S1 → K S1 r1 → K' S1 r1) (h : wT_X1_takeLetter t0 a0 S K) : wp_X1_takeLetter t0 a0 S K' := by
  unfold wT_X1_takeLetter at h
  unfold wp_X1_takeLetter
  intro z1 e_z1
  replace h := h z1 e_z1
  refine ⟨hasO_of hW t_t0, ?_⟩
  intro z2 e_z2
  replace h := h z2 e_z2
  have t_z2 : ∀ b, z2 = some b → (b, Sum.inr (400, 0)) ∈ d := fun b hb => hW.2.1 5 _ b t_t0 (by rw [← e_z2]; exact hb)
  have n_z2 := wt_nn (f := 5) hW (by decide) t_t0 e_z2
  obtain ⟨q3, e_q3⟩ := n_z2
  refine ⟨q3, e_q3, ?_⟩
  replace h := h q3 e_q3
  have t_q3 := t_z2 q3 e_q3
  refine ⟨hasA_of hW t_q3, ?_⟩
  have hin := h.1
  refine ⟨h.1, ?_⟩
  replace h := h.2
  intro z4 e_z4
  replace h := h z4 e_z4
  refine ⟨hasO_of hW t_t0, ?_⟩
  intro z5 e_z5
  replace h := h z5 e_z5
  have t_z5 : ∀ b, z5 = some b → (b, Sum.inr (8, 0)) ∈ d := fun b hb => hW.2.1 6 _ b t_t0 (by rw [← e_z5]; exact hb)
  have n_z5 := wt_nn (f := 6) hW (by decide) t_t0 e_z5
  obtain ⟨q6, e_q6⟩ := n_z5
  refine ⟨q6, e_q6, ?_⟩
  replace h := h q6 e_q6
  have t_q6 := t_z5 q6 e_q6
  refine ⟨hasA_of hW t_q6, ?_⟩
  have hin := h.1
  refine ⟨h.1, ?_⟩
  replace h := h.2
  intro z7 e_z7
  replace h := h z7 e_z7
  intro z8 e_z8
  replace h := h z8 e_z8
  refine ⟨hasA_of hW t_q6, ?_⟩
  have hin := h.1
  refine ⟨h.1, ?_⟩
  replace h := h.2
  intro S9 e_S9
  replace h := h S9 e_S9
  replace hW := WT_a hW e_S9
  obtain ⟨n9, h⟩ := h
  exact ⟨n9, tyl_X1_takeLetter_25 hk n9 _ _ _ _ _ t_t0 _ hW h⟩
def wT_X3_kind (t0 : Nat) (S : kS) (K : kS → Int32 → Prop) : Prop := ∀ z1 : Option Nat, z1 = S.2.1 14 t0 → ∀ q2 : Nat, z1 = some q2 → ∀ z3 : Option Nat, z3 = S.2.1 64 q2 → ∀ z4 : Int32, z4 = S.1 6 t0 → ∀ q5 : Nat, z3 = some q5 → inR z4 4002 ∧ ∀ z6 : Int32, z6 = S.2.2.1 q5 (ix z4) → K S z6
theorem ty_X3_kind {d : List (Nat × cK)} {t0 : Nat} (t_t0 : (t0, Sum.inl 3) ∈ d) {S : kS} {K K' : kS → Int32 → Prop} (hW : WT d S) (hk : ∀ S1 r1, WT d S1 → K S1 r1 → K' S1 r1) (h : wT_X3_kind t0 S K) : wp_X3_kind t0 S K' := by
  unfold wT_X3_kind at h
  unfold wp_X3_kind
  refine ⟨hasO_of hW t_t0, ?_⟩
  intro z1 e_z1
  replace h := h z1 e_z1
  have t_z1 : ∀ b, z1 = some b → (b, Sum.inl 10) ∈ d := fun b hb => hW.2.1 14 _ b t_t0 (by rw [← e_z1]; exact hb)
  have n_z1 := wt_nn (f := 14) hW (by decide) t_t0 e_z1
  obtain ⟨q2, e_q2⟩ := n_z1
  refine ⟨q2, e_q2, ?_⟩
  replace h := h q2 e_q2
  have t_q2 := t_z1 q2 e_q2
  refine ⟨hasO_of hW t_q2, ?_⟩
  intro z3 e_z3
  replace h := h z3 e_z3
  have t_z3 : ∀ b, z3 = some b → (b, Sum.inr (4002, 0)) ∈ d := fun b hb => hW.2.1 64 _ b t_q2 (by rw [← e_z3]; exact hb)
  have n_z3 := wt_nn (f := 64) hW (by decide) t_q2 e_z3
  refine ⟨hasO_of hW t_t0, ?_⟩
  intro z4 e_z4
  replace h := h z4 e_z4
  obtain ⟨q5, e_q5⟩ := n_z3
  refine ⟨q5, e_q5, ?_⟩
  replace h := h q5 e_q5
  have t_q5 := t_z3 q5 e_q5
  refine ⟨hasA_of hW t_q5, ?_⟩
  have hin := h.1
  refine ⟨h.1, ?_⟩
  replace h := h.2
  intro z6 e_z6
  replace h := h z6 e_z6
  exact hk _ _ hW h
def wT_X3_step (t0 : Nat) (S : kS) (K : kS → Prop) : Prop := ∀ z1 : Int32, z1 = S.1 6 t0 → ∀ z2 : Int32, z2 = z1 + 1 → ∀ z3 : Option Nat, z3 = S.2.1 14 t0 → ∀ q4 : Nat, z3 = some q4 → ∀ z5 : Int32, z5 = S.1 40 q4 → ((z5 ≤ z2 → K S) ∧ (¬ z5 ≤ z2 → ∀ z7 : Int32, z7 = S.1 6 t0 → ∀ z8 : Int32, z8 = z7 + 1 → ∀ S9 : kS, S9 = cI S 6 t0 z8 → K S9))
theorem ty_X3_step {d : List (Nat × cK)} {t0 : Nat} (t_t0 : (t0, Sum.inl 3) ∈ d) {S : kS} {K K' : kS → Prop} (hW : WT d S) (hk : ∀ S1, WT d S1 → K S1 → K' S1) (h : wT_X3_step t0 S K) : wp_X3_step t0 S K' := by
  unfold wT_X3_step at h
  unfold wp_X3_step
  refine ⟨hasO_of hW t_t0, ?_⟩
  intro z1 e_z1
  replace h := h z1 e_z1
  intro z2 e_z2
  replace h := h z2 e_z2
  refine ⟨hasO_of hW t_t0, ?_⟩
  intro z3 e_z3
  replace h := h z3 e_z3
  have t_z3 : ∀ b, z3 = some b → (b, Sum.inl 10) ∈ d := fun b hb => hW.2.1 14 _ b t_t0 (by rw [← e_z3]; exact hb)
  have n_z3 := wt_nn (f := 14) hW (by decide) t_t0 e_z3
  obtain ⟨q4, e_q4⟩ := n_z3
  refine ⟨q4, e_q4, ?_⟩
  replace h := h q4 e_q4
  have t_q4 := t_z3 q4 e_q4
  refine ⟨hasO_of hW t_q4, ?_⟩
  intro z5 e_z5
  replace h := h z5 e_z5
  refine ⟨fun c => ?_, fun c => ?_⟩
  · replace h := h.1 c
    exact hk _ hW h
  · replace h := h.2 c
    refine ⟨hasO_of hW t_t0, ?_⟩
    intro z7 e_z7
    replace h := h z7 e_z7
    intro z8 e_z8
    replace h := h z8 e_z8
    refine ⟨hasO_of hW t_t0, ?_⟩
    intro S9 e_S9
    replace h := h S9 e_S9
    replace hW := WT_i hW e_S9
    exact hk _ hW h
def wT_X3_wrong (t0 : Nat) (a0 : Int32) (S : kS) (K : kS → Prop) : Prop := ∀ z1 : Int32, z1 = S.1 7 t0 → ((¬ z1 = 0 → K S) ∧ (z1 = 0 → ∀ z3 : Option Nat, z3 = S.2.1 14 t0 → ∀ q4 : Nat, z3 = some q4 → ∀ z5 : Option Nat, z5 = S.2.1 65 q4 → ∀ z6 : Int32, z6 = S.1 6 t0 → ∀ q7 : Nat, z5 = some q7 → inR z6 4002 ∧ ∀ z8 : Int32, z8 = S.2.2.1 q7 (ix z6) → ∀ z9 : Int32, z9 = 16 * z8 → ∀ z10 : Int32, z10 = a0 + z9 → ∀ S11 : kS, S11 = cI S 7 t0 z10 → ∀ S12 : kS, S12 = cI S11 6 t0 4001 → K S12))
theorem ty_X3_wrong {d : List (Nat × cK)} {t0 : Nat} {a0 : Int32} (t_t0 : (t0, Sum.inl 3) ∈ d) {S : kS} {K K' : kS → Prop} (hW : WT d S) (hk : ∀ S1, WT d S1 → K S1 → K' S1) (h : wT_X3_wrong t0 a0 S K) : wp_X3_wrong t0 a0 S K' := by
  unfold wT_X3_wrong at h
  unfold wp_X3_wrong
  refine ⟨hasO_of hW t_t0, ?_⟩
  intro z1 e_z1
  replace h := h z1 e_z1
  refine ⟨fun c => ?_, fun c => ?_⟩
  · replace h := h.1 c
    exact hk _ hW h
  · replace h := h.2 c
    refine ⟨hasO_of hW t_t0, ?_⟩
    intro z3 e_z3
    replace h := h z3 e_z3
    have t_z3 : ∀ b, z3 = some b → (b, Sum.inl 10) ∈ d := fun b hb => hW.2.1 14 _ b t_t0 (by rw [← e_z3]; exact hb)
    have n_z3 := wt_nn (f := 14) hW (by decide) t_t0 e_z3
    obtain ⟨q4, e_q4⟩ := n_z3
    refine ⟨q4, e_q4, ?_⟩
    replace h := h q4 e_q4
    have t_q4 := t_z3 q4 e_q4
    refine ⟨hasO_of hW t_q4, ?_⟩
    intro z5 e_z5
    replace h := h z5 e_z5
    have t_z5 : ∀ b, z5 = some b → (b, Sum.inr (4002, 0)) ∈ d := fun b hb => hW.2.1 65 _ b t_q4 (by rw [← e_z5]; exact hb)
    have n_z5 := wt_nn (f := 65) hW (by decide) t_q4 e_z5
    refine ⟨hasO_of hW t_t0, ?_⟩
    intro z6 e_z6
    replace h := h z6 e_z6
    obtain ⟨q7, e_q7⟩ := n_z5
    refine ⟨q7, e_q7, ?_⟩
    replace h := h q7 e_q7
    have t_q7 := t_z5 q7 e_q7
    refine ⟨hasA_of hW t_q7, ?_⟩
    have hin := h.1
    refine ⟨h.1, ?_⟩
    replace h := h.2
    intro z8 e_z8
    replace h := h z8 e_z8
    intro z9 e_z9
    replace h := h z9 e_z9
    intro z10 e_z10
    replace h := h z10 e_z10
    refine ⟨hasO_of hW t_t0, ?_⟩
    intro S11 e_S11
    replace h := h S11 e_S11
    replace hW := WT_i hW e_S11
    refine ⟨hasO_of hW t_t0, ?_⟩
    intro S12 e_S12
    replace h := h S12 e_S12
    replace hW := WT_i hW e_S12
    exact hk _ hW h
def wT_X5_cellOf_16 (K : kS → Int32 → Prop) (k16 : Nat × Int64 × Int32 × Int32 × kS → Prop) (x0 : Nat) (x1 : Int64) (x3 : Int32) (x4 : Int32) (S : kS) : Prop := ∀ z4 : Option Nat, z4 = S.2.1 35 x0 → ∀ q5 : Nat, z4 = some q5 → inR x3 12 ∧ ∀ z6 : Int32, z6 = S.2.2.1 q5 (ix x3) → ((z6 ≤ x4 → ∀ z8 : Option Nat, z8 = S.2.1 35 x0 → ∀ q9 : Nat, z8 = some q9 → inR x3 12 ∧ ∀ z10 : Int32, z10 = S.2.2.1 q9 (ix x3) → ((z10 < 12 → ∀ z12 : Option Nat, z12 = S.2.1 39 x0 → ∀ z13 : Int32, z13 = x3 * 12 → ∀ z14 : Option Nat, z14 = S.2.1 35 x0 → ∀ q15 : Nat, z14 = some q15 → inR x3 12 ∧ ∀ z16 : Int32, z16 = S.2.2.1 q15 (ix x3) → ∀ z17 : Int32, z17 = z13 + z16 → ∀ q18 : Nat, z12 = some q18 → inR z17 144 ∧ ∀ S19 : kS, S19 = cL S q18 (ix z17) x1 → ∀ z20 : Option Nat, z20 = S19.2.1 35 x0 → ∀ q21 : Nat, z20 = some q21 → inR x3 12 ∧ ∀ z22 : Int32, z22 = S19.2.2.1 q21 (ix x3) → ∀ z23 : Int32, z23 = z22 + 1 → inR x3 12 ∧ ∀ S24 : kS, S24 = cA S19 q21 (ix x3) z23 → ∀ z25 : Option Nat, z25 = S24.2.1 35 x0 → ∀ q26 : Nat, z25 = some q26 → inR x3 12 ∧ ∀ z27 : Int32, z27 = S24.2.2.1 q26 (ix x3) → ∀ z28 : Int32, z28 = z27 - 1 → K S24 z28) ∧ (¬ z10 < 12 → K S (-1)))) ∧ (¬ z6 ≤ x4 → ∀ z29 : Option Nat, z29 = S.2.1 39 x0 → ∀ z30 : Int32, z30 = x3 * 12 → ∀ z31 : Int32, z31 = z30 + x4 → ∀ q32 : Nat, z29 = some q32 → inR z31 144 ∧ ∀ z33 : Int64, z33 = S.2.2.2.1 q32 (ix z31) → ∀ z34 : Int32, z34 = lg_cmp z33 x1 → ((¬ z34 = 0 → ∀ z36 : Int32, z36 = x4 + 1 → k16 (x0, x1, x3, z36, S)) ∧ (z34 = 0 → K S x4))))
def lT_X5_cellOf_16 (K : kS → Int32 → Prop) (k16 : Nat × Int64 × Int32 × Int32 × kS → Prop) (u : Nat × Int64 × Int32 × Int32 × kS) : Prop := wT_X5_cellOf_16 K k16 u.1 u.2.1 u.2.2.1 u.2.2.2.1 u.2.2.2.2
def wT_X5_cellOf (t0 : Nat) (a0 : Int64) (S : kS) (K : kS → Int32 → Prop) : Prop := ∀ z1 : Int32, z1 = S.1 18 t0 → ∀ z2 : Int32, z2 = z1 - 1 → ((0 ≤ z2 → (∃ n9, it (lT_X5_cellOf_16 K) n9 (t0, a0, z2, 0, S))) ∧ (¬ 0 ≤ z2 → K S (-1)))
theorem ty_X5_cellOf_16 {d : List (Nat × cK)} {K K' : kS → Int32 → Prop} {k16 k16' : Nat × Int64 × Int32 × Int32 × kS → Prop} (hk : ∀ S1 r1, WT d S1 → K S1 r1 → K' S1 r1) (hk16 : ∀ (x0 : Nat) (x1 : Int64) (x3 : Int32) (x4 : Int32), ((x0, Sum.inl 5) ∈ d) → ∀ S : kS, WT d S → k16 (x0, x1, x3, x4, S) → k16' (x0, x1, x3, x4, S)) {x0 : Nat} {x1 : Int64} {x3 : Int32} {x4 : Int32} (t_x0 : (x0, Sum.inl 5) ∈ d) {S : kS} (hW : WT d S) (h : wT_X5_cellOf_16 K k16 x0 x1 x3 x4 S) : wp_X5_cellOf_16 K' k16' x0 x1 x3 x4 S := by
  unfold wT_X5_cellOf_16 at h
  unfold wp_X5_cellOf_16
  refine ⟨hasO_of hW t_x0, ?_⟩
  intro z4 e_z4
  replace h := h z4 e_z4
  have t_z4 : ∀ b, z4 = some b → (b, Sum.inr (12, 0)) ∈ d := fun b hb => hW.2.1 35 _ b t_x0 (by rw [← e_z4]; exact hb)
  have n_z4 := wt_nn (f := 35) hW (by decide) t_x0 e_z4
  obtain ⟨q5, e_q5⟩ := n_z4
  refine ⟨q5, e_q5, ?_⟩
  replace h := h q5 e_q5
  have t_q5 := t_z4 q5 e_q5
  refine ⟨hasA_of hW t_q5, ?_⟩
  have hin := h.1
  refine ⟨h.1, ?_⟩
  replace h := h.2
  intro z6 e_z6
  replace h := h z6 e_z6
  refine ⟨fun c => ?_, fun c => ?_⟩
  · replace h := h.1 c
    refine ⟨hasO_of hW t_x0, ?_⟩
    intro z8 e_z8
    replace h := h z8 e_z8
    have t_z8 : ∀ b, z8 = some b → (b, Sum.inr (12, 0)) ∈ d := fun b hb => hW.2.1 35 _ b t_x0 (by rw [← e_z8]; exact hb)
    have n_z8 := wt_nn (f := 35) hW (by decide) t_x0 e_z8
    obtain ⟨q9, e_q9⟩ := n_z8
    refine ⟨q9, e_q9, ?_⟩
    replace h := h q9 e_q9
    have t_q9 := t_z8 q9 e_q9
    refine ⟨hasA_of hW t_q9, ?_⟩
    have hin := h.1
    refine ⟨h.1, ?_⟩
    replace h := h.2
    intro z10 e_z10
    replace h := h z10 e_z10
    refine ⟨fun c => ?_, fun c => ?_⟩
    · replace h := h.1 c
      refine ⟨hasO_of hW t_x0, ?_⟩
      intro z12 e_z12
      replace h := h z12 e_z12
      have t_z12 : ∀ b, z12 = some b → (b, Sum.inr (144, 1)) ∈ d := fun b hb => hW.2.1 39 _ b t_x0 (by rw [← e_z12]; exact hb)
      have n_z12 := wt_nn (f := 39) hW (by decide) t_x0 e_z12
      intro z13 e_z13
      replace h := h z13 e_z13
      refine ⟨hasO_of hW t_x0, ?_⟩
      intro z14 e_z14
      replace h := h z14 e_z14
      have t_z14 : ∀ b, z14 = some b → (b, Sum.inr (12, 0)) ∈ d := fun b hb => hW.2.1 35 _ b t_x0 (by rw [← e_z14]; exact hb)
      have n_z14 := wt_nn (f := 35) hW (by decide) t_x0 e_z14
      obtain ⟨q15, e_q15⟩ := n_z14
      refine ⟨q15, e_q15, ?_⟩
      replace h := h q15 e_q15
      have t_q15 := t_z14 q15 e_q15
      refine ⟨hasA_of hW t_q15, ?_⟩
      have hin := h.1
      refine ⟨h.1, ?_⟩
      replace h := h.2
      intro z16 e_z16
      replace h := h z16 e_z16
      intro z17 e_z17
      replace h := h z17 e_z17
      obtain ⟨q18, e_q18⟩ := n_z12
      refine ⟨q18, e_q18, ?_⟩
      replace h := h q18 e_q18
      have t_q18 := t_z12 q18 e_q18
      refine ⟨hasA_of hW t_q18, ?_⟩
      have hin := h.1
      refine ⟨h.1, ?_⟩
      replace h := h.2
      intro S19 e_S19
      replace h := h S19 e_S19
      replace hW := WT_l hW e_S19
      refine ⟨hasO_of hW t_x0, ?_⟩
      intro z20 e_z20
      replace h := h z20 e_z20
      have t_z20 : ∀ b, z20 = some b → (b, Sum.inr (12, 0)) ∈ d := fun b hb => hW.2.1 35 _ b t_x0 (by rw [← e_z20]; exact hb)
      have n_z20 := wt_nn (f := 35) hW (by decide) t_x0 e_z20
      obtain ⟨q21, e_q21⟩ := n_z20
      refine ⟨q21, e_q21, ?_⟩
      replace h := h q21 e_q21
      have t_q21 := t_z20 q21 e_q21
      refine ⟨hasA_of hW t_q21, ?_⟩
      have hin := h.1
      refine ⟨h.1, ?_⟩
      replace h := h.2
      intro z22 e_z22
      replace h := h z22 e_z22
      intro z23 e_z23
      replace h := h z23 e_z23
      refine ⟨hasA_of hW t_q21, ?_⟩
      have hin := h.1
      refine ⟨h.1, ?_⟩
      replace h := h.2
      intro S24 e_S24
      replace h := h S24 e_S24
      replace hW := WT_a hW e_S24
      refine ⟨hasO_of hW t_x0, ?_⟩
      intro z25 e_z25
      replace h := h z25 e_z25
      have t_z25 : ∀ b, z25 = some b → (b, Sum.inr (12, 0)) ∈ d := fun b hb => hW.2.1 35 _ b t_x0 (by rw [← e_z25]; exact hb)
      have n_z25 := wt_nn (f := 35) hW (by decide) t_x0 e_z25
      obtain ⟨q26, e_q26⟩ := n_z25
      refine ⟨q26, e_q26, ?_⟩
      replace h := h q26 e_q26
      have t_q26 := t_z25 q26 e_q26
      refine ⟨hasA_of hW t_q26, ?_⟩
      have hin := h.1
      refine ⟨h.1, ?_⟩
      replace h := h.2
      intro z27 e_z27
      replace h := h z27 e_z27
      intro z28 e_z28
      replace h := h z28 e_z28
      exact hk _ _ hW h
    · replace h := h.2 c
      exact hk _ _ hW h
  · replace h := h.2 c
    refine ⟨hasO_of hW t_x0, ?_⟩
    intro z29 e_z29
    replace h := h z29 e_z29
    have t_z29 : ∀ b, z29 = some b → (b, Sum.inr (144, 1)) ∈ d := fun b hb => hW.2.1 39 _ b t_x0 (by rw [← e_z29]; exact hb)
    have n_z29 := wt_nn (f := 39) hW (by decide) t_x0 e_z29
    intro z30 e_z30
    replace h := h z30 e_z30
    intro z31 e_z31
    replace h := h z31 e_z31
    obtain ⟨q32, e_q32⟩ := n_z29
    refine ⟨q32, e_q32, ?_⟩
    replace h := h q32 e_q32
    have t_q32 := t_z29 q32 e_q32
    refine ⟨hasA_of hW t_q32, ?_⟩
    have hin := h.1
    refine ⟨h.1, ?_⟩
    replace h := h.2
    intro z33 e_z33
    replace h := h z33 e_z33
    intro z34 e_z34
    replace h := h z34 e_z34
    refine ⟨fun c => ?_, fun c => ?_⟩
    · replace h := h.1 c
      intro z36 e_z36
      replace h := h z36 e_z36
      exact hk16 _ _ _ _ t_x0 _ hW h
    · replace h := h.2 c
      exact hk _ _ hW h
theorem tyl_X5_cellOf_16 {d : List (Nat × cK)} {K K' : kS → Int32 → Prop} (hk : ∀ S1 r1, WT d S1 → K S1 r1 → K' S1 r1) : ∀ (n : Nat) (x0 : Nat) (x1 : Int64) (x3 : Int32) (x4 : Int32), ((x0, Sum.inl 5) ∈ d) → ∀ S : kS, WT d S → it (lT_X5_cellOf_16 K) n (x0, x1, x3, x4, S) → it (ls_X5_cellOf_16 K') n (x0, x1, x3, x4, S) := by
  intro n
  induction n with
  | zero => exact fun _ _ _ _ _ _ _ h => h
  | succ n ih => exact fun x0 x1 x3 x4 t_x0 S hW h => ty_X5_cellOf_16 hk ih t_x0 hW h
theorem ty_X5_cellOf {d : List (Nat × cK)} {t0 : Nat} {a0 : Int64} (t_t0 : (t0, Sum.inl 5) ∈ d) {S : kS} {K K' : kS → Int32 → Prop} (hW : WT d S) (hk : ∀ S1 r1, WT d S1 → K S1 r1 → K' S1 r1) (h : wT_X5_cellOf t0 a0 S K) : wp_X5_cellOf t0 a0 S K' := by
  unfold wT_X5_cellOf at h
  unfold wp_X5_cellOf
  refine ⟨hasO_of hW t_t0, ?_⟩
  intro z1 e_z1
  replace h := h z1 e_z1
  intro z2 e_z2
  replace h := h z2 e_z2
  refine ⟨fun c => ?_, fun c => ?_⟩
  · replace h := h.1 c
    obtain ⟨n9, h⟩ := h
    exact ⟨n9, tyl_X5_cellOf_16 hk n9 _ _ _ _ t_t0 _ hW h⟩
  · replace h := h.2 c
    exact hk _ _ hW h
def wT_X3_cellHere (t0 : Nat) (S : kS) (K : kS → Int32 → Prop) : Prop := wT_X3_kind t0 S (fun (S1 : kS) (r1 : Int32) => ((r1 = 3 → ∀ z3 : Option Nat, z3 = S1.2.1 15 t0 → ∀ z4 : Option Nat, z4 = S1.2.1 14 t0 → ∀ q5 : Nat, z4 = some q5 → ∀ z6 : Option Nat, z6 = S1.2.1 66 q5 → ∀ z7 : Int32, z7 = S1.1 6 t0 → ∀ q8 : Nat, z6 = some q8 → inR z7 4002 ∧ ∀ z9 : Int64, z9 = S1.2.2.2.1 q8 (ix z7) → ∃ q10 : Nat, z3 = some q10 ∧ wT_X5_cellOf q10 z9 S1 (fun (S11 : kS) (r11 : Int32) => ((¬ r11 = (-1) → wT_X3_step t0 S11 (fun (S13 : kS) => K S13 r11)) ∧ (r11 = (-1) → wT_X3_wrong t0 5 S11 (fun (S14 : kS) => K S14 0))))) ∧ (¬ r1 = 3 → wT_X3_wrong t0 1 S1 (fun (S15 : kS) => K S15 0))))
theorem ty_X3_cellHere {d : List (Nat × cK)} {t0 : Nat} (t_t0 : (t0, Sum.inl 3) ∈ d) {S : kS} {K K' : kS → Int32 → Prop} (hW : WT d S) (hk : ∀ S1 r1, WT d S1 → K S1 r1 → K' S1 r1) (h : wT_X3_cellHere t0 S K) : wp_X3_cellHere t0 S K' := by
  unfold wT_X3_cellHere at h
  unfold wp_X3_cellHere
  refine ⟨hasO_of hW t_t0, ?_⟩
  refine ty_X3_kind t_t0 hW (fun S1 r1 hW h => ?_) h
  refine ⟨fun c => ?_, fun c => ?_⟩
  · replace h := h.1 c
    refine ⟨hasO_of hW t_t0, ?_⟩
    intro z3 e_z3
    replace h := h z3 e_z3
    have t_z3 : ∀ b, z3 = some b → (b, Sum.inl 5) ∈ d := fun b hb => hW.2.1 15 _ b t_t0 (by rw [← e_z3]; exact hb)
    refine ⟨hasO_of hW t_t0, ?_⟩
    intro z4 e_z4
    replace h := h z4 e_z4
    have t_z4 : ∀ b, z4 = some b → (b, Sum.inl 10) ∈ d := fun b hb => hW.2.1 14 _ b t_t0 (by rw [← e_z4]; exact hb)
    have n_z4 := wt_nn (f := 14) hW (by decide) t_t0 e_z4
    obtain ⟨q5, e_q5⟩ := n_z4
    refine ⟨q5, e_q5, ?_⟩
    replace h := h q5 e_q5
    have t_q5 := t_z4 q5 e_q5
    refine ⟨hasO_of hW t_q5, ?_⟩
    intro z6 e_z6
    replace h := h z6 e_z6
    have t_z6 : ∀ b, z6 = some b → (b, Sum.inr (4002, 1)) ∈ d := fun b hb => hW.2.1 66 _ b t_q5 (by rw [← e_z6]; exact hb)
    have n_z6 := wt_nn (f := 66) hW (by decide) t_q5 e_z6
    refine ⟨hasO_of hW t_t0, ?_⟩
    intro z7 e_z7
    replace h := h z7 e_z7
    obtain ⟨q8, e_q8⟩ := n_z6
    refine ⟨q8, e_q8, ?_⟩
    replace h := h q8 e_q8
    have t_q8 := t_z6 q8 e_q8
    refine ⟨hasA_of hW t_q8, ?_⟩
    have hin := h.1
    refine ⟨h.1, ?_⟩
    replace h := h.2
    intro z9 e_z9
    replace h := h z9 e_z9
    obtain ⟨q10, e_q10, h9⟩ := h
    replace h := h9
    clear h9
    refine ⟨q10, e_q10, ?_⟩
    have t_q10 := t_z3 q10 e_q10
    refine ⟨hasO_of hW t_q10, ?_⟩
    refine ty_X5_cellOf t_q10 hW (fun S11 r11 hW h => ?_) h
    refine ⟨fun c => ?_, fun c => ?_⟩
    · replace h := h.1 c
      refine ⟨hasO_of hW t_t0, ?_⟩
      refine ty_X3_step t_t0 hW (fun S13 hW h => ?_) h
      exact hk _ _ hW h
    · replace h := h.2 c
      refine ⟨hasO_of hW t_t0, ?_⟩
      refine ty_X3_wrong t_t0 hW (fun S14 hW h => ?_) h
      exact hk _ _ hW h
  · replace h := h.2 c
    refine ⟨hasO_of hW t_t0, ?_⟩
    refine ty_X3_wrong t_t0 hW (fun S15 hW h => ?_) h
    exact hk _ _ hW h
def wT_X5_emit (t0 : Nat) (a0 : Int32) (a1 : Int32) (a2 : Int32) (S : kS) (K : kS → Int32 → Prop) : Prop := ∀ z1 : Int32, z1 = S.1 17 t0 → ((z1 < 8064 → ∀ z3 : Option Nat, z3 = S.2.1 28 t0 → ∀ z4 : Int32, z4 = S.1 17 t0 → ∀ q5 : Nat, z3 = some q5 → inR z4 8064 ∧ ∀ S6 : kS, S6 = cA S q5 (ix z4) a0 → ∀ z7 : Option Nat, z7 = S6.2.1 29 t0 → ∀ z8 : Int32, z8 = S6.1 17 t0 → ∀ q9 : Nat, z7 = some q9 → inR z8 8064 ∧ ∀ S10 : kS, S10 = cA S6 q9 (ix z8) a1 → ∀ z11 : Option Nat, z11 = S10.2.1 30 t0 → ∀ z12 : Int32, z12 = S10.1 17 t0 → ∀ q13 : Nat, z11 = some q13 → inR z12 8064 ∧ ∀ S14 : kS, S14 = cA S10 q13 (ix z12) a2 → ∀ z15 : Int32, z15 = S14.1 17 t0 → ∀ z16 : Int32, z16 = z15 + 1 → ∀ S17 : kS, S17 = cI S14 17 t0 z16 → ∀ z18 : Int32, z18 = S17.1 17 t0 → ∀ z19 : Int32, z19 = z18 - 1 → K S17 z19) ∧ (¬ z1 < 8064 → K S 8063))
theorem ty_X5_emit {d : List (Nat × cK)} {t0 : Nat} {a0 : Int32} {a1 : Int32} {a2 : Int32} (t_t0 : (t0, Sum.inl 5) ∈ d) {S : kS} {K K' : kS → Int32 → Prop} (hW : WT d S) (hk : ∀ S1 r1, WT d S1 → K S1 r1 → K' S1 r1) (h : wT_X5_emit t0 a0 a1 a2 S K) : wp_X5_emit t0 a0 a1 a2 S K' := by
  unfold wT_X5_emit at h
  unfold wp_X5_emit
  refine ⟨hasO_of hW t_t0, ?_⟩
  intro z1 e_z1
  replace h := h z1 e_z1
  refine ⟨fun c => ?_, fun c => ?_⟩
  · replace h := h.1 c
    refine ⟨hasO_of hW t_t0, ?_⟩
    intro z3 e_z3
    replace h := h z3 e_z3
    have t_z3 : ∀ b, z3 = some b → (b, Sum.inr (8064, 0)) ∈ d := fun b hb => hW.2.1 28 _ b t_t0 (by rw [← e_z3]; exact hb)
    have n_z3 := wt_nn (f := 28) hW (by decide) t_t0 e_z3
    refine ⟨hasO_of hW t_t0, ?_⟩
    intro z4 e_z4
    replace h := h z4 e_z4
    obtain ⟨q5, e_q5⟩ := n_z3
    refine ⟨q5, e_q5, ?_⟩
    replace h := h q5 e_q5
    have t_q5 := t_z3 q5 e_q5
    refine ⟨hasA_of hW t_q5, ?_⟩
    have hin := h.1
    refine ⟨h.1, ?_⟩
    replace h := h.2
    intro S6 e_S6
    replace h := h S6 e_S6
    replace hW := WT_a hW e_S6
    refine ⟨hasO_of hW t_t0, ?_⟩
    intro z7 e_z7
    replace h := h z7 e_z7
    have t_z7 : ∀ b, z7 = some b → (b, Sum.inr (8064, 0)) ∈ d := fun b hb => hW.2.1 29 _ b t_t0 (by rw [← e_z7]; exact hb)
    have n_z7 := wt_nn (f := 29) hW (by decide) t_t0 e_z7
    refine ⟨hasO_of hW t_t0, ?_⟩
    intro z8 e_z8
    replace h := h z8 e_z8
    obtain ⟨q9, e_q9⟩ := n_z7
    refine ⟨q9, e_q9, ?_⟩
    replace h := h q9 e_q9
    have t_q9 := t_z7 q9 e_q9
    refine ⟨hasA_of hW t_q9, ?_⟩
    have hin := h.1
    refine ⟨h.1, ?_⟩
    replace h := h.2
    intro S10 e_S10
    replace h := h S10 e_S10
    replace hW := WT_a hW e_S10
    refine ⟨hasO_of hW t_t0, ?_⟩
    intro z11 e_z11
    replace h := h z11 e_z11
    have t_z11 : ∀ b, z11 = some b → (b, Sum.inr (8064, 0)) ∈ d := fun b hb => hW.2.1 30 _ b t_t0 (by rw [← e_z11]; exact hb)
    have n_z11 := wt_nn (f := 30) hW (by decide) t_t0 e_z11
    refine ⟨hasO_of hW t_t0, ?_⟩
    intro z12 e_z12
    replace h := h z12 e_z12
    obtain ⟨q13, e_q13⟩ := n_z11
    refine ⟨q13, e_q13, ?_⟩
    replace h := h q13 e_q13
    have t_q13 := t_z11 q13 e_q13
    refine ⟨hasA_of hW t_q13, ?_⟩
    have hin := h.1
    refine ⟨h.1, ?_⟩
    replace h := h.2
    intro S14 e_S14
    replace h := h S14 e_S14
    replace hW := WT_a hW e_S14
    refine ⟨hasO_of hW t_t0, ?_⟩
    intro z15 e_z15
    replace h := h z15 e_z15
    intro z16 e_z16
    replace h := h z16 e_z16
    refine ⟨hasO_of hW t_t0, ?_⟩
    intro S17 e_S17
    replace h := h S17 e_S17
    replace hW := WT_i hW e_S17
    refine ⟨hasO_of hW t_t0, ?_⟩
    intro z18 e_z18
    replace h := h z18 e_z18
    intro z19 e_z19
    replace h := h z19 e_z19
    exact hk _ _ hW h
  · replace h := h.2 c
    exact hk _ _ hW h
def wT_X3_emit (t0 : Nat) (a0 : Int32) (a1 : Int32) (S : kS) (K : kS → Int32 → Prop) : Prop := ∀ z1 : Option Nat, z1 = S.2.1 15 t0 → ∀ z2 : Int32, z2 = S.1 8 t0 → ∃ q3 : Nat, z1 = some q3 ∧ wT_X5_emit q3 a0 a1 z2 S (fun (S4 : kS) (r4 : Int32) => K S4 r4)
theorem ty_X3_emit {d : List (Nat × cK)} {t0 : Nat} {a0 : Int32} {a1 : Int32} (t_t0 : (t0, Sum.inl 3) ∈ d) {S : kS} {K K' : kS → Int32 → Prop} (hW : WT d S) (hk : ∀ S1 r1, WT d S1 → K S1 r1 → K' S1 r1) (h : wT_X3_emit t0 a0 a1 S K) : wp_X3_emit t0 a0 a1 S K' := by
  unfold wT_X3_emit at h
  unfold wp_X3_emit
  refine ⟨hasO_of hW t_t0, ?_⟩
  intro z1 e_z1
  replace h := h z1 e_z1
  have t_z1 : ∀ b, z1 = some b → (b, Sum.inl 5) ∈ d := fun b hb => hW.2.1 15 _ b t_t0 (by rw [← e_z1]; exact hb)
  refine ⟨hasO_of hW t_t0, ?_⟩
  intro z2 e_z2
  replace h := h z2 e_z2
  obtain ⟨q3, e_q3, h9⟩ := h
  replace h := h9
  clear h9
  refine ⟨q3, e_q3, ?_⟩
  have t_q3 := t_z1 q3 e_q3
  refine ⟨hasO_of hW t_q3, ?_⟩
  refine ty_X5_emit t_q3 hW (fun S4 r4 hW h => ?_) h
  exact hk _ _ hW h
def wT_X3_take (t0 : Nat) (a0 : Int32) (S : kS) (K : kS → Int32 → Prop) : Prop := ∀ z1 : Option Nat, z1 = S.2.1 14 t0 → ∀ q2 : Nat, z1 = some q2 → ∀ z3 : Option Nat, z3 = S.2.1 64 q2 → ∀ z4 : Int32, z4 = S.1 6 t0 → ∀ q5 : Nat, z3 = some q5 → inR z4 4002 ∧ ∀ z6 : Int32, z6 = S.2.2.1 q5 (ix z4) → ((¬ z6 = a0 → K S 0) ∧ (z6 = a0 → ∀ z8 : Int32, z8 = S.1 6 t0 → ∀ z9 : Int32, z9 = z8 + 1 → ∀ z10 : Option Nat, z10 = S.2.1 14 t0 → ∀ q11 : Nat, z10 = some q11 → ∀ z12 : Int32, z12 = S.1 40 q11 → ((z9 < z12 → ∀ z14 : Int32, z14 = S.1 6 t0 → ∀ z15 : Int32, z15 = z14 + 1 → ∀ S16 : kS, S16 = cI S 6 t0 z15 → K S16 1) ∧ (¬ z9 < z12 → K S 0))))
theorem ty_X3_take {d : List (Nat × cK)} {t0 : Nat} {a0 : Int32} (t_t0 : (t0, Sum.inl 3) ∈ d) {S : kS} {K K' : kS → Int32 → Prop} (hW : WT d S) (hk : ∀ S1 r1, WT d S1 → K S1 r1 → K' S1 r1) (h : wT_X3_take t0 a0 S K) : wp_X3_take t0 a0 S K' := by
  unfold wT_X3_take at h
  unfold wp_X3_take
  refine ⟨hasO_of hW t_t0, ?_⟩
  intro z1 e_z1
  replace h := h z1 e_z1
  have t_z1 : ∀ b, z1 = some b → (b, Sum.inl 10) ∈ d := fun b hb => hW.2.1 14 _ b t_t0 (by rw [← e_z1]; exact hb)
  have n_z1 := wt_nn (f := 14) hW (by decide) t_t0 e_z1
  obtain ⟨q2, e_q2⟩ := n_z1
  refine ⟨q2, e_q2, ?_⟩
  replace h := h q2 e_q2
  have t_q2 := t_z1 q2 e_q2
  refine ⟨hasO_of hW t_q2, ?_⟩
  intro z3 e_z3
  replace h := h z3 e_z3
  have t_z3 : ∀ b, z3 = some b → (b, Sum.inr (4002, 0)) ∈ d := fun b hb => hW.2.1 64 _ b t_q2 (by rw [← e_z3]; exact hb)
  have n_z3 := wt_nn (f := 64) hW (by decide) t_q2 e_z3
  refine ⟨hasO_of hW t_t0, ?_⟩
  intro z4 e_z4
  replace h := h z4 e_z4
  obtain ⟨q5, e_q5⟩ := n_z3
  refine ⟨q5, e_q5, ?_⟩
  replace h := h q5 e_q5
  have t_q5 := t_z3 q5 e_q5
  refine ⟨hasA_of hW t_q5, ?_⟩
  have hin := h.1
  refine ⟨h.1, ?_⟩
  replace h := h.2
  intro z6 e_z6
  replace h := h z6 e_z6
  refine ⟨fun c => ?_, fun c => ?_⟩
  · replace h := h.1 c
    exact hk _ _ hW h
  · replace h := h.2 c
    refine ⟨hasO_of hW t_t0, ?_⟩
    intro z8 e_z8
    replace h := h z8 e_z8
    intro z9 e_z9
    replace h := h z9 e_z9
    refine ⟨hasO_of hW t_t0, ?_⟩
    intro z10 e_z10
    replace h := h z10 e_z10
    have t_z10 : ∀ b, z10 = some b → (b, Sum.inl 10) ∈ d := fun b hb => hW.2.1 14 _ b t_t0 (by rw [← e_z10]; exact hb)
    have n_z10 := wt_nn (f := 14) hW (by decide) t_t0 e_z10
    obtain ⟨q11, e_q11⟩ := n_z10
    refine ⟨q11, e_q11, ?_⟩
    replace h := h q11 e_q11
    have t_q11 := t_z10 q11 e_q11
    refine ⟨hasO_of hW t_q11, ?_⟩
    intro z12 e_z12
    replace h := h z12 e_z12
    refine ⟨fun c => ?_, fun c => ?_⟩
    · replace h := h.1 c
      refine ⟨hasO_of hW t_t0, ?_⟩
      intro z14 e_z14
      replace h := h z14 e_z14
      intro z15 e_z15
      replace h := h z15 e_z15
      refine ⟨hasO_of hW t_t0, ?_⟩
      intro S16 e_S16
      replace h := h S16 e_S16
      replace hW := WT_i hW e_S16
      exact hk _ _ hW h
    · replace h := h.2 c
      exact hk _ _ hW h
def wT_X3_need (t0 : Nat) (a0 : Int32) (S : kS) (K : kS → Prop) : Prop := wT_X3_take t0 a0 S (fun (S1 : kS) (r1 : Int32) => ((¬ r1 = 0 → K S1) ∧ (r1 = 0 → wT_X3_wrong t0 1 S1 (fun (S3 : kS) => K S3))))
theorem ty_X3_need {d : List (Nat × cK)} {t0 : Nat} {a0 : Int32} (t_t0 : (t0, Sum.inl 3) ∈ d) {S : kS} {K K' : kS → Prop} (hW : WT d S) (hk : ∀ S1, WT d S1 → K S1 → K' S1) (h : wT_X3_need t0 a0 S K) : wp_X3_need t0 a0 S K' := by
  unfold wT_X3_need at h
  unfold wp_X3_need
  refine ⟨hasO_of hW t_t0, ?_⟩
  refine ty_X3_take t_t0 hW (fun S1 r1 hW h => ?_) h
  refine ⟨fun c => ?_, fun c => ?_⟩
  · replace h := h.1 c
    exact hk _ hW h
  · replace h := h.2 c
    refine ⟨hasO_of hW t_t0, ?_⟩
    refine ty_X3_wrong t_t0 hW (fun S3 hW h => ?_) h
    exact hk _ hW h
