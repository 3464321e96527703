
def KF (zi zr fa fl fq : List Nat) (S S1 : kS) : Prop := (∀ f, f ∉ zi → S1.1 f = S.1 f) ∧ (∀ f, f ∉ zr → S1.2.1 f = S.2.1 f) ∧ (∀ b, (∀ f, f ∈ fa → ∀ o, S.2.1 f o ≠ some b) → S1.2.2.1 b = S.2.2.1 b) ∧ (∀ b, (∀ f, f ∈ fl → ∀ o, S.2.1 f o ≠ some b) → S1.2.2.2.1 b = S.2.2.2.1 b) ∧ (∀ b, (∀ f, f ∈ fq → ∀ o, S.2.1 f o ≠ some b) → S1.2.2.2.2.1 b = S.2.2.2.2.1 b) ∧ S1.2.2.2.2.2 = S.2.2.2.2.2
def dis9 (a b : List Nat) : Bool := a.all (fun k => !b.contains k)
theorem dis9_m {a b : List Nat} (h : dis9 a b = true) {k : Nat} (hk : k ∈ a) : k ∉ b := fun hm => by
  have := List.all_eq_true.mp h k hk
  rw [List.contains_iff_mem.mpr hm] at this
  cases this
theorem sub9_i {a b : List Nat} (h : sub9 a b = true) {k : Nat} (hk : k ∈ a) : k ∈ b := List.contains_iff_mem.mp (List.all_eq_true.mp h k hk)
section KFs
variable {zi zr fa fl fq : List Nat} {S0 S S1 : kS}
theorem KF_rf : KF zi zr fa fl fq S S := ⟨fun _ _ => rfl, fun _ _ => rfl, fun _ _ => rfl, fun _ _ => rfl, fun _ _ => rfl, rfl⟩
theorem KF_i {f a : Nat} {v : Int32} (hF : KF zi zr fa fl fq S0 S) (e : S1 = cI S f a v) (hf : f ∈ zi) : KF zi zr fa fl fq S0 S1 := by
  subst e
  refine ⟨fun g hg => ?_, hF.2⟩
  rw [← hF.1 g hg]
  funext b
  show (if b = a then upd (fun h => S.1 h a) f v g else S.1 g b) = S.1 g b
  by_cases hb : b = a
  · rw [if_pos hb, hb]; unfold upd; rw [if_neg (fun h : g = f => hg (by rw [h]; exact hf))]
  · rw [if_neg hb]
theorem KF_r {f a : Nat} {v : Option Nat} (hF : KF zi zr fa fl fq S0 S) (e : S1 = cR S f a v) (hf : f ∈ zr) : KF zi zr fa fl fq S0 S1 := by
  subst e
  refine ⟨hF.1, fun g hg => ?_, hF.2.2⟩
  rw [← hF.2.1 g hg]
  funext b
  show (if b = a then va_up (fun h => S.2.1 h a) f v g else S.2.1 g b) = S.2.1 g b
  by_cases hb : b = a
  · rw [if_pos hb, hb]; unfold va_up; rw [if_neg (fun h : g = f => hg (by rw [h]; exact hf))]
  · rw [if_neg hb]
theorem KF_a {q i fid : Nat} {v : Int32} (hF : KF zi zr fa fl fq S0 S) (e : S1 = cA S q i v) (hf : fid ∈ fa) (hq : ∃ o, S0.2.1 fid o = some q) : KF zi zr fa fl fq S0 S1 := by
  subst e
  refine ⟨hF.1, hF.2.1, fun b hb => ?_, hF.2.2.2⟩
  obtain ⟨o, ho⟩ := hq
  show va_up S.2.2.1 q _ b = _
  rw [va_up_ne _ _ (fun h : b = q => hb fid hf o (by rw [h]; exact ho))]
  exact hF.2.2.1 b hb
theorem KF_l {q i fid : Nat} {v : Int64} (hF : KF zi zr fa fl fq S0 S) (e : S1 = cL S q i v) (hf : fid ∈ fl) (hq : ∃ o, S0.2.1 fid o = some q) : KF zi zr fa fl fq S0 S1 := by
  subst e
  refine ⟨hF.1, hF.2.1, hF.2.2.1, fun b hb => ?_, hF.2.2.2.2⟩
  obtain ⟨o, ho⟩ := hq
  show va_up S.2.2.2.1 q _ b = _
  rw [va_up_ne _ _ (fun h : b = q => hb fid hf o (by rw [h]; exact ho))]
  exact hF.2.2.2.1 b hb
theorem KF_t {zi' zr' fa' fl' fq' : List Nat} (hF : KF zi zr fa fl fq S0 S) (hG : KF zi' zr' fa' fl' fq' S S1) (h1 : sub9 zi' zi = true) (h2 : sub9 zr' zr = true) (h3 : sub9 fa' fa = true) (h4 : sub9 fl' fl = true) (h5 : sub9 fq' fq = true) (h6 : dis9 fa zr = true) (h7 : dis9 fl zr = true) (h8 : dis9 fq zr = true) : KF zi zr fa fl fq S0 S1 :=
  ⟨fun k hk => (hG.1 k (sub9_m h1 hk)).trans (hF.1 k hk), fun k hk => (hG.2.1 k (sub9_m h2 hk)).trans (hF.2.1 k hk),
   fun b hb => (hG.2.2.1 b (fun f hf o => by rw [hF.2.1 f (dis9_m h6 (sub9_i h3 hf))]; exact hb f (sub9_i h3 hf) o)).trans (hF.2.2.1 b hb),
   fun b hb => (hG.2.2.2.1 b (fun f hf o => by rw [hF.2.1 f (dis9_m h7 (sub9_i h4 hf))]; exact hb f (sub9_i h4 hf) o)).trans (hF.2.2.2.1 b hb),
   fun b hb => (hG.2.2.2.2.1 b (fun f hf o => by rw [hF.2.1 f (dis9_m h8 (sub9_i h5 hf))]; exact hb f (sub9_i h5 hf) o)).trans (hF.2.2.2.2.1 b hb), hG.2.2.2.2.2.trans hF.2.2.2.2.2⟩
end KFs
def KmV (zi zr fa fl fq : List Nat) (r : kS → (kS → Prop) → Prop) : Prop := ∀ (S : kS) (K K' : kS → Prop), (∀ S1, KF zi zr fa fl fq S S1 → K S1 → K' S1) → r S K → r S K'
def KmI (zi zr fa fl fq : List Nat) (r : kS → (kS → Int32 → Prop) → Prop) : Prop := ∀ (S : kS) (K K' : kS → Int32 → Prop), (∀ S1 r1, KF zi zr fa fl fq S S1 → K S1 r1 → K' S1 r1) → r S K → r S K'
def KmL (zi zr fa fl fq : List Nat) (r : kS → (kS → Int64 → Prop) → Prop) : Prop := ∀ (S : kS) (K K' : kS → Int64 → Prop), (∀ S1 r1, KF zi zr fa fl fq S S1 → K S1 r1 → K' S1 r1) → r S K → r S K'
def KmO (zi zr fa fl fq : List Nat) (r : kS → (kS → Option Nat → Prop) → Prop) : Prop := ∀ (S : kS) (K K' : kS → Option Nat → Prop), (∀ S1 r1, KF zi zr fa fl fq S S1 → K S1 r1 → K' S1 r1) → r S K → r S K'
theorem km_X0_clear (t0 : Nat) : KmV [0] [] [] [] [] (wp_X0_clear t0) := by
  intro S0 K K' hk h
  have hF : KF [0] [] [] [] [] S0 S0 := KF_rf
  unfold wp_X0_clear at h ⊢
  refine ⟨h.1, ?_⟩
  replace h := h.2
  intro S1 eS1
  replace h := h S1 eS1
  replace hF := KF_i hF eS1 (by decide)
  exact hk _ hF h
theorem km_X0_note_30 {K K' : kS → Prop} {S0 : kS} (hk : ∀ S1, KF [0] [] [0, 1] [] [] S0 S1 → K S1 → K' S1) {x0 : Nat} {S : kS} (hF : KF [0] [] [0, 1] [] [] S0 S) (h : wp_X0_note_30 K x0 S) : wp_X0_note_30 K' x0 S := by
  unfold wp_X0_note_30 at h ⊢
  refine ⟨h.1, ?_⟩
  replace h := h.2
  intro z11 ez11
  replace h := h z11 ez11
  intro z12 ez12
  replace h := h z12 ez12
  refine ⟨h.1, ?_⟩
  replace h := h.2
  intro S13 eS13
  replace h := h S13 eS13
  replace hF := KF_i hF eS13 (by decide)
  exact hk _ hF h
theorem km_X0_note (t0 : Nat) (a0 : Int32) (a1 : Int32) : KmV [0] [] [0, 1] [] [] (wp_X0_note t0 a0 a1) := by
  intro S0 K K' hk h
  have hF : KF [0] [] [0, 1] [] [] S0 S0 := KF_rf
  unfold wp_X0_note at h ⊢
  refine ⟨h.1, ?_⟩
  replace h := h.2
  intro z1 ez1
  replace h := h z1 ez1
  refine ⟨fun c => ?_, fun c => ?_⟩
  · replace h := h.1 c
    exact km_X0_note_30 hk hF h
  · replace h := h.2 c
    refine ⟨h.1, ?_⟩
    replace h := h.2
    intro z3 ez3
    replace h := h z3 ez3
    have pz3 : ∃ o, S0.2.1 0 o = z3 := ⟨_, by rw [ez3, hF.2.1 0 (by decide)]⟩
    refine ⟨h.1, ?_⟩
    replace h := h.2
    intro z4 ez4
    replace h := h z4 ez4
    obtain ⟨q5, eq5, h9⟩ := h
    replace h := h9
    clear h9
    refine ⟨q5, eq5, ?_⟩
    refine ⟨h.1, ?_⟩
    replace h := h.2
    refine ⟨h.1, ?_⟩
    replace h := h.2
    intro S6 eS6
    replace h := h S6 eS6
    replace hF := KF_a (fid := 0) hF eS6 (by decide) (by rw [← eq5]; exact pz3)
    refine ⟨h.1, ?_⟩
    replace h := h.2
    intro z7 ez7
    replace h := h z7 ez7
    have pz7 : ∃ o, S0.2.1 1 o = z7 := ⟨_, by rw [ez7, hF.2.1 1 (by decide)]⟩
    refine ⟨h.1, ?_⟩
    replace h := h.2
    intro z8 ez8
    replace h := h z8 ez8
    obtain ⟨q9, eq9, h9⟩ := h
    replace h := h9
    clear h9
    refine ⟨q9, eq9, ?_⟩
    refine ⟨h.1, ?_⟩
    replace h := h.2
    refine ⟨h.1, ?_⟩
    replace h := h.2
    intro S10 eS10
    replace h := h S10 eS10
    replace hF := KF_a (fid := 1) hF eS10 (by decide) (by rw [← eq9]; exact pz7)
    exact km_X0_note_30 hk hF h
theorem km_X0_tell (t0 : Nat) (a0 : Int32) (a1 : Int32) : KmI [] [] [] [] [] (wp_X0_tell t0 a0 a1) := by
  intro S0 K K' hk h
  have hF : KF [] [] [] [] [] S0 S0 := KF_rf
  unfold wp_X0_tell at h ⊢
  refine ⟨fun c => ?_, fun c => ?_⟩
  · replace h := h.1 c
    exact hk _ _ hF h
  · replace h := h.2 c
    refine ⟨h.1, ?_⟩
    replace h := h.2
    intro z2 ez2
    replace h := h z2 ez2
    refine ⟨fun c => ?_, fun c => ?_⟩
    · replace h := h.1 c
      exact hk _ _ hF h
    · replace h := h.2 c
      refine ⟨fun c => ?_, fun c => ?_⟩
      · replace h := h.1 c
        exact hk _ _ hF h
      · replace h := h.2 c
        refine ⟨fun c => ?_, fun c => ?_⟩
        · replace h := h.1 c
          exact hk _ _ hF h
        · replace h := h.2 c
          refine ⟨fun c => ?_, fun c => ?_⟩
          · replace h := h.1 c
            refine ⟨fun c => ?_, fun c => ?_⟩
            · replace h := h.1 c
              refine ⟨h.1, ?_⟩
              replace h := h.2
              intro z8 ez8
              replace h := h z8 ez8
              obtain ⟨q9, eq9, h9⟩ := h
              replace h := h9
              clear h9
              refine ⟨q9, eq9, ?_⟩
              refine ⟨h.1, ?_⟩
              replace h := h.2
              refine ⟨h.1, ?_⟩
              replace h := h.2
              intro z10 ez10
              replace h := h z10 ez10
              exact hk _ _ hF h
            · replace h := h.2 c
              refine ⟨h.1, ?_⟩
              replace h := h.2
              intro z11 ez11
              replace h := h z11 ez11
              obtain ⟨q12, eq12, h9⟩ := h
              replace h := h9
              clear h9
              refine ⟨q12, eq12, ?_⟩
              refine ⟨h.1, ?_⟩
              replace h := h.2
              refine ⟨h.1, ?_⟩
              replace h := h.2
              intro z13 ez13
              replace h := h z13 ez13
              exact hk _ _ hF h
          · replace h := h.2 c
            exact hk _ _ hF h
theorem km_X10_add_70 {K K' : kS → Prop} {k3 k3' : Nat × Int64 × Int32 × kS → Prop} {S0 : kS} (hk : ∀ S1, KF [41] [] [67] [] [] S0 S1 → K S1 → K' S1) (hk3 : ∀ u : Nat × Int64 × Int32 × kS, KF [41] [] [67] [] [] S0 u.2.2.2 → k3 u → k3' u) {x0 : Nat} {x1 : Int64} {x3 : Int32} {S : kS} (hF : KF [41] [] [67] [] [] S0 S) (h : wp_X10_add_70 K k3 x0 x1 x3 S) : wp_X10_add_70 K' k3' x0 x1 x3 S := by
  unfold wp_X10_add_70 at h ⊢
  intro z8 ez8
  replace h := h z8 ez8
  exact hk3 _ hF h
theorem km_X10_add_38 {K K' : kS → Prop} {k3 k3' : Nat × Int64 × Int32 × kS → Prop} {S0 : kS} (hk : ∀ S1, KF [41] [] [67] [] [] S0 S1 → K S1 → K' S1) (hk3 : ∀ u : Nat × Int64 × Int32 × kS, KF [41] [] [67] [] [] S0 u.2.2.2 → k3 u → k3' u) {x0 : Nat} {x1 : Int64} {x3 : Int32} {x4 : Int32} {S : kS} (hF : KF [41] [] [67] [] [] S0 S) (h : wp_X10_add_38 K k3 x0 x1 x3 x4 S) : wp_X10_add_38 K' k3' x0 x1 x3 x4 S := by
  unfold wp_X10_add_38 at h ⊢
  refine ⟨h.1, ?_⟩
  replace h := h.2
  intro z9 ez9
  replace h := h z9 ez9
  refine ⟨fun c => ?_, fun c => ?_⟩
  · replace h := h.1 c
    exact km_X10_add_70 hk hk3 hF h
  · replace h := h.2 c
    refine ⟨h.1, ?_⟩
    replace h := h.2
    intro z11 ez11
    replace h := h z11 ez11
    have pz11 : ∃ o, S0.2.1 67 o = z11 := ⟨_, by rw [ez11, hF.2.1 67 (by decide)]⟩
    refine ⟨h.1, ?_⟩
    replace h := h.2
    intro z12 ez12
    replace h := h z12 ez12
    intro z13 ez13
    replace h := h z13 ez13
    obtain ⟨q14, eq14, h9⟩ := h
    replace h := h9
    clear h9
    refine ⟨q14, eq14, ?_⟩
    refine ⟨h.1, ?_⟩
    replace h := h.2
    refine ⟨h.1, ?_⟩
    replace h := h.2
    intro S15 eS15
    replace h := h S15 eS15
    replace hF := KF_a (fid := 67) hF eS15 (by decide) (by rw [← eq14]; exact pz11)
    refine ⟨h.1, ?_⟩
    replace h := h.2
    intro z16 ez16
    replace h := h z16 ez16
    intro z17 ez17
    replace h := h z17 ez17
    refine ⟨h.1, ?_⟩
    replace h := h.2
    intro S18 eS18
    replace h := h S18 eS18
    replace hF := KF_i hF eS18 (by decide)
    exact km_X10_add_70 hk hk3 hF h
theorem km_X10_add_3 {K K' : kS → Prop} {k3 k3' : Nat × Int64 × Int32 × kS → Prop} {S0 : kS} (hk : ∀ S1, KF [41] [] [67] [] [] S0 S1 → K S1 → K' S1) (hk3 : ∀ u : Nat × Int64 × Int32 × kS, KF [41] [] [67] [] [] S0 u.2.2.2 → k3 u → k3' u) {x0 : Nat} {x1 : Int64} {x3 : Int32} {S : kS} (hF : KF [41] [] [67] [] [] S0 S) (h : wp_X10_add_3 K k3 x0 x1 x3 S) : wp_X10_add_3 K' k3' x0 x1 x3 S := by
  unfold wp_X10_add_3 at h ⊢
  refine ⟨fun c => ?_, fun c => ?_⟩
  · replace h := h.1 c
    exact hk _ hF h
  · replace h := h.2 c
    intro z2 ez2
    replace h := h z2 ez2
    intro z3 ez3
    replace h := h z3 ez3
    intro z4 ez4
    replace h := h z4 ez4
    refine ⟨fun c => ?_, fun c => ?_⟩
    · replace h := h.1 c
      exact km_X10_add_38 hk hk3 hF h
    · replace h := h.2 c
      refine ⟨fun c => ?_, fun c => ?_⟩
      · replace h := h.1 c
        exact km_X10_add_70 hk hk3 hF h
      · replace h := h.2 c
        refine ⟨fun c => ?_, fun c => ?_⟩
        · replace h := h.1 c
          exact km_X10_add_70 hk hk3 hF h
        · replace h := h.2 c
          exact km_X10_add_38 hk hk3 hF h
theorem kml_X10_add_3 {K K' : kS → Prop} {S0 : kS} (hk : ∀ S1, KF [41] [] [67] [] [] S0 S1 → K S1 → K' S1) : ∀ (n : Nat) (u : Nat × Int64 × Int32 × kS), KF [41] [] [67] [] [] S0 u.2.2.2 → it (ls_X10_add_3 K) n u → it (ls_X10_add_3 K') n u := by
  intro n
  induction n with
  | zero => exact fun _ _ h => h
  | succ n ih => exact fun u hF h => km_X10_add_3 hk ih hF h
theorem km_X10_add (t0 : Nat) (a0 : Int64) : KmV [41] [] [67] [] [] (wp_X10_add t0 a0) := by
  intro S0 K K' hk h
  have hF : KF [41] [] [67] [] [] S0 S0 := KF_rf
  unfold wp_X10_add at h ⊢
  obtain ⟨n9, h⟩ := h
  exact ⟨n9, kml_X10_add_3 hk n9 _ hF h⟩
theorem km_X10_isDigit (a0 : Int32) : KmI [] [] [] [] [] (wp_X10_isDigit a0) := by
  intro S0 K K' hk h
  have hF : KF [] [] [] [] [] S0 S0 := KF_rf
  unfold wp_X10_isDigit at h ⊢
  refine ⟨fun c => ?_, fun c => ?_⟩
  · replace h := h.1 c
    exact hk _ _ hF h
  · replace h := h.2 c
    refine ⟨fun c => ?_, fun c => ?_⟩
    · replace h := h.1 c
      exact hk _ _ hF h
    · replace h := h.2 c
      exact hk _ _ hF h
theorem km_X10_isLetter (a0 : Int32) : KmI [] [] [] [] [] (wp_X10_isLetter a0) := by
  intro S0 K K' hk h
  have hF : KF [] [] [] [] [] S0 S0 := KF_rf
  unfold wp_X10_isLetter at h ⊢
  refine ⟨fun c => ?_, fun c => ?_⟩
  · replace h := h.1 c
    exact hk _ _ hF h
  · replace h := h.2 c
    refine ⟨fun c => ?_, fun c => ?_⟩
    · replace h := h.1 c
      exact hk _ _ hF h
    · replace h := h.2 c
      exact hk _ _ hF h
theorem km_X10_keep (t0 : Nat) (a0 : Int32) (a1 : Int32) (a2 : Int64) : KmV [40] [] [64, 65] [66] [] (wp_X10_keep t0 a0 a1 a2) := by
  intro S0 K K' hk h
  have hF : KF [40] [] [64, 65] [66] [] S0 S0 := KF_rf
  unfold wp_X10_keep at h ⊢
  refine ⟨h.1, ?_⟩
  replace h := h.2
  intro z1 ez1
  replace h := h z1 ez1
  refine ⟨fun c => ?_, fun c => ?_⟩
  · replace h := h.1 c
    exact hk _ hF h
  · replace h := h.2 c
    refine ⟨h.1, ?_⟩
    replace h := h.2
    intro z3 ez3
    replace h := h z3 ez3
    have pz3 : ∃ o, S0.2.1 64 o = z3 := ⟨_, by rw [ez3, hF.2.1 64 (by decide)]⟩
    refine ⟨h.1, ?_⟩
    replace h := h.2
    intro z4 ez4
    replace h := h z4 ez4
    obtain ⟨q5, eq5, h9⟩ := h
    replace h := h9
    clear h9
    refine ⟨q5, eq5, ?_⟩
    refine ⟨h.1, ?_⟩
    replace h := h.2
    refine ⟨h.1, ?_⟩
    replace h := h.2
    intro S6 eS6
    replace h := h S6 eS6
    replace hF := KF_a (fid := 64) hF eS6 (by decide) (by rw [← eq5]; exact pz3)
    refine ⟨h.1, ?_⟩
    replace h := h.2
    intro z7 ez7
    replace h := h z7 ez7
    have pz7 : ∃ o, S0.2.1 65 o = z7 := ⟨_, by rw [ez7, hF.2.1 65 (by decide)]⟩
    refine ⟨h.1, ?_⟩
    replace h := h.2
    intro z8 ez8
    replace h := h z8 ez8
    obtain ⟨q9, eq9, h9⟩ := h
    replace h := h9
    clear h9
    refine ⟨q9, eq9, ?_⟩
    refine ⟨h.1, ?_⟩
    replace h := h.2
    refine ⟨h.1, ?_⟩
    replace h := h.2
    intro S10 eS10
    replace h := h S10 eS10
    replace hF := KF_a (fid := 65) hF eS10 (by decide) (by rw [← eq9]; exact pz7)
    refine ⟨h.1, ?_⟩
    replace h := h.2
    intro z11 ez11
    replace h := h z11 ez11
    have pz11 : ∃ o, S0.2.1 66 o = z11 := ⟨_, by rw [ez11, hF.2.1 66 (by decide)]⟩
    refine ⟨h.1, ?_⟩
    replace h := h.2
    intro z12 ez12
    replace h := h z12 ez12
    obtain ⟨q13, eq13, h9⟩ := h
    replace h := h9
    clear h9
    refine ⟨q13, eq13, ?_⟩
    refine ⟨h.1, ?_⟩
    replace h := h.2
    refine ⟨h.1, ?_⟩
    replace h := h.2
    intro S14 eS14
    replace h := h S14 eS14
    replace hF := KF_l (fid := 66) hF eS14 (by decide) (by rw [← eq13]; exact pz11)
    refine ⟨h.1, ?_⟩
    replace h := h.2
    intro z15 ez15
    replace h := h z15 ez15
    intro z16 ez16
    replace h := h z16 ez16
    refine ⟨h.1, ?_⟩
    replace h := h.2
    intro S17 eS17
    replace h := h S17 eS17
    replace hF := KF_i hF eS17 (by decide)
    exact hk _ hF h
theorem km_X10_kindOf_2 {K K' : kS → Int32 → Prop} {k2 k2' : Nat × Int64 × Int32 × kS → Prop} {S0 : kS} (hk : ∀ S1 r1, KF [] [] [] [] [] S0 S1 → K S1 r1 → K' S1 r1) (hk2 : ∀ u : Nat × Int64 × Int32 × kS, KF [] [] [] [] [] S0 u.2.2.2 → k2 u → k2' u) {x0 : Nat} {x1 : Int64} {x3 : Int32} {S : kS} (hF : KF [] [] [] [] [] S0 S) (h : wp_X10_kindOf_2 K k2 x0 x1 x3 S) : wp_X10_kindOf_2 K' k2' x0 x1 x3 S := by
  unfold wp_X10_kindOf_2 at h ⊢
  refine ⟨fun c => ?_, fun c => ?_⟩
  · replace h := h.1 c
    exact hk _ _ hF h
  · replace h := h.2 c
    refine ⟨h.1, ?_⟩
    replace h := h.2
    intro z2 ez2
    replace h := h z2 ez2
    obtain ⟨q3, eq3, h9⟩ := h
    replace h := h9
    clear h9
    refine ⟨q3, eq3, ?_⟩
    refine ⟨h.1, ?_⟩
    replace h := h.2
    refine ⟨h.1, ?_⟩
    replace h := h.2
    intro z4 ez4
    replace h := h z4 ez4
    intro z5 ez5
    replace h := h z5 ez5
    refine ⟨fun c => ?_, fun c => ?_⟩
    · replace h := h.1 c
      intro z7 ez7
      replace h := h z7 ez7
      exact hk2 _ hF h
    · replace h := h.2 c
      intro z8 ez8
      replace h := h z8 ez8
      exact hk _ _ hF h
theorem kml_X10_kindOf_2 {K K' : kS → Int32 → Prop} {S0 : kS} (hk : ∀ S1 r1, KF [] [] [] [] [] S0 S1 → K S1 r1 → K' S1 r1) : ∀ (n : Nat) (u : Nat × Int64 × Int32 × kS), KF [] [] [] [] [] S0 u.2.2.2 → it (ls_X10_kindOf_2 K) n u → it (ls_X10_kindOf_2 K') n u := by
  intro n
  induction n with
  | zero => exact fun _ _ h => h
  | succ n ih => exact fun u hF h => km_X10_kindOf_2 hk ih hF h
theorem km_X10_kindOf (t0 : Nat) (a0 : Int64) : KmI [] [] [] [] [] (wp_X10_kindOf t0 a0) := by
  intro S0 K K' hk h
  have hF : KF [] [] [] [] [] S0 S0 := KF_rf
  unfold wp_X10_kindOf at h ⊢
  obtain ⟨n9, h⟩ := h
  exact ⟨n9, kml_X10_kindOf_2 hk n9 _ hF h⟩
theorem km_X10_longer_28 {K K' : kS → Int64 → Prop} {S0 : kS} (hk : ∀ S1 r1, KF [] [] [] [] [] S0 S1 → K S1 r1 → K' S1 r1) {y0 : Int64} {y1 : Int32} {S : kS} (hF : KF [] [] [] [] [] S0 S) (h : wp_X10_longer_28 K y0 y1 S) : wp_X10_longer_28 K' y0 y1 S := by
  unfold wp_X10_longer_28 at h ⊢
  intro z8 ez8
  replace h := h z8 ez8
  intro z9 ez9
  replace h := h z9 ez9
  exact hk _ _ hF h
theorem km_X10_longer (a0 : Int64) (a1 : Int32) : KmL [] [] [] [] [] (wp_X10_longer a0 a1) := by
  intro S0 K K' hk h
  have hF : KF [] [] [] [] [] S0 S0 := KF_rf
  unfold wp_X10_longer at h ⊢
  intro z1 ez1
  replace h := h z1 ez1
  refine km_X10_isDigit _ _ _ _ (fun S2 r2 hG h => ?_) h
  replace hF := KF_t hF hG (by decide) (by decide) (by decide) (by decide) (by decide) (by decide) (by decide) (by decide)
  refine ⟨fun c => ?_, fun c => ?_⟩
  · replace h := h.1 c
    intro z4 ez4
    replace h := h z4 ez4
    intro z5 ez5
    replace h := h z5 ez5
    exact km_X10_longer_28 hk hF h
  · replace h := h.2 c
    intro z6 ez6
    replace h := h z6 ez6
    intro z7 ez7
    replace h := h z7 ez7
    exact km_X10_longer_28 hk hF h
theorem km_X10_onlyWord_28 {K K' : kS → Int64 → Prop} {S0 : kS} (hk : ∀ S1 r1, KF [] [] [] [] [] S0 S1 → K S1 r1 → K' S1 r1) {y0 : Int64} {S : kS} (hF : KF [] [] [] [] [] S0 S) (h : wp_X10_onlyWord_28 K y0 S) : wp_X10_onlyWord_28 K' y0 S := by
  unfold wp_X10_onlyWord_28 at h ⊢
  exact hk _ _ hF h
theorem km_X10_onlyWord_27 {K K' : kS → Int64 → Prop} {S0 : kS} (hk : ∀ S1 r1, KF [] [] [] [] [] S0 S1 → K S1 r1 → K' S1 r1) {S : kS} (hF : KF [] [] [] [] [] S0 S) (h : wp_X10_onlyWord_27 K S) : wp_X10_onlyWord_27 K' S := by
  unfold wp_X10_onlyWord_27 at h ⊢
  exact km_X10_onlyWord_28 hk hF h
theorem km_X10_onlyWord (t0 : Nat) : KmL [] [] [] [] [] (wp_X10_onlyWord t0) := by
  intro S0 K K' hk h
  have hF : KF [] [] [] [] [] S0 S0 := KF_rf
  unfold wp_X10_onlyWord at h ⊢
  refine ⟨h.1, ?_⟩
  replace h := h.2
  intro z1 ez1
  replace h := h z1 ez1
  refine ⟨fun c => ?_, fun c => ?_⟩
  · replace h := h.1 c
    exact km_X10_onlyWord_27 hk hF h
  · replace h := h.2 c
    refine ⟨h.1, ?_⟩
    replace h := h.2
    intro z3 ez3
    replace h := h z3 ez3
    obtain ⟨q4, eq4, h9⟩ := h
    replace h := h9
    clear h9
    refine ⟨q4, eq4, ?_⟩
    refine ⟨h.1, ?_⟩
    replace h := h.2
    refine ⟨h.1, ?_⟩
    replace h := h.2
    intro z5 ez5
    replace h := h z5 ez5
    refine ⟨fun c => ?_, fun c => ?_⟩
    · replace h := h.1 c
      exact km_X10_onlyWord_27 hk hF h
    · replace h := h.2 c
      refine ⟨h.1, ?_⟩
      replace h := h.2
      intro z7 ez7
      replace h := h z7 ez7
      obtain ⟨q8, eq8, h9⟩ := h
      replace h := h9
      clear h9
      refine ⟨q8, eq8, ?_⟩
      refine ⟨h.1, ?_⟩
      replace h := h.2
      refine ⟨h.1, ?_⟩
      replace h := h.2
      intro z9 ez9
      replace h := h z9 ez9
      exact km_X10_onlyWord_28 hk hF h
theorem km_X10_readNumber_61 {K K' : kS → Int32 → Prop} {S0 : kS} (hk : ∀ S1 r1, KF [40] [] [64, 65] [66] [] S0 S1 → K S1 r1 → K' S1 r1) {x1 : Int32} {x2 : Int32} {x3 : Int64} {y0 : Nat} {y1 : Int32} {S : kS} (hF : KF [40] [] [64, 65] [66] [] S0 S) (h : wp_X10_readNumber_61 K x1 x2 x3 y0 y1 S) : wp_X10_readNumber_61 K' x1 x2 x3 y0 y1 S := by
  unfold wp_X10_readNumber_61 at h ⊢
  refine ⟨h.1, ?_⟩
  replace h := h.2
  refine km_X10_keep _ _ _ _ _ _ _ (fun S18 hG h => ?_) h
  replace hF := KF_t hF hG (by decide) (by decide) (by decide) (by decide) (by decide) (by decide) (by decide) (by decide)
  exact hk _ _ hF h
theorem km_X10_readNumber_47 {K K' : kS → Int32 → Prop} {S0 : kS} (hk : ∀ S1 r1, KF [40] [] [64, 65] [66] [] S0 S1 → K S1 r1 → K' S1 r1) {x0 : Nat} {x1 : Int32} {x2 : Int32} {x3 : Int64} {S : kS} (hF : KF [40] [] [64, 65] [66] [] S0 S) (h : wp_X10_readNumber_47 K x0 x1 x2 x3 S) : wp_X10_readNumber_47 K' x0 x1 x2 x3 S := by
  unfold wp_X10_readNumber_47 at h ⊢
  intro z16 ez16
  replace h := h z16 ez16
  refine ⟨fun c => ?_, fun c => ?_⟩
  · replace h := h.1 c
    exact km_X10_readNumber_61 hk hF h
  · replace h := h.2 c
    exact km_X10_readNumber_61 hk hF h
theorem km_X10_readNumber_4 {K K' : kS → Int32 → Prop} {k4 k4' : Nat × Int32 × Int32 × Int64 × kS → Prop} {S0 : kS} (hk : ∀ S1 r1, KF [40] [] [64, 65] [66] [] S0 S1 → K S1 r1 → K' S1 r1) (hk4 : ∀ u : Nat × Int32 × Int32 × Int64 × kS, KF [40] [] [64, 65] [66] [] S0 u.2.2.2.2 → k4 u → k4' u) {x0 : Nat} {x1 : Int32} {x2 : Int32} {x3 : Int64} {S : kS} (hF : KF [40] [] [64, 65] [66] [] S0 S) (h : wp_X10_readNumber_4 K k4 x0 x1 x2 x3 S) : wp_X10_readNumber_4 K' k4' x0 x1 x2 x3 S := by
  unfold wp_X10_readNumber_4 at h ⊢
  refine ⟨h.1, ?_⟩
  replace h := h.2
  intro z1 ez1
  replace h := h z1 ez1
  refine ⟨fun c => ?_, fun c => ?_⟩
  · replace h := h.1 c
    exact km_X10_readNumber_47 hk hF h
  · replace h := h.2 c
    refine ⟨h.1, ?_⟩
    replace h := h.2
    intro z3 ez3
    replace h := h z3 ez3
    obtain ⟨q4, eq4, h9⟩ := h
    replace h := h9
    clear h9
    refine ⟨q4, eq4, ?_⟩
    refine ⟨h.1, ?_⟩
    replace h := h.2
    refine ⟨h.1, ?_⟩
    replace h := h.2
    intro z5 ez5
    replace h := h z5 ez5
    refine km_X10_isDigit _ _ _ _ (fun S6 r6 hG h => ?_) h
    replace hF := KF_t hF hG (by decide) (by decide) (by decide) (by decide) (by decide) (by decide) (by decide) (by decide)
    refine ⟨fun c => ?_, fun c => ?_⟩
    · replace h := h.1 c
      exact km_X10_readNumber_47 hk hF h
    · replace h := h.2 c
      intro z8 ez8
      replace h := h z8 ez8
      refine ⟨h.1, ?_⟩
      replace h := h.2
      intro z9 ez9
      replace h := h z9 ez9
      obtain ⟨q10, eq10, h9⟩ := h
      replace h := h9
      clear h9
      refine ⟨q10, eq10, ?_⟩
      refine ⟨h.1, ?_⟩
      replace h := h.2
      refine ⟨h.1, ?_⟩
      replace h := h.2
      intro z11 ez11
      replace h := h z11 ez11
      intro z12 ez12
      replace h := h z12 ez12
      intro z13 ez13
      replace h := h z13 ez13
      intro z14 ez14
      replace h := h z14 ez14
      intro z15 ez15
      replace h := h z15 ez15
      exact hk4 _ hF h
theorem kml_X10_readNumber_4 {K K' : kS → Int32 → Prop} {S0 : kS} (hk : ∀ S1 r1, KF [40] [] [64, 65] [66] [] S0 S1 → K S1 r1 → K' S1 r1) : ∀ (n : Nat) (u : Nat × Int32 × Int32 × Int64 × kS), KF [40] [] [64, 65] [66] [] S0 u.2.2.2.2 → it (ls_X10_readNumber_4 K) n u → it (ls_X10_readNumber_4 K') n u := by
  intro n
  induction n with
  | zero => exact fun _ _ h => h
  | succ n ih => exact fun u hF h => km_X10_readNumber_4 hk ih hF h
theorem km_X10_readNumber (t0 : Nat) (a0 : Int32) : KmI [40] [] [64, 65] [66] [] (wp_X10_readNumber t0 a0) := by
  intro S0 K K' hk h
  have hF : KF [40] [] [64, 65] [66] [] S0 S0 := KF_rf
  unfold wp_X10_readNumber at h ⊢
  obtain ⟨n9, h⟩ := h
  exact ⟨n9, kml_X10_readNumber_4 hk n9 _ hF h⟩
theorem km_X10_readWord_71 {K K' : kS → Int32 → Prop} {S0 : kS} (hk : ∀ S1 r1, KF [40] [] [64, 65] [66] [] S0 S1 → K S1 r1 → K' S1 r1) {x1 : Int32} {x2 : Int32} {x3 : Int64} {y0 : Nat} {y1 : Int32} {S : kS} (hF : KF [40] [] [64, 65] [66] [] S0 S) (h : wp_X10_readWord_71 K x1 x2 x3 y0 y1 S) : wp_X10_readWord_71 K' x1 x2 x3 y0 y1 S := by
  unfold wp_X10_readWord_71 at h ⊢
  refine ⟨h.1, ?_⟩
  replace h := h.2
  refine km_X10_keep _ _ _ _ _ _ _ (fun S21 hG h => ?_) h
  replace hF := KF_t hF hG (by decide) (by decide) (by decide) (by decide) (by decide) (by decide) (by decide) (by decide)
  exact hk _ _ hF h
theorem km_X10_readWord_53 {K K' : kS → Int32 → Prop} {S0 : kS} (hk : ∀ S1 r1, KF [40] [] [64, 65] [66] [] S0 S1 → K S1 r1 → K' S1 r1) {x0 : Nat} {x1 : Int32} {x2 : Int32} {x3 : Int64} {S : kS} (hF : KF [40] [] [64, 65] [66] [] S0 S) (h : wp_X10_readWord_53 K x0 x1 x2 x3 S) : wp_X10_readWord_53 K' x0 x1 x2 x3 S := by
  unfold wp_X10_readWord_53 at h ⊢
  intro z18 ez18
  replace h := h z18 ez18
  refine ⟨fun c => ?_, fun c => ?_⟩
  · replace h := h.1 c
    refine ⟨h.1, ?_⟩
    replace h := h.2
    refine km_X10_kindOf _ _ _ _ _ (fun S20 r20 hG h => ?_) h
    replace hF := KF_t hF hG (by decide) (by decide) (by decide) (by decide) (by decide) (by decide) (by decide) (by decide)
    exact km_X10_readWord_71 hk hF h
  · replace h := h.2 c
    exact km_X10_readWord_71 hk hF h
theorem km_X10_readWord_36 {K K' : kS → Int32 → Prop} {k4 k4' : Nat × Int32 × Int32 × Int64 × kS → Prop} {S0 : kS} (hk : ∀ S1 r1, KF [40] [] [64, 65] [66] [] S0 S1 → K S1 r1 → K' S1 r1) (hk4 : ∀ u : Nat × Int32 × Int32 × Int64 × kS, KF [40] [] [64, 65] [66] [] S0 u.2.2.2.2 → k4 u → k4' u) {x0 : Nat} {x1 : Int32} {x2 : Int32} {x3 : Int64} {S : kS} (hF : KF [40] [] [64, 65] [66] [] S0 S) (h : wp_X10_readWord_36 K k4 x0 x1 x2 x3 S) : wp_X10_readWord_36 K' k4' x0 x1 x2 x3 S := by
  unfold wp_X10_readWord_36 at h ⊢
  refine ⟨h.1, ?_⟩
  replace h := h.2
  intro z13 ez13
  replace h := h z13 ez13
  obtain ⟨q14, eq14, h9⟩ := h
  replace h := h9
  clear h9
  refine ⟨q14, eq14, ?_⟩
  refine ⟨h.1, ?_⟩
  replace h := h.2
  refine ⟨h.1, ?_⟩
  replace h := h.2
  intro z15 ez15
  replace h := h z15 ez15
  refine km_X10_longer _ _ _ _ _ (fun S16 r16 hG h => ?_) h
  replace hF := KF_t hF hG (by decide) (by decide) (by decide) (by decide) (by decide) (by decide) (by decide) (by decide)
  intro z17 ez17
  replace h := h z17 ez17
  exact hk4 _ hF h
theorem km_X10_readWord_4 {K K' : kS → Int32 → Prop} {k4 k4' : Nat × Int32 × Int32 × Int64 × kS → Prop} {S0 : kS} (hk : ∀ S1 r1, KF [40] [] [64, 65] [66] [] S0 S1 → K S1 r1 → K' S1 r1) (hk4 : ∀ u : Nat × Int32 × Int32 × Int64 × kS, KF [40] [] [64, 65] [66] [] S0 u.2.2.2.2 → k4 u → k4' u) {x0 : Nat} {x1 : Int32} {x2 : Int32} {x3 : Int64} {S : kS} (hF : KF [40] [] [64, 65] [66] [] S0 S) (h : wp_X10_readWord_4 K k4 x0 x1 x2 x3 S) : wp_X10_readWord_4 K' k4' x0 x1 x2 x3 S := by
  unfold wp_X10_readWord_4 at h ⊢
  refine ⟨h.1, ?_⟩
  replace h := h.2
  intro z1 ez1
  replace h := h z1 ez1
  refine ⟨fun c => ?_, fun c => ?_⟩
  · replace h := h.1 c
    exact km_X10_readWord_53 hk hF h
  · replace h := h.2 c
    refine ⟨h.1, ?_⟩
    replace h := h.2
    intro z3 ez3
    replace h := h z3 ez3
    obtain ⟨q4, eq4, h9⟩ := h
    replace h := h9
    clear h9
    refine ⟨q4, eq4, ?_⟩
    refine ⟨h.1, ?_⟩
    replace h := h.2
    refine ⟨h.1, ?_⟩
    replace h := h.2
    intro z5 ez5
    replace h := h z5 ez5
    refine km_X10_isLetter _ _ _ _ (fun S6 r6 hG h => ?_) h
    replace hF := KF_t hF hG (by decide) (by decide) (by decide) (by decide) (by decide) (by decide) (by decide) (by decide)
    refine ⟨fun c => ?_, fun c => ?_⟩
    · replace h := h.1 c
      exact km_X10_readWord_36 hk hk4 hF h
    · replace h := h.2 c
      refine ⟨h.1, ?_⟩
      replace h := h.2
      intro z8 ez8
      replace h := h z8 ez8
      obtain ⟨q9, eq9, h9⟩ := h
      replace h := h9
      clear h9
      refine ⟨q9, eq9, ?_⟩
      refine ⟨h.1, ?_⟩
      replace h := h.2
      refine ⟨h.1, ?_⟩
      replace h := h.2
      intro z10 ez10
      replace h := h z10 ez10
      refine km_X10_isDigit _ _ _ _ (fun S11 r11 hG h => ?_) h
      replace hF := KF_t hF hG (by decide) (by decide) (by decide) (by decide) (by decide) (by decide) (by decide) (by decide)
      refine ⟨fun c => ?_, fun c => ?_⟩
      · replace h := h.1 c
        exact km_X10_readWord_53 hk hF h
      · replace h := h.2 c
        exact km_X10_readWord_36 hk hk4 hF h
theorem kml_X10_readWord_4 {K K' : kS → Int32 → Prop} {S0 : kS} (hk : ∀ S1 r1, KF [40] [] [64, 65] [66] [] S0 S1 → K S1 r1 → K' S1 r1) : ∀ (n : Nat) (u : Nat × Int32 × Int32 × Int64 × kS), KF [40] [] [64, 65] [66] [] S0 u.2.2.2.2 → it (ls_X10_readWord_4 K) n u → it (ls_X10_readWord_4 K') n u := by
  intro n
  induction n with
  | zero => exact fun _ _ h => h
  | succ n ih => exact fun u hF h => km_X10_readWord_4 hk ih hF h
theorem km_X10_readWord (t0 : Nat) (a0 : Int32) : KmI [40] [] [64, 65] [66] [] (wp_X10_readWord t0 a0) := by
  intro S0 K K' hk h
  have hF : KF [40] [] [64, 65] [66] [] S0 S0 := KF_rf
  unfold wp_X10_readWord at h ⊢
  obtain ⟨n9, h⟩ := h
  exact ⟨n9, kml_X10_readWord_4 hk n9 _ hF h⟩
theorem km_X11_box (t0 : Nat) (a0 : Int32) (a1 : Int32) : KmI [] [] [] [] [] (wp_X11_box t0 a0 a1) := by
  intro S0 K K' hk h
  have hF : KF [] [] [] [] [] S0 S0 := KF_rf
  unfold wp_X11_box at h ⊢
  refine ⟨fun c => ?_, fun c => ?_⟩
  · replace h := h.1 c
    exact hk _ _ hF h
  · replace h := h.2 c
    refine ⟨fun c => ?_, fun c => ?_⟩
    · replace h := h.1 c
      exact hk _ _ hF h
    · replace h := h.2 c
      refine ⟨fun c => ?_, fun c => ?_⟩
      · replace h := h.1 c
        exact hk _ _ hF h
      · replace h := h.2 c
        refine ⟨h.1, ?_⟩
        replace h := h.2
        intro z4 ez4
        replace h := h z4 ez4
        obtain ⟨q5, eq5, h9⟩ := h
        replace h := h9
        clear h9
        refine ⟨q5, eq5, ?_⟩
        refine ⟨h.1, ?_⟩
        replace h := h.2
        intro z6 ez6
        replace h := h z6 ez6
        obtain ⟨q7, eq7, h9⟩ := h
        replace h := h9
        clear h9
        refine ⟨q7, eq7, ?_⟩
        refine ⟨h.1, ?_⟩
        replace h := h.2
        refine ⟨h.1, ?_⟩
        replace h := h.2
        intro z8 ez8
        replace h := h z8 ez8
        refine ⟨fun c => ?_, fun c => ?_⟩
        · replace h := h.1 c
          refine ⟨h.1, ?_⟩
          replace h := h.2
          intro z10 ez10
          replace h := h z10 ez10
          obtain ⟨q11, eq11, h9⟩ := h
          replace h := h9
          clear h9
          refine ⟨q11, eq11, ?_⟩
          refine ⟨h.1, ?_⟩
          replace h := h.2
          intro z12 ez12
          replace h := h z12 ez12
          intro z13 ez13
          replace h := h z13 ez13
          intro z14 ez14
          replace h := h z14 ez14
          obtain ⟨q15, eq15, h9⟩ := h
          replace h := h9
          clear h9
          refine ⟨q15, eq15, ?_⟩
          refine ⟨h.1, ?_⟩
          replace h := h.2
          refine ⟨h.1, ?_⟩
          replace h := h.2
          intro z16 ez16
          replace h := h z16 ez16
          exact hk _ _ hF h
        · replace h := h.2 c
          exact hk _ _ hF h
theorem km_X1_has (t0 : Nat) (a0 : Int32) : KmI [] [] [] [] [] (wp_X1_has t0 a0) := by
  intro S0 K K' hk h
  have hF : KF [] [] [] [] [] S0 S0 := KF_rf
  unfold wp_X1_has at h ⊢
  refine ⟨fun c => ?_, fun c => ?_⟩
  · replace h := h.1 c
    exact hk _ _ hF h
  · replace h := h.2 c
    refine ⟨h.1, ?_⟩
    replace h := h.2
    intro z2 ez2
    replace h := h z2 ez2
    refine ⟨fun c => ?_, fun c => ?_⟩
    · replace h := h.1 c
      exact hk _ _ hF h
    · replace h := h.2 c
      exact hk _ _ hF h
theorem km_X1_plan (t0 : Nat) (a0 : Int32) : KmV [5] [] [10] [] [] (wp_X1_plan t0 a0) := by
  intro S0 K K' hk h
  have hF : KF [5] [] [10] [] [] S0 S0 := KF_rf
  unfold wp_X1_plan at h ⊢
  refine ⟨h.1, ?_⟩
  replace h := h.2
  intro z1 ez1
  replace h := h z1 ez1
  refine ⟨fun c => ?_, fun c => ?_⟩
  · replace h := h.1 c
    exact hk _ hF h
  · replace h := h.2 c
    refine ⟨h.1, ?_⟩
    replace h := h.2
    intro z3 ez3
    replace h := h z3 ez3
    have pz3 : ∃ o, S0.2.1 10 o = z3 := ⟨_, by rw [ez3, hF.2.1 10 (by decide)]⟩
    refine ⟨h.1, ?_⟩
    replace h := h.2
    intro z4 ez4
    replace h := h z4 ez4
    obtain ⟨q5, eq5, h9⟩ := h
    replace h := h9
    clear h9
    refine ⟨q5, eq5, ?_⟩
    refine ⟨h.1, ?_⟩
    replace h := h.2
    refine ⟨h.1, ?_⟩
    replace h := h.2
    intro S6 eS6
    replace h := h S6 eS6
    replace hF := KF_a (fid := 10) hF eS6 (by decide) (by rw [← eq5]; exact pz3)
    refine ⟨h.1, ?_⟩
    replace h := h.2
    intro z7 ez7
    replace h := h z7 ez7
    intro z8 ez8
    replace h := h z8 ez8
    refine ⟨h.1, ?_⟩
    replace h := h.2
    intro S9 eS9
    replace h := h S9 eS9
    replace hF := KF_i hF eS9 (by decide)
    exact hk _ hF h
theorem km_X2_remove_58 {K K' : kS → Prop} {S0 : kS} (hk : ∀ S1, KF [] [12, 13, 25, 26, 27] [] [] [] S0 S1 → K S1 → K' S1) {x1 : Nat} {S : kS} (hF : KF [] [12, 13, 25, 26, 27] [] [] [] S0 S) (h : wp_X2_remove_58 K x1 S) : wp_X2_remove_58 K' x1 S := by
  unfold wp_X2_remove_58 at h ⊢
  refine ⟨h.1, ?_⟩
  replace h := h.2
  intro S17 eS17
  replace h := h S17 eS17
  replace hF := KF_r hF eS17 (by decide)
  refine ⟨h.1, ?_⟩
  replace h := h.2
  intro S18 eS18
  replace h := h S18 eS18
  replace hF := KF_r hF eS18 (by decide)
  refine ⟨h.1, ?_⟩
  replace h := h.2
  intro S19 eS19
  replace h := h S19 eS19
  replace hF := KF_r hF eS19 (by decide)
  exact hk _ hF h
theorem km_X2_remove_29 {K K' : kS → Prop} {S0 : kS} (hk : ∀ S1, KF [] [12, 13, 25, 26, 27] [] [] [] S0 S1 → K S1 → K' S1) {x0 : Nat} {x1 : Nat} {S : kS} (hF : KF [] [12, 13, 25, 26, 27] [] [] [] S0 S) (h : wp_X2_remove_29 K x0 x1 S) : wp_X2_remove_29 K' x0 x1 S := by
  unfold wp_X2_remove_29 at h ⊢
  refine ⟨h.1, ?_⟩
  replace h := h.2
  intro z9 ez9
  replace h := h z9 ez9
  refine ⟨fun c => ?_, fun q10 c => ?_⟩
  · replace h := h.1 c
    refine ⟨h.1, ?_⟩
    replace h := h.2
    intro z11 ez11
    replace h := h z11 ez11
    refine ⟨h.1, ?_⟩
    replace h := h.2
    intro S12 eS12
    replace h := h S12 eS12
    replace hF := KF_r hF eS12 (by decide)
    exact km_X2_remove_58 hk hF h
  · replace h := h.2 q10 c
    refine ⟨h.1, ?_⟩
    replace h := h.2
    intro z13 ez13
    replace h := h z13 ez13
    refine ⟨h.1, ?_⟩
    replace h := h.2
    intro z14 ez14
    replace h := h z14 ez14
    obtain ⟨q15, eq15, h9⟩ := h
    replace h := h9
    clear h9
    refine ⟨q15, eq15, ?_⟩
    refine ⟨h.1, ?_⟩
    replace h := h.2
    intro S16 eS16
    replace h := h S16 eS16
    replace hF := KF_r hF eS16 (by decide)
    exact km_X2_remove_58 hk hF h
theorem km_X2_remove (t0 : Nat) (a0 : Nat) : KmV [] [12, 13, 25, 26, 27] [] [] [] (wp_X2_remove t0 a0) := by
  intro S0 K K' hk h
  have hF : KF [] [12, 13, 25, 26, 27] [] [] [] S0 S0 := KF_rf
  unfold wp_X2_remove at h ⊢
  refine ⟨h.1, ?_⟩
  replace h := h.2
  intro z1 ez1
  replace h := h z1 ez1
  refine ⟨fun c => ?_, fun q2 c => ?_⟩
  · replace h := h.1 c
    refine ⟨h.1, ?_⟩
    replace h := h.2
    intro z3 ez3
    replace h := h z3 ez3
    refine ⟨h.1, ?_⟩
    replace h := h.2
    intro S4 eS4
    replace h := h S4 eS4
    replace hF := KF_r hF eS4 (by decide)
    exact km_X2_remove_29 hk hF h
  · replace h := h.2 q2 c
    refine ⟨h.1, ?_⟩
    replace h := h.2
    intro z5 ez5
    replace h := h z5 ez5
    refine ⟨h.1, ?_⟩
    replace h := h.2
    intro z6 ez6
    replace h := h z6 ez6
    obtain ⟨q7, eq7, h9⟩ := h
    replace h := h9
    clear h9
    refine ⟨q7, eq7, ?_⟩
    refine ⟨h.1, ?_⟩
    replace h := h.2
    intro S8 eS8
    replace h := h S8 eS8
    replace hF := KF_r hF eS8 (by decide)
    exact km_X2_remove_29 hk hF h
theorem km_X4_isAdrift_5 {K K' : kS → Int32 → Prop} {k5 k5' : Option Nat × kS → Prop} {S0 : kS} (hk : ∀ S1 r1, KF [] [] [] [] [] S0 S1 → K S1 r1 → K' S1 r1) (hk5 : ∀ u : Option Nat × kS, KF [] [] [] [] [] S0 u.2 → k5 u → k5' u) {x1 : Option Nat} {S : kS} (hF : KF [] [] [] [] [] S0 S) (h : wp_X4_isAdrift_5 K k5 x1 S) : wp_X4_isAdrift_5 K' k5' x1 S := by
  unfold wp_X4_isAdrift_5 at h ⊢
  refine ⟨fun c => ?_, fun q2 c => ?_⟩
  · replace h := h.1 c
    exact hk _ _ hF h
  · replace h := h.2 q2 c
    refine ⟨h.1, ?_⟩
    replace h := h.2
    intro z3 ez3
    replace h := h z3 ez3
    refine ⟨fun c => ?_, fun c => ?_⟩
    · replace h := h.1 c
      refine ⟨h.1, ?_⟩
      replace h := h.2
      intro z5 ez5
      replace h := h z5 ez5
      exact hk5 _ hF h
    · replace h := h.2 c
      exact hk _ _ hF h
theorem kml_X4_isAdrift_5 {K K' : kS → Int32 → Prop} {S0 : kS} (hk : ∀ S1 r1, KF [] [] [] [] [] S0 S1 → K S1 r1 → K' S1 r1) : ∀ (n : Nat) (u : Option Nat × kS), KF [] [] [] [] [] S0 u.2 → it (ls_X4_isAdrift_5 K) n u → it (ls_X4_isAdrift_5 K') n u := by
  intro n
  induction n with
  | zero => exact fun _ _ h => h
  | succ n ih => exact fun u hF h => km_X4_isAdrift_5 hk ih hF h
theorem km_X4_isAdrift (t0 : Nat) : KmI [] [] [] [] [] (wp_X4_isAdrift t0) := by
  intro S0 K K' hk h
  have hF : KF [] [] [] [] [] S0 S0 := KF_rf
  unfold wp_X4_isAdrift at h ⊢
  refine ⟨h.1, ?_⟩
  replace h := h.2
  intro z1 ez1
  replace h := h z1 ez1
  obtain ⟨n9, h⟩ := h
  exact ⟨n9, kml_X4_isAdrift_5 hk n9 _ hF h⟩
theorem km_X1_drop_65 {K K' : kS → Prop} {k5 k5' : Nat × Int32 × Option Nat × kS → Prop} {S0 : kS} (hk : ∀ S1, KF [5, 13] [12, 13, 25, 26, 27] [10] [] [] S0 S1 → K S1 → K' S1) (hk5 : ∀ u : Nat × Int32 × Option Nat × kS, KF [5, 13] [12, 13, 25, 26, 27] [10] [] [] S0 u.2.2.2 → k5 u → k5' u) {x0 : Nat} {x2 : Int32} {x3 : Nat} {S : kS} (hF : KF [5, 13] [12, 13, 25, 26, 27] [10] [] [] S0 S) (h : wp_X1_drop_65 K k5 x0 x2 x3 S) : wp_X1_drop_65 K' k5' x0 x2 x3 S := by
  unfold wp_X1_drop_65 at h ⊢
  refine ⟨h.1, ?_⟩
  replace h := h.2
  intro z20 ez20
  replace h := h z20 ez20
  exact hk5 _ hF h
theorem km_X1_drop_47 {K K' : kS → Prop} {k5 k5' : Nat × Int32 × Option Nat × kS → Prop} {S0 : kS} (hk : ∀ S1, KF [5, 13] [12, 13, 25, 26, 27] [10] [] [] S0 S1 → K S1 → K' S1) (hk5 : ∀ u : Nat × Int32 × Option Nat × kS, KF [5, 13] [12, 13, 25, 26, 27] [10] [] [] S0 u.2.2.2 → k5 u → k5' u) {x0 : Nat} {x2 : Int32} {x3 : Nat} {S : kS} (hF : KF [5, 13] [12, 13, 25, 26, 27] [10] [] [] S0 S) (h : wp_X1_drop_47 K k5 x0 x2 x3 S) : wp_X1_drop_47 K' k5' x0 x2 x3 S := by
  unfold wp_X1_drop_47 at h ⊢
  refine ⟨h.1, ?_⟩
  replace h := h.2
  intro z14 ez14
  replace h := h z14 ez14
  refine ⟨fun c => ?_, fun q15 c => ?_⟩
  · replace h := h.1 c
    exact km_X1_drop_65 hk hk5 hF h
  · replace h := h.2 q15 c
    refine ⟨h.1, ?_⟩
    replace h := h.2
    intro z16 ez16
    replace h := h z16 ez16
    obtain ⟨q17, eq17, h9⟩ := h
    replace h := h9
    clear h9
    refine ⟨q17, eq17, ?_⟩
    refine ⟨h.1, ?_⟩
    replace h := h.2
    intro z18 ez18
    replace h := h z18 ez18
    refine ⟨h.1, ?_⟩
    replace h := h.2
    refine km_X1_plan _ _ _ _ _ (fun S19 hG h => ?_) h
    replace hF := KF_t hF hG (by decide) (by decide) (by decide) (by decide) (by decide) (by decide) (by decide) (by decide)
    exact km_X1_drop_65 hk hk5 hF h
theorem km_X1_drop_27 {K K' : kS → Prop} {k5 k5' : Nat × Int32 × Option Nat × kS → Prop} {S0 : kS} (hk : ∀ S1, KF [5, 13] [12, 13, 25, 26, 27] [10] [] [] S0 S1 → K S1 → K' S1) (hk5 : ∀ u : Nat × Int32 × Option Nat × kS, KF [5, 13] [12, 13, 25, 26, 27] [10] [] [] S0 u.2.2.2 → k5 u → k5' u) {x0 : Nat} {x2 : Int32} {x3 : Nat} {S : kS} (hF : KF [5, 13] [12, 13, 25, 26, 27] [10] [] [] S0 S) (h : wp_X1_drop_27 K k5 x0 x2 x3 S) : wp_X1_drop_27 K' k5' x0 x2 x3 S := by
  unfold wp_X1_drop_27 at h ⊢
  refine ⟨h.1, ?_⟩
  replace h := h.2
  intro S8 eS8
  replace h := h S8 eS8
  replace hF := KF_i hF eS8 (by decide)
  refine ⟨h.1, ?_⟩
  replace h := h.2
  intro z9 ez9
  replace h := h z9 ez9
  refine ⟨fun c => ?_, fun q10 c => ?_⟩
  · replace h := h.1 c
    exact km_X1_drop_47 hk hk5 hF h
  · replace h := h.2 q10 c
    refine ⟨h.1, ?_⟩
    replace h := h.2
    intro z11 ez11
    replace h := h z11 ez11
    obtain ⟨q12, eq12, h9⟩ := h
    replace h := h9
    clear h9
    refine ⟨q12, eq12, ?_⟩
    refine ⟨h.1, ?_⟩
    replace h := h.2
    refine km_X2_remove _ _ _ _ _ (fun S13 hG h => ?_) h
    replace hF := KF_t hF hG (by decide) (by decide) (by decide) (by decide) (by decide) (by decide) (by decide) (by decide)
    exact km_X1_drop_47 hk hk5 hF h
theorem km_X1_drop_5 {K K' : kS → Prop} {k5 k5' : Nat × Int32 × Option Nat × kS → Prop} {S0 : kS} (hk : ∀ S1, KF [5, 13] [12, 13, 25, 26, 27] [10] [] [] S0 S1 → K S1 → K' S1) (hk5 : ∀ u : Nat × Int32 × Option Nat × kS, KF [5, 13] [12, 13, 25, 26, 27] [10] [] [] S0 u.2.2.2 → k5 u → k5' u) {x0 : Nat} {x2 : Int32} {x3 : Option Nat} {S : kS} (hF : KF [5, 13] [12, 13, 25, 26, 27] [10] [] [] S0 S) (h : wp_X1_drop_5 K k5 x0 x2 x3 S) : wp_X1_drop_5 K' k5' x0 x2 x3 S := by
  unfold wp_X1_drop_5 at h ⊢
  refine ⟨fun c => ?_, fun q2 c => ?_⟩
  · replace h := h.1 c
    exact hk _ hF h
  · replace h := h.2 q2 c
    refine ⟨h.1, ?_⟩
    replace h := h.2
    intro z3 ez3
    replace h := h z3 ez3
    refine ⟨fun c => ?_, fun c => ?_⟩
    · replace h := h.1 c
      exact km_X1_drop_65 hk hk5 hF h
    · replace h := h.2 c
      refine ⟨fun c => ?_, fun c => ?_⟩
      · replace h := h.1 c
        exact km_X1_drop_27 hk hk5 hF h
      · replace h := h.2 c
        refine ⟨h.1, ?_⟩
        replace h := h.2
        refine km_X4_isAdrift _ _ _ _ (fun S6 r6 hG h => ?_) h
        replace hF := KF_t hF hG (by decide) (by decide) (by decide) (by decide) (by decide) (by decide) (by decide) (by decide)
        refine ⟨fun c => ?_, fun c => ?_⟩
        · replace h := h.1 c
          exact km_X1_drop_65 hk hk5 hF h
        · replace h := h.2 c
          exact km_X1_drop_27 hk hk5 hF h
theorem kml_X1_drop_5 {K K' : kS → Prop} {S0 : kS} (hk : ∀ S1, KF [5, 13] [12, 13, 25, 26, 27] [10] [] [] S0 S1 → K S1 → K' S1) : ∀ (n : Nat) (u : Nat × Int32 × Option Nat × kS), KF [5, 13] [12, 13, 25, 26, 27] [10] [] [] S0 u.2.2.2 → it (ls_X1_drop_5 K) n u → it (ls_X1_drop_5 K') n u := by
  intro n
  induction n with
  | zero => exact fun _ _ h => h
  | succ n ih => exact fun u hF h => km_X1_drop_5 hk ih hF h
theorem km_X1_drop (t0 : Nat) (a0 : Nat) (a1 : Int32) : KmV [5, 13] [12, 13, 25, 26, 27] [10] [] [] (wp_X1_drop t0 a0 a1) := by
  intro S0 K K' hk h
  have hF : KF [5, 13] [12, 13, 25, 26, 27] [10] [] [] S0 S0 := KF_rf
  unfold wp_X1_drop at h ⊢
  refine ⟨h.1, ?_⟩
  replace h := h.2
  intro z1 ez1
  replace h := h z1 ez1
  obtain ⟨n9, h⟩ := h
  exact ⟨n9, kml_X1_drop_5 hk n9 _ hF h⟩
theorem km_X1_turnRound_9 {K K' : kS → Prop} {k9 k9' : Nat × Int32 × Int32 × kS → Prop} {S0 : kS} (hk : ∀ S1, KF [] [] [10] [] [] S0 S1 → K S1 → K' S1) (hk9 : ∀ u : Nat × Int32 × Int32 × kS, KF [] [] [10] [] [] S0 u.2.2.2 → k9 u → k9' u) {x0 : Nat} {x2 : Int32} {x3 : Int32} {S : kS} (hF : KF [] [] [10] [] [] S0 S) (h : wp_X1_turnRound_9 K k9 x0 x2 x3 S) : wp_X1_turnRound_9 K' k9' x0 x2 x3 S := by
  unfold wp_X1_turnRound_9 at h ⊢
  refine ⟨fun c => ?_, fun c => ?_⟩
  · replace h := h.1 c
    exact hk _ hF h
  · replace h := h.2 c
    refine ⟨h.1, ?_⟩
    replace h := h.2
    intro z4 ez4
    replace h := h z4 ez4
    obtain ⟨q5, eq5, h9⟩ := h
    replace h := h9
    clear h9
    refine ⟨q5, eq5, ?_⟩
    refine ⟨h.1, ?_⟩
    replace h := h.2
    refine ⟨h.1, ?_⟩
    replace h := h.2
    intro z6 ez6
    replace h := h z6 ez6
    refine ⟨h.1, ?_⟩
    replace h := h.2
    intro z7 ez7
    replace h := h z7 ez7
    have pz7 : ∃ o, S0.2.1 10 o = z7 := ⟨_, by rw [ez7, hF.2.1 10 (by decide)]⟩
    refine ⟨h.1, ?_⟩
    replace h := h.2
    intro z8 ez8
    replace h := h z8 ez8
    obtain ⟨q9, eq9, h9⟩ := h
    replace h := h9
    clear h9
    refine ⟨q9, eq9, ?_⟩
    refine ⟨h.1, ?_⟩
    replace h := h.2
    refine ⟨h.1, ?_⟩
    replace h := h.2
    intro z10 ez10
    replace h := h z10 ez10
    obtain ⟨q11, eq11, h9⟩ := h
    replace h := h9
    clear h9
    refine ⟨q11, eq11, ?_⟩
    refine ⟨h.1, ?_⟩
    replace h := h.2
    refine ⟨h.1, ?_⟩
    replace h := h.2
    intro S12 eS12
    replace h := h S12 eS12
    replace hF := KF_a (fid := 10) hF eS12 (by decide) (by rw [← eq11]; exact pz7)
    refine ⟨h.1, ?_⟩
    replace h := h.2
    intro z13 ez13
    replace h := h z13 ez13
    have pz13 : ∃ o, S0.2.1 10 o = z13 := ⟨_, by rw [ez13, hF.2.1 10 (by decide)]⟩
    obtain ⟨q14, eq14, h9⟩ := h
    replace h := h9
    clear h9
    refine ⟨q14, eq14, ?_⟩
    refine ⟨h.1, ?_⟩
    replace h := h.2
    refine ⟨h.1, ?_⟩
    replace h := h.2
    intro S15 eS15
    replace h := h S15 eS15
    replace hF := KF_a (fid := 10) hF eS15 (by decide) (by rw [← eq14]; exact pz13)
    intro z16 ez16
    replace h := h z16 ez16
    intro z17 ez17
    replace h := h z17 ez17
    exact hk9 _ hF h
theorem kml_X1_turnRound_9 {K K' : kS → Prop} {S0 : kS} (hk : ∀ S1, KF [] [] [10] [] [] S0 S1 → K S1 → K' S1) : ∀ (n : Nat) (u : Nat × Int32 × Int32 × kS), KF [] [] [10] [] [] S0 u.2.2.2 → it (ls_X1_turnRound_9 K) n u → it (ls_X1_turnRound_9 K') n u := by
  intro n
  induction n with
  | zero => exact fun _ _ h => h
  | succ n ih => exact fun u hF h => km_X1_turnRound_9 hk ih hF h
theorem km_X1_turnRound (t0 : Nat) (a0 : Int32) : KmV [] [] [10] [] [] (wp_X1_turnRound t0 a0) := by
  intro S0 K K' hk h
  have hF : KF [] [] [10] [] [] S0 S0 := KF_rf
  unfold wp_X1_turnRound at h ⊢
  refine ⟨h.1, ?_⟩
  replace h := h.2
  intro z1 ez1
  replace h := h z1 ez1
  intro z2 ez2
  replace h := h z2 ez2
  obtain ⟨n9, h⟩ := h
  exact ⟨n9, kml_X1_turnRound_9 hk n9 _ hF h⟩
theorem km_X4_hears_50 {K K' : kS → Int32 → Prop} {S0 : kS} (hk : ∀ S1 r1, KF [13, 14, 15] [] [] [] [] S0 S1 → K S1 r1 → K' S1 r1) {x0 : Nat} {x1 : Int32} {x2 : Int32} {S : kS} (hF : KF [13, 14, 15] [] [] [] [] S0 S) (h : wp_X4_hears_50 K x0 x1 x2 S) : wp_X4_hears_50 K' x0 x1 x2 S := by
  unfold wp_X4_hears_50 at h ⊢
  refine ⟨h.1, ?_⟩
  replace h := h.2
  intro S13 eS13
  replace h := h S13 eS13
  replace hF := KF_i hF eS13 (by decide)
  refine ⟨h.1, ?_⟩
  replace h := h.2
  intro S14 eS14
  replace h := h S14 eS14
  replace hF := KF_i hF eS14 (by decide)
  exact hk _ _ hF h
theorem km_X4_hears (t0 : Nat) (a0 : Int32) (a1 : Int32) : KmI [13, 14, 15] [] [] [] [] (wp_X4_hears t0 a0 a1) := by
  intro S0 K K' hk h
  have hF : KF [13, 14, 15] [] [] [] [] S0 S0 := KF_rf
  unfold wp_X4_hears at h ⊢
  refine ⟨h.1, ?_⟩
  replace h := h.2
  intro z1 ez1
  replace h := h z1 ez1
  refine ⟨fun c => ?_, fun c => ?_⟩
  · replace h := h.1 c
    exact km_X4_hears_50 hk hF h
  · replace h := h.2 c
    refine ⟨fun c => ?_, fun c => ?_⟩
    · replace h := h.1 c
      exact km_X4_hears_50 hk hF h
    · replace h := h.2 c
      refine ⟨h.1, ?_⟩
      replace h := h.2
      intro z4 ez4
      replace h := h z4 ez4
      intro z5 ez5
      replace h := h z5 ez5
      refine ⟨h.1, ?_⟩
      replace h := h.2
      intro S6 eS6
      replace h := h S6 eS6
      replace hF := KF_i hF eS6 (by decide)
      refine ⟨h.1, ?_⟩
      replace h := h.2
      intro z7 ez7
      replace h := h z7 ez7
      intro z8 ez8
      replace h := h z8 ez8
      refine ⟨h.1, ?_⟩
      replace h := h.2
      intro S9 eS9
      replace h := h S9 eS9
      replace hF := KF_i hF eS9 (by decide)
      refine ⟨h.1, ?_⟩
      replace h := h.2
      intro z10 ez10
      replace h := h z10 ez10
      refine ⟨fun c => ?_, fun c => ?_⟩
      · replace h := h.1 c
        refine ⟨h.1, ?_⟩
        replace h := h.2
        intro S12 eS12
        replace h := h S12 eS12
        replace hF := KF_i hF eS12 (by decide)
        exact hk _ _ hF h
      · replace h := h.2 c
        exact hk _ _ hF h
theorem km_X1_report_145 {K K' : kS → Prop} {S0 : kS} (hk : ∀ S1, KF [5, 13, 14, 15, 38, 39] [12, 13, 25, 26, 27] [10] [] [] S0 S1 → K S1 → K' S1) {x0 : Nat} {x5 : Int32} {S : kS} (hF : KF [5, 13, 14, 15, 38, 39] [12, 13, 25, 26, 27] [10] [] [] S0 S) (h : wp_X1_report_145 K x0 x5 S) : wp_X1_report_145 K' x0 x5 S := by
  unfold wp_X1_report_145 at h ⊢
  refine ⟨h.1, ?_⟩
  replace h := h.2
  refine km_X1_turnRound _ _ _ _ _ (fun S31 hG h => ?_) h
  replace hF := KF_t hF hG (by decide) (by decide) (by decide) (by decide) (by decide) (by decide) (by decide) (by decide)
  exact hk _ hF h
theorem km_X1_report_137 {K K' : kS → Prop} {k39 k39' : Nat × Nat × Int32 × Option Nat × Int32 × kS → Prop} {S0 : kS} (hk : ∀ S1, KF [5, 13, 14, 15, 38, 39] [12, 13, 25, 26, 27] [10] [] [] S0 S1 → K S1 → K' S1) (hk39 : ∀ u : Nat × Nat × Int32 × Option Nat × Int32 × kS, KF [5, 13, 14, 15, 38, 39] [12, 13, 25, 26, 27] [10] [] [] S0 u.2.2.2.2.2 → k39 u → k39' u) {x0 : Nat} {x4 : Nat} {x5 : Int32} {x7 : Int32} {y0 : Option Nat} {S : kS} (hF : KF [5, 13, 14, 15, 38, 39] [12, 13, 25, 26, 27] [10] [] [] S0 S) (h : wp_X1_report_137 K k39 x0 x4 x5 x7 y0 S) : wp_X1_report_137 K' k39' x0 x4 x5 x7 y0 S := by
  unfold wp_X1_report_137 at h ⊢
  intro z30 ez30
  replace h := h z30 ez30
  exact hk39 _ hF h
theorem km_X1_report_69 {K K' : kS → Prop} {k39 k39' : Nat × Nat × Int32 × Option Nat × Int32 × kS → Prop} {S0 : kS} (hk : ∀ S1, KF [5, 13, 14, 15, 38, 39] [12, 13, 25, 26, 27] [10] [] [] S0 S1 → K S1 → K' S1) (hk39 : ∀ u : Nat × Nat × Int32 × Option Nat × Int32 × kS, KF [5, 13, 14, 15, 38, 39] [12, 13, 25, 26, 27] [10] [] [] S0 u.2.2.2.2.2 → k39 u → k39' u) {x0 : Nat} {x4 : Nat} {x5 : Int32} {x6 : Nat} {x7 : Int32} {S : kS} (hF : KF [5, 13, 14, 15, 38, 39] [12, 13, 25, 26, 27] [10] [] [] S0 S) (h : wp_X1_report_69 K k39 x0 x4 x5 x6 x7 S) : wp_X1_report_69 K' k39' x0 x4 x5 x6 x7 S := by
  unfold wp_X1_report_69 at h ⊢
  refine ⟨h.1, ?_⟩
  replace h := h.2
  refine km_X1_drop _ _ _ _ _ _ (fun S16 hG h => ?_) h
  replace hF := KF_t hF hG (by decide) (by decide) (by decide) (by decide) (by decide) (by decide) (by decide) (by decide)
  refine ⟨h.1, ?_⟩
  replace h := h.2
  intro z17 ez17
  replace h := h z17 ez17
  refine ⟨fun c => ?_, fun q18 c => ?_⟩
  · replace h := h.1 c
    refine ⟨h.1, ?_⟩
    replace h := h.2
    intro z19 ez19
    replace h := h z19 ez19
    refine ⟨h.1, ?_⟩
    replace h := h.2
    intro S20 eS20
    replace h := h S20 eS20
    replace hF := KF_i hF eS20 (by decide)
    refine ⟨h.1, ?_⟩
    replace h := h.2
    intro z21 ez21
    replace h := h z21 ez21
    refine ⟨h.1, ?_⟩
    replace h := h.2
    intro S22 eS22
    replace h := h S22 eS22
    replace hF := KF_i hF eS22 (by decide)
    exact km_X1_report_145 hk hF h
  · replace h := h.2 q18 c
    refine ⟨h.1, ?_⟩
    replace h := h.2
    intro z23 ez23
    replace h := h z23 ez23
    refine ⟨h.1, ?_⟩
    replace h := h.2
    intro z24 ez24
    replace h := h z24 ez24
    refine ⟨h.1, ?_⟩
    replace h := h.2
    intro z25 ez25
    replace h := h z25 ez25
    obtain ⟨q26, eq26, h9⟩ := h
    replace h := h9
    clear h9
    refine ⟨q26, eq26, ?_⟩
    refine ⟨h.1, ?_⟩
    replace h := h.2
    refine km_X4_hears _ _ _ _ _ _ (fun S27 r27 hG h => ?_) h
    replace hF := KF_t hF hG (by decide) (by decide) (by decide) (by decide) (by decide) (by decide) (by decide) (by decide)
    refine ⟨fun c => ?_, fun c => ?_⟩
    · replace h := h.1 c
      exact km_X1_report_137 hk hk39 hF h
    · replace h := h.2 c
      refine ⟨h.1, ?_⟩
      replace h := h.2
      intro z29 ez29
      replace h := h z29 ez29
      exact km_X1_report_137 hk hk39 hF h
theorem km_X1_report_39 {K K' : kS → Prop} {k39 k39' : Nat × Nat × Int32 × Option Nat × Int32 × kS → Prop} {S0 : kS} (hk : ∀ S1, KF [5, 13, 14, 15, 38, 39] [12, 13, 25, 26, 27] [10] [] [] S0 S1 → K S1 → K' S1) (hk39 : ∀ u : Nat × Nat × Int32 × Option Nat × Int32 × kS, KF [5, 13, 14, 15, 38, 39] [12, 13, 25, 26, 27] [10] [] [] S0 u.2.2.2.2.2 → k39 u → k39' u) {x0 : Nat} {x4 : Nat} {x5 : Int32} {x6 : Option Nat} {x7 : Int32} {S : kS} (hF : KF [5, 13, 14, 15, 38, 39] [12, 13, 25, 26, 27] [10] [] [] S0 S) (h : wp_X1_report_39 K k39 x0 x4 x5 x6 x7 S) : wp_X1_report_39 K' k39' x0 x4 x5 x6 x7 S := by
  unfold wp_X1_report_39 at h ⊢
  refine ⟨fun c => ?_, fun c => ?_⟩
  · replace h := h.1 c
    exact km_X1_report_145 hk hF h
  · replace h := h.2 c
    refine ⟨fun c => ?_, fun q10 c => ?_⟩
    · replace h := h.1 c
      exact km_X1_report_145 hk hF h
    · replace h := h.2 q10 c
      refine ⟨h.1, ?_⟩
      replace h := h.2
      intro z11 ez11
      replace h := h z11 ez11
      refine ⟨fun c => ?_, fun q12 c => ?_⟩
      · replace h := h.1 c
        exact km_X1_report_69 hk hk39 hF h
      · replace h := h.2 q12 c
        refine ⟨h.1, ?_⟩
        replace h := h.2
        intro z13 ez13
        replace h := h z13 ez13
        obtain ⟨q14, eq14, h9⟩ := h
        replace h := h9
        clear h9
        refine ⟨q14, eq14, ?_⟩
        refine ⟨h.1, ?_⟩
        replace h := h.2
        refine km_X2_remove _ _ _ _ _ (fun S15 hG h => ?_) h
        replace hF := KF_t hF hG (by decide) (by decide) (by decide) (by decide) (by decide) (by decide) (by decide) (by decide)
        exact km_X1_report_69 hk hk39 hF h
theorem kml_X1_report_39 {K K' : kS → Prop} {S0 : kS} (hk : ∀ S1, KF [5, 13, 14, 15, 38, 39] [12, 13, 25, 26, 27] [10] [] [] S0 S1 → K S1 → K' S1) : ∀ (n : Nat) (u : Nat × Nat × Int32 × Option Nat × Int32 × kS), KF [5, 13, 14, 15, 38, 39] [12, 13, 25, 26, 27] [10] [] [] S0 u.2.2.2.2.2 → it (ls_X1_report_39 K) n u → it (ls_X1_report_39 K') n u := by
  intro n
  induction n with
  | zero => exact fun _ _ h => h
  | succ n ih => exact fun u hF h => km_X1_report_39 hk ih hF h
theorem km_X1_report (t0 : Nat) (a0 : Nat) (a1 : Int32) (a2 : Int32) : KmV [5, 13, 14, 15, 38, 39] [12, 13, 25, 26, 27] [10] [] [] (wp_X1_report t0 a0 a1 a2) := by
  intro S0 K K' hk h
  have hF : KF [5, 13, 14, 15, 38, 39] [12, 13, 25, 26, 27] [10] [] [] S0 S0 := KF_rf
  unfold wp_X1_report at h ⊢
  refine ⟨h.1, ?_⟩
  replace h := h.2
  intro z1 ez1
  replace h := h z1 ez1
  obtain ⟨q2, eq2, h9⟩ := h
  replace h := h9
  clear h9
  refine ⟨q2, eq2, ?_⟩
  refine ⟨h.1, ?_⟩
  replace h := h.2
  intro z3 ez3
  replace h := h z3 ez3
  intro z4 ez4
  replace h := h z4 ez4
  refine ⟨h.1, ?_⟩
  replace h := h.2
  refine km_X1_plan _ _ _ _ _ (fun S5 hG h => ?_) h
  replace hF := KF_t hF hG (by decide) (by decide) (by decide) (by decide) (by decide) (by decide) (by decide) (by decide)
  refine ⟨h.1, ?_⟩
  replace h := h.2
  intro z6 ez6
  replace h := h z6 ez6
  refine ⟨h.1, ?_⟩
  replace h := h.2
  intro S7 eS7
  replace h := h S7 eS7
  replace hF := KF_i hF eS7 (by decide)
  refine ⟨h.1, ?_⟩
  replace h := h.2
  intro S8 eS8
  replace h := h S8 eS8
  replace hF := KF_i hF eS8 (by decide)
  obtain ⟨n9, h⟩ := h
  exact ⟨n9, kml_X1_report_39 hk n9 _ hF h⟩
theorem km_X1_tellParent (t0 : Nat) (a0 : Nat) : KmV [5, 13, 14, 15, 38, 39] [12, 13, 25, 26, 27] [10] [] [] (wp_X1_tellParent t0 a0) := by
  intro S0 K K' hk h
  have hF : KF [5, 13, 14, 15, 38, 39] [12, 13, 25, 26, 27] [10] [] [] S0 S0 := KF_rf
  unfold wp_X1_tellParent at h ⊢
  refine ⟨h.1, ?_⟩
  replace h := h.2
  intro z1 ez1
  replace h := h z1 ez1
  refine ⟨fun c => ?_, fun q2 c => ?_⟩
  · replace h := h.1 c
    exact hk _ hF h
  · replace h := h.2 q2 c
    refine ⟨h.1, ?_⟩
    replace h := h.2
    intro z3 ez3
    replace h := h z3 ez3
    refine ⟨fun c => ?_, fun c => ?_⟩
    · replace h := h.1 c
      refine ⟨h.1, ?_⟩
      replace h := h.2
      intro z5 ez5
      replace h := h z5 ez5
      refine ⟨fun c => ?_, fun c => ?_⟩
      · replace h := h.1 c
        refine ⟨h.1, ?_⟩
        replace h := h.2
        intro z7 ez7
        replace h := h z7 ez7
        refine ⟨h.1, ?_⟩
        replace h := h.2
        refine km_X1_report _ _ _ _ _ _ _ (fun S8 hG h => ?_) h
        replace hF := KF_t hF hG (by decide) (by decide) (by decide) (by decide) (by decide) (by decide) (by decide) (by decide)
        exact hk _ hF h
      · replace h := h.2 c
        refine ⟨h.1, ?_⟩
        replace h := h.2
        intro z9 ez9
        replace h := h z9 ez9
        refine ⟨h.1, ?_⟩
        replace h := h.2
        refine km_X1_report _ _ _ _ _ _ _ (fun S10 hG h => ?_) h
        replace hF := KF_t hF hG (by decide) (by decide) (by decide) (by decide) (by decide) (by decide) (by decide) (by decide)
        exact hk _ hF h
    · replace h := h.2 c
      exact hk _ hF h
theorem km_X1_enterRow (t0 : Nat) (a0 : Nat) : KmV [3, 30] [] [4] [] [] (wp_X1_enterRow t0 a0) := by
  intro S0 K K' hk h
  have hF : KF [3, 30] [] [4] [] [] S0 S0 := KF_rf
  unfold wp_X1_enterRow at h ⊢
  refine ⟨h.1, ?_⟩
  replace h := h.2
  intro z1 ez1
  replace h := h z1 ez1
  refine ⟨fun c => ?_, fun c => ?_⟩
  · replace h := h.1 c
    refine ⟨h.1, ?_⟩
    replace h := h.2
    intro S3 eS3
    replace h := h S3 eS3
    replace hF := KF_i hF eS3 (by decide)
    exact hk _ hF h
  · replace h := h.2 c
    refine ⟨h.1, ?_⟩
    replace h := h.2
    intro z4 ez4
    replace h := h z4 ez4
    have pz4 : ∃ o, S0.2.1 4 o = z4 := ⟨_, by rw [ez4, hF.2.1 4 (by decide)]⟩
    refine ⟨h.1, ?_⟩
    replace h := h.2
    intro z5 ez5
    replace h := h z5 ez5
    refine ⟨h.1, ?_⟩
    replace h := h.2
    intro z6 ez6
    replace h := h z6 ez6
    obtain ⟨q7, eq7, h9⟩ := h
    replace h := h9
    clear h9
    refine ⟨q7, eq7, ?_⟩
    refine ⟨h.1, ?_⟩
    replace h := h.2
    refine ⟨h.1, ?_⟩
    replace h := h.2
    intro S8 eS8
    replace h := h S8 eS8
    replace hF := KF_a (fid := 4) hF eS8 (by decide) (by rw [← eq7]; exact pz4)
    refine ⟨h.1, ?_⟩
    replace h := h.2
    intro z9 ez9
    replace h := h z9 ez9
    intro z10 ez10
    replace h := h z10 ez10
    refine ⟨h.1, ?_⟩
    replace h := h.2
    intro S11 eS11
    replace h := h S11 eS11
    replace hF := KF_i hF eS11 (by decide)
    refine ⟨h.1, ?_⟩
    replace h := h.2
    intro S12 eS12
    replace h := h S12 eS12
    replace hF := KF_i hF eS12 (by decide)
    exact hk _ hF h
theorem km_X1_settle (t0 : Nat) (a0 : Nat) : KmV [3, 30] [] [4] [] [] (wp_X1_settle t0 a0) := by
  intro S0 K K' hk h
  have hF : KF [3, 30] [] [4] [] [] S0 S0 := KF_rf
  unfold wp_X1_settle at h ⊢
  refine ⟨h.1, ?_⟩
  replace h := h.2
  intro z1 ez1
  replace h := h z1 ez1
  refine ⟨fun c => ?_, fun c => ?_⟩
  · replace h := h.1 c
    exact hk _ hF h
  · replace h := h.2 c
    refine ⟨h.1, ?_⟩
    replace h := h.2
    intro z3 ez3
    replace h := h z3 ez3
    refine ⟨fun c => ?_, fun c => ?_⟩
    · replace h := h.1 c
      exact hk _ hF h
    · replace h := h.2 c
      refine ⟨h.1, ?_⟩
      replace h := h.2
      intro z5 ez5
      replace h := h z5 ez5
      refine ⟨fun c => ?_, fun c => ?_⟩
      · replace h := h.1 c
        refine ⟨h.1, ?_⟩
        replace h := h.2
        intro S7 eS7
        replace h := h S7 eS7
        replace hF := KF_i hF eS7 (by decide)
        exact hk _ hF h
      · replace h := h.2 c
        refine ⟨h.1, ?_⟩
        replace h := h.2
        refine km_X1_enterRow _ _ _ _ _ (fun S8 hG h => ?_) h
        replace hF := KF_t hF hG (by decide) (by decide) (by decide) (by decide) (by decide) (by decide) (by decide) (by decide)
        exact hk _ hF h
theorem km_X1_leaveRow_38 {K K' : kS → Option Nat → Prop} {k38 k38' : Nat × Option Nat × Int32 × kS → Prop} {S0 : kS} (hk : ∀ S1 r1, KF [3] [] [4] [] [] S0 S1 → K S1 r1 → K' S1 r1) (hk38 : ∀ u : Nat × Option Nat × Int32 × kS, KF [3] [] [4] [] [] S0 u.2.2.2 → k38 u → k38' u) {x0 : Nat} {x2 : Option Nat} {x3 : Int32} {S : kS} (hF : KF [3] [] [4] [] [] S0 S) (h : wp_X1_leaveRow_38 K k38 x0 x2 x3 S) : wp_X1_leaveRow_38 K' k38' x0 x2 x3 S := by
  unfold wp_X1_leaveRow_38 at h ⊢
  refine ⟨h.1, ?_⟩
  replace h := h.2
  intro z13 ez13
  replace h := h z13 ez13
  refine ⟨fun c => ?_, fun c => ?_⟩
  · replace h := h.1 c
    exact hk _ _ hF h
  · replace h := h.2 c
    refine ⟨h.1, ?_⟩
    replace h := h.2
    intro z15 ez15
    replace h := h z15 ez15
    have pz15 : ∃ o, S0.2.1 4 o = z15 := ⟨_, by rw [ez15, hF.2.1 4 (by decide)]⟩
    refine ⟨h.1, ?_⟩
    replace h := h.2
    intro z16 ez16
    replace h := h z16 ez16
    intro z17 ez17
    replace h := h z17 ez17
    obtain ⟨q18, eq18, h9⟩ := h
    replace h := h9
    clear h9
    refine ⟨q18, eq18, ?_⟩
    refine ⟨h.1, ?_⟩
    replace h := h.2
    refine ⟨h.1, ?_⟩
    replace h := h.2
    intro z19 ez19
    replace h := h z19 ez19
    obtain ⟨q20, eq20, h9⟩ := h
    replace h := h9
    clear h9
    refine ⟨q20, eq20, ?_⟩
    refine ⟨h.1, ?_⟩
    replace h := h.2
    refine ⟨h.1, ?_⟩
    replace h := h.2
    intro S21 eS21
    replace h := h S21 eS21
    replace hF := KF_a (fid := 4) hF eS21 (by decide) (by rw [← eq20]; exact pz15)
    intro z22 ez22
    replace h := h z22 ez22
    exact hk38 _ hF h
theorem kml_X1_leaveRow_38 {K K' : kS → Option Nat → Prop} {S0 : kS} (hk : ∀ S1 r1, KF [3] [] [4] [] [] S0 S1 → K S1 r1 → K' S1 r1) : ∀ (n : Nat) (u : Nat × Option Nat × Int32 × kS), KF [3] [] [4] [] [] S0 u.2.2.2 → it (ls_X1_leaveRow_38 K) n u → it (ls_X1_leaveRow_38 K') n u := by
  intro n
  induction n with
  | zero => exact fun _ _ h => h
  | succ n ih => exact fun u hF h => km_X1_leaveRow_38 hk ih hF h
theorem km_X1_leaveRow_12 {K K' : kS → Option Nat → Prop} {S0 : kS} (hk : ∀ S1 r1, KF [3] [] [4] [] [] S0 S1 → K S1 r1 → K' S1 r1) {S : kS} (hF : KF [3] [] [4] [] [] S0 S) (h : wp_X1_leaveRow_12 K S) : wp_X1_leaveRow_12 K' S := by
  unfold wp_X1_leaveRow_12 at h ⊢
  exact hk _ _ hF h
theorem km_X1_leaveRow (t0 : Nat) (a0 : Int32) : KmO [3] [] [4] [] [] (wp_X1_leaveRow t0 a0) := by
  intro S0 K K' hk h
  have hF : KF [3] [] [4] [] [] S0 S0 := KF_rf
  unfold wp_X1_leaveRow at h ⊢
  refine ⟨fun c => ?_, fun c => ?_⟩
  · replace h := h.1 c
    exact km_X1_leaveRow_12 hk hF h
  · replace h := h.2 c
    refine ⟨h.1, ?_⟩
    replace h := h.2
    intro z2 ez2
    replace h := h z2 ez2
    refine ⟨fun c => ?_, fun c => ?_⟩
    · replace h := h.1 c
      refine ⟨h.1, ?_⟩
      replace h := h.2
      intro z4 ez4
      replace h := h z4 ez4
      refine ⟨h.1, ?_⟩
      replace h := h.2
      intro z5 ez5
      replace h := h z5 ez5
      obtain ⟨q6, eq6, h9⟩ := h
      replace h := h9
      clear h9
      refine ⟨q6, eq6, ?_⟩
      refine ⟨h.1, ?_⟩
      replace h := h.2
      refine ⟨h.1, ?_⟩
      replace h := h.2
      intro z7 ez7
      replace h := h z7 ez7
      obtain ⟨q8, eq8, h9⟩ := h
      replace h := h9
      clear h9
      refine ⟨q8, eq8, ?_⟩
      refine ⟨h.1, ?_⟩
      replace h := h.2
      refine ⟨h.1, ?_⟩
      replace h := h.2
      intro z9 ez9
      replace h := h z9 ez9
      refine ⟨h.1, ?_⟩
      replace h := h.2
      intro z10 ez10
      replace h := h z10 ez10
      intro z11 ez11
      replace h := h z11 ez11
      refine ⟨h.1, ?_⟩
      replace h := h.2
      intro S12 eS12
      replace h := h S12 eS12
      replace hF := KF_i hF eS12 (by decide)
      obtain ⟨n9, h⟩ := h
      exact ⟨n9, kml_X1_leaveRow_38 hk n9 _ hF h⟩
    · replace h := h.2 c
      exact km_X1_leaveRow_12 hk hF h
theorem km_X1_close_42 {K K' : kS → Prop} {S0 : kS} (hk : ∀ S1, KF [2, 3, 30, 37] [] [4] [] [] S0 S1 → K S1 → K' S1) {x0 : Nat} {x1 : Nat} {S : kS} (hF : KF [2, 3, 30, 37] [] [4] [] [] S0 S) (h : wp_X1_close_42 K x0 x1 S) : wp_X1_close_42 K' x0 x1 S := by
  unfold wp_X1_close_42 at h ⊢
  refine ⟨h.1, ?_⟩
  replace h := h.2
  intro S12 eS12
  replace h := h S12 eS12
  replace hF := KF_i hF eS12 (by decide)
  refine ⟨h.1, ?_⟩
  replace h := h.2
  intro z13 ez13
  replace h := h z13 ez13
  intro z14 ez14
  replace h := h z14 ez14
  refine ⟨h.1, ?_⟩
  replace h := h.2
  intro S15 eS15
  replace h := h S15 eS15
  replace hF := KF_i hF eS15 (by decide)
  refine ⟨h.1, ?_⟩
  replace h := h.2
  intro z16 ez16
  replace h := h z16 ez16
  refine ⟨fun c => ?_, fun q17 c => ?_⟩
  · replace h := h.1 c
    exact hk _ hF h
  · replace h := h.2 q17 c
    refine ⟨h.1, ?_⟩
    replace h := h.2
    intro z18 ez18
    replace h := h z18 ez18
    intro z19 ez19
    replace h := h z19 ez19
    refine ⟨h.1, ?_⟩
    replace h := h.2
    intro S20 eS20
    replace h := h S20 eS20
    replace hF := KF_i hF eS20 (by decide)
    refine ⟨h.1, ?_⟩
    replace h := h.2
    intro z21 ez21
    replace h := h z21 ez21
    refine ⟨fun c => ?_, fun c => ?_⟩
    · replace h := h.1 c
      exact hk _ hF h
    · replace h := h.2 c
      refine ⟨h.1, ?_⟩
      replace h := h.2
      intro z23 ez23
      replace h := h z23 ez23
      refine ⟨fun c => ?_, fun c => ?_⟩
      · replace h := h.1 c
        exact hk _ hF h
      · replace h := h.2 c
        refine ⟨h.1, ?_⟩
        replace h := h.2
        refine km_X1_enterRow _ _ _ _ _ (fun S25 hG h => ?_) h
        replace hF := KF_t hF hG (by decide) (by decide) (by decide) (by decide) (by decide) (by decide) (by decide) (by decide)
        exact hk _ hF h
theorem km_X1_close_36 {K K' : kS → Prop} {S0 : kS} (hk : ∀ S1, KF [2, 3, 30, 37] [] [4] [] [] S0 S1 → K S1 → K' S1) {x0 : Nat} {x1 : Nat} {x2 : Int32} {S : kS} (hF : KF [2, 3, 30, 37] [] [4] [] [] S0 S) (h : wp_X1_close_36 K x0 x1 x2 S) : wp_X1_close_36 K' x0 x1 x2 S := by
  unfold wp_X1_close_36 at h ⊢
  refine ⟨h.1, ?_⟩
  replace h := h.2
  refine km_X1_leaveRow _ _ _ _ _ (fun S11 o11 hG h => ?_) h
  replace hF := KF_t hF hG (by decide) (by decide) (by decide) (by decide) (by decide) (by decide) (by decide) (by decide)
  exact km_X1_close_42 hk hF h
theorem km_X1_close_9 {K K' : kS → Prop} {k9 k9' : Nat × Nat × Int32 × kS → Prop} {S0 : kS} (hk : ∀ S1, KF [2, 3, 30, 37] [] [4] [] [] S0 S1 → K S1 → K' S1) (hk9 : ∀ u : Nat × Nat × Int32 × kS, KF [2, 3, 30, 37] [] [4] [] [] S0 u.2.2.2 → k9 u → k9' u) {x0 : Nat} {x1 : Nat} {x2 : Int32} {S : kS} (hF : KF [2, 3, 30, 37] [] [4] [] [] S0 S) (h : wp_X1_close_9 K k9 x0 x1 x2 S) : wp_X1_close_9 K' k9' x0 x1 x2 S := by
  unfold wp_X1_close_9 at h ⊢
  refine ⟨h.1, ?_⟩
  replace h := h.2
  intro z3 ez3
  replace h := h z3 ez3
  refine ⟨fun c => ?_, fun c => ?_⟩
  · replace h := h.1 c
    exact km_X1_close_36 hk hF h
  · replace h := h.2 c
    refine ⟨h.1, ?_⟩
    replace h := h.2
    intro z5 ez5
    replace h := h z5 ez5
    obtain ⟨q6, eq6, h9⟩ := h
    replace h := h9
    clear h9
    refine ⟨q6, eq6, ?_⟩
    refine ⟨h.1, ?_⟩
    replace h := h.2
    refine ⟨h.1, ?_⟩
    replace h := h.2
    intro z7 ez7
    replace h := h z7 ez7
    refine ⟨h.1, ?_⟩
    replace h := h.2
    intro z8 ez8
    replace h := h z8 ez8
    refine ⟨fun c => ?_, fun c => ?_⟩
    · replace h := h.1 c
      exact km_X1_close_36 hk hF h
    · replace h := h.2 c
      intro z10 ez10
      replace h := h z10 ez10
      exact hk9 _ hF h
theorem kml_X1_close_9 {K K' : kS → Prop} {S0 : kS} (hk : ∀ S1, KF [2, 3, 30, 37] [] [4] [] [] S0 S1 → K S1 → K' S1) : ∀ (n : Nat) (u : Nat × Nat × Int32 × kS), KF [2, 3, 30, 37] [] [4] [] [] S0 u.2.2.2 → it (ls_X1_close_9 K) n u → it (ls_X1_close_9 K') n u := by
  intro n
  induction n with
  | zero => exact fun _ _ h => h
  | succ n ih => exact fun u hF h => km_X1_close_9 hk ih hF h
theorem km_X1_close (t0 : Nat) (a0 : Nat) : KmV [2, 3, 30, 37] [] [4] [] [] (wp_X1_close t0 a0) := by
  intro S0 K K' hk h
  have hF : KF [2, 3, 30, 37] [] [4] [] [] S0 S0 := KF_rf
  unfold wp_X1_close at h ⊢
  refine ⟨h.1, ?_⟩
  replace h := h.2
  intro z1 ez1
  replace h := h z1 ez1
  refine ⟨fun c => ?_, fun c => ?_⟩
  · replace h := h.1 c
    exact km_X1_close_42 hk hF h
  · replace h := h.2 c
    obtain ⟨n9, h⟩ := h
    exact ⟨n9, kml_X1_close_9 hk n9 _ hF h⟩
theorem km_X1_letGo (t0 : Nat) (a0 : Nat) (a1 : Int32) : KmV [5, 13] [12, 13, 25, 26, 27] [10] [] [] (wp_X1_letGo t0 a0 a1) := by
  intro S0 K K' hk h
  have hF : KF [5, 13] [12, 13, 25, 26, 27] [10] [] [] S0 S0 := KF_rf
  unfold wp_X1_letGo at h ⊢
  refine ⟨h.1, ?_⟩
  replace h := h.2
  intro z1 ez1
  replace h := h z1 ez1
  refine ⟨h.1, ?_⟩
  replace h := h.2
  refine km_X1_drop _ _ _ _ _ _ (fun S2 hG h => ?_) h
  replace hF := KF_t hF hG (by decide) (by decide) (by decide) (by decide) (by decide) (by decide) (by decide) (by decide)
  refine ⟨h.1, ?_⟩
  replace h := h.2
  refine km_X1_turnRound _ _ _ _ _ (fun S3 hG h => ?_) h
  replace hF := KF_t hF hG (by decide) (by decide) (by decide) (by decide) (by decide) (by decide) (by decide) (by decide)
  exact hk _ hF h
