
theorem koT_X3_startsStatement {gA gB gC : Nat} (a0 : Int32) : Km3I gA gB gC (wT_X3_startsStatement a0) := by
  intro S0 K K' hC hk h
  have hF : KO gA gB gC S0 S0 := KO_rf
  unfold wT_X3_startsStatement at h ⊢
  refine ⟨fun c => ?_, fun c => ?_⟩
  · replace h := h.1 c
    exact hk _ _ hF h
  · replace h := h.2 c
    refine ⟨fun c => ?_, fun c => ?_⟩
    · replace h := h.1 c
      exact hk _ _ hF h
    · replace h := h.2 c
      refine ⟨fun c => ?_, fun c => ?_⟩
      · replace h := h.1 c
        exact hk _ _ hF h
      · replace h := h.2 c
        refine ⟨fun c => ?_, fun c => ?_⟩
        · replace h := h.1 c
          exact hk _ _ hF h
        · replace h := h.2 c
          exact hk _ _ hF h
theorem koT_X7_markOutward_6 {gA gB gC : Nat} {K K' : kS → Prop} {k6 k6' : Nat × Int32 × Int32 × Int32 × Int32 × kS → Prop} {S0 : kS} (hC : CL5 gA gB gC S0) (hk : ∀ S1, KO gA gB gC S0 S1 → K S1 → K' S1) (hk6 : ∀ u : Nat × Int32 × Int32 × Int32 × Int32 × kS, (u.1 = gC) → KO gA gB gC S0 u.2.2.2.2.2 → k6 u → k6' u) {x0 : Nat} {x2 : Int32} {x3 : Int32} {x4 : Int32} {x5 : Int32} {S : kS} (m_x0 : x0 = gC) (hF : KO gA gB gC S0 S) (h : wT_X7_markOutward_6 K k6 x0 x2 x3 x4 x5 S) : wT_X7_markOutward_6 K' k6' x0 x2 x3 x4 x5 S := by
  unfold wT_X7_markOutward_6 at h ⊢
  refine ⟨fun c => ?_, fun c => ?_⟩
  · replace h := h.1 c
    exact hk _ hF h
  · replace h := h.2 c
    refine ⟨fun c => ?_, fun c => ?_⟩
    · replace h := h.1 c
      exact hk _ hF h
    · replace h := h.2 c
      refine ⟨fun c => ?_, fun c => ?_⟩
      · replace h := h.1 c
        exact hk _ hF h
      · replace h := h.2 c
        intro z4 ez4
        replace h := h z4 ez4
        have oz_z4 : ∀ b, z4 = some b → OW9 gA gB gC S0 b := fun b hb => ozl (f := 49) hF (by decide) (by first | exact Or.inl (by assumption) | exact Or.inr (Or.inl (by assumption)) | exact Or.inr (Or.inr (by assumption))) ez4 hb
        refine ⟨h.1, ?_⟩
        replace h := h.2
        intro z5 ez5
        replace h := h z5 ez5
        intro q6 eq6
        replace h := h q6 eq6
        refine ⟨h.1, ?_⟩
        replace h := h.2
        intro z7 ez7
        replace h := h z7 ez7
        intro z8 ez8
        replace h := h z8 ez8
        refine ⟨h.1, ?_⟩
        replace h := h.2
        intro S9 eS9
        replace h := h S9 eS9
        replace hF := KO_a hF eS9 (oz_z4 _ eq6)
        intro z10 ez10
        replace h := h z10 ez10
        refine ⟨h.1, ?_⟩
        replace h := h.2
        intro z11 ez11
        replace h := h z11 ez11
        intro q12 eq12
        replace h := h q12 eq12
        refine ⟨h.1, ?_⟩
        replace h := h.2
        intro z13 ez13
        replace h := h z13 ez13
        intro z14 ez14
        replace h := h z14 ez14
        exact hk6 _ (by first | assumption | exact fun b hb => (by cases hb; assumption)) hF h
theorem kolT_X7_markOutward_6 {gA gB gC : Nat} {K K' : kS → Prop} {S0 : kS} (hC : CL5 gA gB gC S0) (hk : ∀ S1, KO gA gB gC S0 S1 → K S1 → K' S1) : ∀ (n : Nat) (u : Nat × Int32 × Int32 × Int32 × Int32 × kS), (u.1 = gC) → KO gA gB gC S0 u.2.2.2.2.2 → it (lT_X7_markOutward_6 K) n u → it (lT_X7_markOutward_6 K') n u := by
  intro n
  induction n with
  | zero => exact fun _ _ _ h => h
  | succ n ih => exact fun u m0 hF h => koT_X7_markOutward_6 hC hk ih m0 hF h
theorem koT_X7_markOutward {gA gB gC : Nat} (t0 : Nat) (a0 : Int32) (a1 : Int32) (a2 : Int32) (m_t0 : t0 = gC) : Km5V gA gB gC (wT_X7_markOutward t0 a0 a1 a2) := by
  intro S0 K K' hC hk h
  have hF : KO gA gB gC S0 S0 := KO_rf
  unfold wT_X7_markOutward at h ⊢
  obtain ⟨n9, h⟩ := h
  exact ⟨n9, kolT_X7_markOutward_6 hC hk n9 _ (by first | assumption | exact fun b hb => (by cases hb; assumption)) hF h⟩
theorem koT_X3_leftLoop_83 {gA gB gC : Nat} {K K' : kS → Prop} {S0 : kS} (hC : CL3 gA gB gC S0) (hk : ∀ S1, KO gA gB gC S0 S1 → K S1 → K' S1) {y0 : Option Nat} {y1 : Int32} {y2 : Int32} {y3 : Int32} {S : kS} (mz_y0 : ∀ b, y0 = some b → b = gC) (hF : KO gA gB gC S0 S) (h : wT_X3_leftLoop_83 K y0 y1 y2 y3 S) : wT_X3_leftLoop_83 K' y0 y1 y2 y3 S := by
  unfold wT_X3_leftLoop_83 at h ⊢
  obtain ⟨q19, eq19, h9⟩ := h
  replace h := h9
  clear h9
  refine ⟨q19, eq19, ?_⟩
  have m_q19 := mz_y0 q19 eq19
  refine koT_X7_markOutward _ _ _ _ (by assumption) _ _ _ (CL3_5 hC hF) (fun S20 hG h => ?_) h
  replace hF := KO_t hF hG
  exact hk _ hF h
theorem koT_X3_leftLoop_45 {gA gB gC : Nat} {K K' : kS → Prop} {S0 : kS} (hC : CL3 gA gB gC S0) (hk : ∀ S1, KO gA gB gC S0 S1 → K S1 → K' S1) {x0 : Nat} {x1 : Int32} {y0 : Nat} {y1 : Int32} {S : kS} (m_x0 : x0 = gA) (m_y0 : y0 = gA) (hF : KO gA gB gC S0 S) (h : wT_X3_leftLoop_45 K x0 x1 y0 y1 S) : wT_X3_leftLoop_45 K' x0 x1 y0 y1 S := by
  unfold wT_X3_leftLoop_45 at h ⊢
  intro z8 ez8
  replace h := h z8 ez8
  refine koT_X3_emit _ _ _ (by assumption) _ _ _ (CL3_k hC hF) (fun S9 r9 hG h => ?_) h
  replace hF := KO_t hF hG
  intro z10 ez10
  replace h := h z10 ez10
  have mz_z10 : ∀ b, z10 = some b → b = gC := fun b hb => mz16 hF hC (by assumption) ez10 hb
  intro z11 ez11
  replace h := h z11 ez11
  intro z12 ez12
  replace h := h z12 ez12
  have mz_z12 : ∀ b, z12 = some b → b = gC := fun b hb => mz16 hF hC (by assumption) ez12 hb
  obtain ⟨q13, eq13, h9⟩ := h
  replace h := h9
  clear h9
  refine ⟨q13, eq13, ?_⟩
  have m_q13 := mz_z12 q13 eq13
  intro z14 ez14
  replace h := h z14 ez14
  intro z15 ez15
  replace h := h z15 ez15
  intro q16 eq16
  replace h := h q16 eq16
  refine ⟨h.1, ?_⟩
  replace h := h.2
  intro z17 ez17
  replace h := h z17 ez17
  refine ⟨fun c => ?_, fun c => ?_⟩
  · replace h := h.1 c
    exact koT_X3_leftLoop_83 hC hk (by first | assumption | exact fun b hb => (by cases hb; assumption)) hF h
  · replace h := h.2 c
    exact koT_X3_leftLoop_83 hC hk (by first | assumption | exact fun b hb => (by cases hb; assumption)) hF h
theorem koT_X3_leftLoop_15 {gA gB gC : Nat} {K K' : kS → Prop} {S0 : kS} (hC : CL3 gA gB gC S0) (hk : ∀ S1, KO gA gB gC S0 S1 → K S1 → K' S1) {x0 : Nat} {y0 : Int32} {S : kS} (m_x0 : x0 = gA) (hF : KO gA gB gC S0 S) (h : wT_X3_leftLoop_15 K x0 y0 S) : wT_X3_leftLoop_15 K' x0 y0 S := by
  unfold wT_X3_leftLoop_15 at h ⊢
  intro z3 ez3
  replace h := h z3 ez3
  refine ⟨fun c => ?_, fun c => ?_⟩
  · replace h := h.1 c
    refine koT_X3_step _ (by assumption) _ _ _ (CL3_k hC hF) (fun S5 hG h => ?_) h
    replace hF := KO_t hF hG
    refine ⟨fun c => ?_, fun c => ?_⟩
    · replace h := h.1 c
      exact koT_X3_leftLoop_45 hC hk (by first | assumption | exact fun b hb => (by cases hb; assumption)) (by first | assumption | exact fun b hb => (by cases hb; assumption)) hF h
    · replace h := h.2 c
      exact koT_X3_leftLoop_45 hC hk (by first | assumption | exact fun b hb => (by cases hb; assumption)) (by first | assumption | exact fun b hb => (by cases hb; assumption)) hF h
  · replace h := h.2 c
    refine koT_X3_wrong _ _ (by assumption) _ _ _ (CL3_k hC hF) (fun S7 hG h => ?_) h
    replace hF := KO_t hF hG
    exact hk _ hF h
theorem koT_X3_leftLoop {gA gB gC : Nat} (t0 : Nat) (m_t0 : t0 = gA) : Km3V gA gB gC (wT_X3_leftLoop t0) := by
  intro S0 K K' hC hk h
  have hF : KO gA gB gC S0 S0 := KO_rf
  unfold wT_X3_leftLoop at h ⊢
  refine koT_X3_kind _ (by assumption) _ _ _ (CL3_k hC hF) (fun S1 r1 hG h => ?_) h
  replace hF := KO_t hF hG
  refine ⟨fun c => ?_, fun c => ?_⟩
  · replace h := h.1 c
    exact koT_X3_leftLoop_15 hC hk (by first | assumption | exact fun b hb => (by cases hb; assumption)) hF h
  · replace h := h.2 c
    exact koT_X3_leftLoop_15 hC hk (by first | assumption | exact fun b hb => (by cases hb; assumption)) hF h
theorem koT_X7_newLoop {gA gB gC : Nat} (t0 : Nat) (a0 : Int32) (a1 : Int32) (m_t0 : t0 = gC) : Km5I gA gB gC (wT_X7_newLoop t0 a0 a1) := by
  intro S0 K K' hC hk h
  have hF : KO gA gB gC S0 S0 := KO_rf
  unfold wT_X7_newLoop at h ⊢
  intro z1 ez1
  replace h := h z1 ez1
  refine ⟨fun c => ?_, fun c => ?_⟩
  · replace h := h.1 c
    intro z3 ez3
    replace h := h z3 ez3
    have oz_z3 : ∀ b, z3 = some b → OW9 gA gB gC S0 b := fun b hb => ozl (f := 50) hF (by decide) (by first | exact Or.inl (by assumption) | exact Or.inr (Or.inl (by assumption)) | exact Or.inr (Or.inr (by assumption))) ez3 hb
    intro z4 ez4
    replace h := h z4 ez4
    intro q5 eq5
    replace h := h q5 eq5
    refine ⟨h.1, ?_⟩
    replace h := h.2
    intro S6 eS6
    replace h := h S6 eS6
    replace hF := KO_a hF eS6 (oz_z3 _ eq5)
    intro z7 ez7
    replace h := h z7 ez7
    have oz_z7 : ∀ b, z7 = some b → OW9 gA gB gC S0 b := fun b hb => ozl (f := 51) hF (by decide) (by first | exact Or.inl (by assumption) | exact Or.inr (Or.inl (by assumption)) | exact Or.inr (Or.inr (by assumption))) ez7 hb
    intro z8 ez8
    replace h := h z8 ez8
    intro q9 eq9
    replace h := h q9 eq9
    refine ⟨h.1, ?_⟩
    replace h := h.2
    intro S10 eS10
    replace h := h S10 eS10
    replace hF := KO_a hF eS10 (oz_z7 _ eq9)
    intro z11 ez11
    replace h := h z11 ez11
    intro z12 ez12
    replace h := h z12 ez12
    intro S13 eS13
    replace h := h S13 eS13
    replace hF := KO_i hF eS13 (by first | exact Or.inl (by assumption) | exact Or.inr (Or.inl (by assumption)) | exact Or.inr (Or.inr (by assumption)))
    intro z14 ez14
    replace h := h z14 ez14
    intro z15 ez15
    replace h := h z15 ez15
    exact hk _ _ hF h
  · replace h := h.2 c
    exact hk _ _ hF h
theorem koT_X3_returned_12 {gA gB gC : Nat} {K K' : kS → Prop} {S0 : kS} (hC : CL3 gA gB gC S0) (hk : ∀ S1, KO gA gB gC S0 S1 → K S1 → K' S1) {x0 : Nat} {S : kS} (m_x0 : x0 = gA) (hF : KO gA gB gC S0 S) (h : wT_X3_returned_12 K x0 S) : wT_X3_returned_12 K' x0 S := by
  unfold wT_X3_returned_12 at h ⊢
  refine koT_X3_step _ (by assumption) _ _ _ (CL3_k hC hF) (fun S4 hG h => ?_) h
  replace hF := KO_t hF hG
  refine kxT_X3_expression _ _ (by assumption) _ _ _ (CL3_k hC hF) (fun S5 hG h => ?_) h
  replace hF := KO_t hF hG
  intro z6 ez6
  replace h := h z6 ez6
  have mz_z6 : ∀ b, z6 = some b → b = gB := fun b hb => mz15 hF hC (by assumption) ez6 hb
  obtain ⟨q7, eq7, h9⟩ := h
  replace h := h9
  clear h9
  refine ⟨q7, eq7, ?_⟩
  have m_q7 := mz_z6 q7 eq7
  intro z8 ez8
  replace h := h z8 ez8
  intro z9 ez9
  replace h := h z9 ez9
  refine koT_X3_emit _ _ _ (by assumption) _ _ _ (CL3_k hC hF) (fun S10 r10 hG h => ?_) h
  replace hF := KO_t hF hG
  exact hk _ hF h
theorem koT_X3_returned {gA gB gC : Nat} (t0 : Nat) (m_t0 : t0 = gA) : Km3V gA gB gC (wT_X3_returned t0) := by
  intro S0 K K' hC hk h
  have hF : KO gA gB gC S0 S0 := KO_rf
  unfold wT_X3_returned at h ⊢
  intro z1 ez1
  replace h := h z1 ez1
  refine ⟨fun c => ?_, fun c => ?_⟩
  · replace h := h.1 c
    exact koT_X3_returned_12 hC hk (by first | assumption | exact fun b hb => (by cases hb; assumption)) hF h
  · replace h := h.2 c
    refine koT_X3_wrong _ _ (by assumption) _ _ _ (CL3_k hC hF) (fun S3 hG h => ?_) h
    replace hF := KO_t hF hG
    exact koT_X3_returned_12 hC hk (by first | assumption | exact fun b hb => (by cases hb; assumption)) hF h
theorem koT_X7_mark {gA gB gC : Nat} (t0 : Nat) (a0 : Int32) (a1 : Int32) (m_t0 : t0 = gC) : Km5V gA gB gC (wT_X7_mark t0 a0 a1) := by
  intro S0 K K' hC hk h
  have hF : KO gA gB gC S0 S0 := KO_rf
  unfold wT_X7_mark at h ⊢
  intro z1 ez1
  replace h := h z1 ez1
  have oz_z1 : ∀ b, z1 = some b → OW9 gA gB gC S0 b := fun b hb => ozl (f := 49) hF (by decide) (by first | exact Or.inl (by assumption) | exact Or.inr (Or.inl (by assumption)) | exact Or.inr (Or.inr (by assumption))) ez1 hb
  intro q2 eq2
  replace h := h q2 eq2
  refine ⟨h.1, ?_⟩
  replace h := h.2
  intro z3 ez3
  replace h := h z3 ez3
  intro z4 ez4
  replace h := h z4 ez4
  refine ⟨h.1, ?_⟩
  replace h := h.2
  intro S5 eS5
  replace h := h S5 eS5
  replace hF := KO_a hF eS5 (oz_z1 _ eq2)
  exact hk _ hF h
theorem koT_X7_newTry_48 {gA gB gC : Nat} {K K' : kS → Int32 → Prop} {S0 : kS} (hC : CL5 gA gB gC S0) (hk : ∀ S1 r1, KO gA gB gC S0 S1 → K S1 r1 → K' S1 r1) {x0 : Nat} {x2 : Int32} {y0 : Option Nat} {y1 : Int32} {y2 : Int32} {S : kS} (m_x0 : x0 = gC) (oz_y0 : ∀ b, y0 = some b → OW9 gA gB gC S0 b) (hF : KO gA gB gC S0 S) (h : wT_X7_newTry_48 K x0 x2 y0 y1 y2 S) : wT_X7_newTry_48 K' x0 x2 y0 y1 y2 S := by
  unfold wT_X7_newTry_48 at h ⊢
  intro q15 eq15
  replace h := h q15 eq15
  refine ⟨h.1, ?_⟩
  replace h := h.2
  intro S16 eS16
  replace h := h S16 eS16
  replace hF := KO_a hF eS16 (oz_y0 _ eq15)
  intro z17 ez17
  replace h := h z17 ez17
  have oz_z17 : ∀ b, z17 = some b → OW9 gA gB gC S0 b := fun b hb => ozl (f := 45) hF (by decide) (by first | exact Or.inl (by assumption) | exact Or.inr (Or.inl (by assumption)) | exact Or.inr (Or.inr (by assumption))) ez17 hb
  intro z18 ez18
  replace h := h z18 ez18
  intro q19 eq19
  replace h := h q19 eq19
  refine ⟨h.1, ?_⟩
  replace h := h.2
  intro S20 eS20
  replace h := h S20 eS20
  replace hF := KO_a hF eS20 (oz_z17 _ eq19)
  intro z21 ez21
  replace h := h z21 ez21
  have oz_z21 : ∀ b, z21 = some b → OW9 gA gB gC S0 b := fun b hb => ozl (f := 49) hF (by decide) (by first | exact Or.inl (by assumption) | exact Or.inr (Or.inl (by assumption)) | exact Or.inr (Or.inr (by assumption))) ez21 hb
  intro z22 ez22
  replace h := h z22 ez22
  intro q23 eq23
  replace h := h q23 eq23
  refine ⟨h.1, ?_⟩
  replace h := h.2
  intro S24 eS24
  replace h := h S24 eS24
  replace hF := KO_a hF eS24 (oz_z21 _ eq23)
  intro z25 ez25
  replace h := h z25 ez25
  intro z26 ez26
  replace h := h z26 ez26
  intro S27 eS27
  replace h := h S27 eS27
  replace hF := KO_i hF eS27 (by first | exact Or.inl (by assumption) | exact Or.inr (Or.inl (by assumption)) | exact Or.inr (Or.inr (by assumption)))
  intro z28 ez28
  replace h := h z28 ez28
  intro z29 ez29
  replace h := h z29 ez29
  exact hk _ _ hF h
theorem koT_X7_newTry {gA gB gC : Nat} (t0 : Nat) (a0 : Int32) (a1 : Int32) (m_t0 : t0 = gC) : Km5I gA gB gC (wT_X7_newTry t0 a0 a1) := by
  intro S0 K K' hC hk h
  have hF : KO gA gB gC S0 S0 := KO_rf
  unfold wT_X7_newTry at h ⊢
  intro z1 ez1
  replace h := h z1 ez1
  refine ⟨fun c => ?_, fun c => ?_⟩
  · replace h := h.1 c
    intro z3 ez3
    replace h := h z3 ez3
    have oz_z3 : ∀ b, z3 = some b → OW9 gA gB gC S0 b := fun b hb => ozl (f := 43) hF (by decide) (by first | exact Or.inl (by assumption) | exact Or.inr (Or.inl (by assumption)) | exact Or.inr (Or.inr (by assumption))) ez3 hb
    intro z4 ez4
    replace h := h z4 ez4
    intro q5 eq5
    replace h := h q5 eq5
    refine ⟨h.1, ?_⟩
    replace h := h.2
    intro S6 eS6
    replace h := h S6 eS6
    replace hF := KO_a hF eS6 (oz_z3 _ eq5)
    intro z7 ez7
    replace h := h z7 ez7
    have oz_z7 : ∀ b, z7 = some b → OW9 gA gB gC S0 b := fun b hb => ozl (f := 44) hF (by decide) (by first | exact Or.inl (by assumption) | exact Or.inr (Or.inl (by assumption)) | exact Or.inr (Or.inr (by assumption))) ez7 hb
    intro z8 ez8
    replace h := h z8 ez8
    refine ⟨fun c => ?_, fun c => ?_⟩
    · replace h := h.1 c
      intro z10 ez10
      replace h := h z10 ez10
      refine ⟨h.1, ?_⟩
      replace h := h.2
      intro z11 ez11
      replace h := h z11 ez11
      intro q12 eq12
      replace h := h q12 eq12
      refine ⟨h.1, ?_⟩
      replace h := h.2
      intro z13 ez13
      replace h := h z13 ez13
      intro z14 ez14
      replace h := h z14 ez14
      exact koT_X7_newTry_48 hC hk (by first | assumption | exact fun b hb => (by cases hb; assumption)) (by first | assumption | exact fun b hb => (by cases hb; assumption)) hF h
    · replace h := h.2 c
      exact koT_X7_newTry_48 hC hk (by first | assumption | exact fun b hb => (by cases hb; assumption)) (by first | assumption | exact fun b hb => (by cases hb; assumption)) hF h
  · replace h := h.2 c
    exact hk _ _ hF h
theorem koT_X3_finished {gA gB gC : Nat} {r_X3_block : Nat → Int32 → kS → (kS → Prop) → Prop} (hr_X3_block : ∀ t0 : Nat, ∀ a0 : Int32, t0 = gA → Km3V gA gB gC (r_X3_block t0 a0)) (t0 : Nat) (a0 : Int32) (a1 : Int32) (m_t0 : t0 = gA) : Km3V gA gB gC (wT_X3_finished r_X3_block t0 a0 a1) := by
  intro S0 K K' hC hk h
  have hF : KO gA gB gC S0 S0 := KO_rf
  unfold wT_X3_finished at h ⊢
  intro z1 ez1
  replace h := h z1 ez1
  intro S2 eS2
  replace h := h S2 eS2
  replace hF := KO_i hF eS2 (by first | exact Or.inl (by assumption) | exact Or.inr (Or.inl (by assumption)) | exact Or.inr (Or.inr (by assumption)))
  intro z3 ez3
  replace h := h z3 ez3
  intro z4 ez4
  replace h := h z4 ez4
  intro S5 eS5
  replace h := h S5 eS5
  replace hF := KO_i hF eS5 (by first | exact Or.inl (by assumption) | exact Or.inr (Or.inl (by assumption)) | exact Or.inr (Or.inr (by assumption)))
  intro z6 ez6
  replace h := h z6 ez6
  have mz_z6 : ∀ b, z6 = some b → b = gC := fun b hb => mz16 hF hC (by assumption) ez6 hb
  obtain ⟨q7, eq7, h9⟩ := h
  replace h := h9
  clear h9
  refine ⟨q7, eq7, ?_⟩
  have m_q7 := mz_z6 q7 eq7
  intro z8 ez8
  replace h := h z8 ez8
  have oz_z8 : ∀ b, z8 = some b → OW9 gA gB gC S0 b := fun b hb => ozl (f := 47) hF (by decide) (by first | exact Or.inl (by assumption) | exact Or.inr (Or.inl (by assumption)) | exact Or.inr (Or.inr (by assumption))) ez8 hb
  intro z9 ez9
  replace h := h z9 ez9
  have mz_z9 : ∀ b, z9 = some b → b = gB := fun b hb => mz15 hF hC (by assumption) ez9 hb
  obtain ⟨q10, eq10, h9⟩ := h
  replace h := h9
  clear h9
  refine ⟨q10, eq10, ?_⟩
  have m_q10 := mz_z9 q10 eq10
  intro z11 ez11
  replace h := h z11 ez11
  intro q12 eq12
  replace h := h q12 eq12
  refine ⟨h.1, ?_⟩
  replace h := h.2
  intro S13 eS13
  replace h := h S13 eS13
  replace hF := KO_a hF eS13 (oz_z8 _ eq12)
  refine hr_X3_block _ _ (by assumption) _ _ _ (CL3_k hC hF) (fun S14 hG h => ?_) h
  replace hF := KO_t hF hG
  refine koT_X3_emit _ _ _ (by assumption) _ _ _ (CL3_k hC hF) (fun S15 r15 hG h => ?_) h
  replace hF := KO_t hF hG
  intro z16 ez16
  replace h := h z16 ez16
  intro z17 ez17
  replace h := h z17 ez17
  intro S18 eS18
  replace h := h S18 eS18
  replace hF := KO_i hF eS18 (by first | exact Or.inl (by assumption) | exact Or.inr (Or.inl (by assumption)) | exact Or.inr (Or.inr (by assumption)))
  intro S19 eS19
  replace h := h S19 eS19
  replace hF := KO_i hF eS19 (by first | exact Or.inl (by assumption) | exact Or.inr (Or.inl (by assumption)) | exact Or.inr (Or.inr (by assumption)))
  exact hk _ hF h
theorem koT_X3_tried_170 {gA gB gC : Nat} {r_X3_block : Nat → Int32 → kS → (kS → Prop) → Prop} (hr_X3_block : ∀ t0 : Nat, ∀ a0 : Int32, t0 = gA → Km3V gA gB gC (r_X3_block t0 a0)) {K K' : kS → Prop} {S0 : kS} (hC : CL3 gA gB gC S0) (hk : ∀ S1, KO gA gB gC S0 S1 → K S1 → K' S1) {x0 : Nat} {x2 : Int32} {x3 : Int32} {S : kS} (m_x0 : x0 = gA) (hF : KO gA gB gC S0 S) (h : wT_X3_tried_170 r_X3_block K x0 x2 x3 S) : wT_X3_tried_170 r_X3_block K' x0 x2 x3 S := by
  unfold wT_X3_tried_170 at h ⊢
  intro z44 ez44
  replace h := h z44 ez44
  have mz_z44 : ∀ b, z44 = some b → b = gC := fun b hb => mz16 hF hC (by assumption) ez44 hb
  obtain ⟨q45, eq45, h9⟩ := h
  replace h := h9
  clear h9
  refine ⟨q45, eq45, ?_⟩
  have m_q45 := mz_z44 q45 eq45
  intro z46 ez46
  replace h := h z46 ez46
  have oz_z46 : ∀ b, z46 = some b → OW9 gA gB gC S0 b := fun b hb => ozl (f := 48) hF (by decide) (by first | exact Or.inl (by assumption) | exact Or.inr (Or.inl (by assumption)) | exact Or.inr (Or.inr (by assumption))) ez46 hb
  intro z47 ez47
  replace h := h z47 ez47
  have mz_z47 : ∀ b, z47 = some b → b = gB := fun b hb => mz15 hF hC (by assumption) ez47 hb
  obtain ⟨q48, eq48, h9⟩ := h
  replace h := h9
  clear h9
  refine ⟨q48, eq48, ?_⟩
  have m_q48 := mz_z47 q48 eq48
  intro z49 ez49
  replace h := h z49 ez49
  intro q50 eq50
  replace h := h q50 eq50
  refine ⟨h.1, ?_⟩
  replace h := h.2
  intro S51 eS51
  replace h := h S51 eS51
  replace hF := KO_a hF eS51 (oz_z46 _ eq50)
  intro S52 eS52
  replace h := h S52 eS52
  replace hF := KO_i hF eS52 (by first | exact Or.inl (by assumption) | exact Or.inr (Or.inl (by assumption)) | exact Or.inr (Or.inr (by assumption)))
  exact hk _ hF h
theorem koT_X3_tried_136 {gA gB gC : Nat} {r_X3_block : Nat → Int32 → kS → (kS → Prop) → Prop} (hr_X3_block : ∀ t0 : Nat, ∀ a0 : Int32, t0 = gA → Km3V gA gB gC (r_X3_block t0 a0)) {K K' : kS → Prop} {S0 : kS} (hC : CL3 gA gB gC S0) (hk : ∀ S1, KO gA gB gC S0 S1 → K S1 → K' S1) {x0 : Nat} {x1 : Int32} {x2 : Int32} {x3 : Int32} {S : kS} (m_x0 : x0 = gA) (hF : KO gA gB gC S0 S) (h : wT_X3_tried_136 r_X3_block K x0 x1 x2 x3 S) : wT_X3_tried_136 r_X3_block K' x0 x1 x2 x3 S := by
  unfold wT_X3_tried_136 at h ⊢
  refine koT_X3_take _ _ (by assumption) _ _ _ (CL3_k hC hF) (fun S35 r35 hG h => ?_) h
  replace hF := KO_t hF hG
  refine ⟨fun c => ?_, fun c => ?_⟩
  · replace h := h.1 c
    exact koT_X3_tried_170 hr_X3_block hC hk (by first | assumption | exact fun b hb => (by cases hb; assumption)) hF h
  · replace h := h.2 c
    intro z37 ez37
    replace h := h z37 ez37
    intro z38 ez38
    replace h := h z38 ez38
    intro S39 eS39
    replace h := h S39 eS39
    replace hF := KO_i hF eS39 (by first | exact Or.inl (by assumption) | exact Or.inr (Or.inl (by assumption)) | exact Or.inr (Or.inr (by assumption)))
    intro z40 ez40
    replace h := h z40 ez40
    have mz_z40 : ∀ b, z40 = some b → b = gC := fun b hb => mz16 hF hC (by assumption) ez40 hb
    obtain ⟨q41, eq41, h9⟩ := h
    replace h := h9
    clear h9
    refine ⟨q41, eq41, ?_⟩
    have m_q41 := mz_z40 q41 eq41
    refine koT_X7_mark _ _ _ (by assumption) _ _ _ (CL3_5 hC hF) (fun S42 hG h => ?_) h
    replace hF := KO_t hF hG
    refine koT_X3_finished hr_X3_block _ _ _ (by assumption) _ _ _ (CL3_k hC hF) (fun S43 hG h => ?_) h
    replace hF := KO_t hF hG
    exact koT_X3_tried_170 hr_X3_block hC hk (by first | assumption | exact fun b hb => (by cases hb; assumption)) hF h
theorem koT_X3_tried_76 {gA gB gC : Nat} {r_X3_block : Nat → Int32 → kS → (kS → Prop) → Prop} (hr_X3_block : ∀ t0 : Nat, ∀ a0 : Int32, t0 = gA → Km3V gA gB gC (r_X3_block t0 a0)) {K K' : kS → Prop} {S0 : kS} (hC : CL3 gA gB gC S0) (hk : ∀ S1, KO gA gB gC S0 S1 → K S1 → K' S1) {x0 : Nat} {x1 : Int32} {x2 : Int32} {x3 : Int32} {S : kS} (m_x0 : x0 = gA) (hF : KO gA gB gC S0 S) (h : wT_X3_tried_76 r_X3_block K x0 x1 x2 x3 S) : wT_X3_tried_76 r_X3_block K' x0 x1 x2 x3 S := by
  unfold wT_X3_tried_76 at h ⊢
  refine koT_X3_take _ _ (by assumption) _ _ _ (CL3_k hC hF) (fun S18 r18 hG h => ?_) h
  replace hF := KO_t hF hG
  refine ⟨fun c => ?_, fun c => ?_⟩
  · replace h := h.1 c
    exact koT_X3_tried_136 hr_X3_block hC hk (by first | assumption | exact fun b hb => (by cases hb; assumption)) hF h
  · replace h := h.2 c
    intro z20 ez20
    replace h := h z20 ez20
    intro z21 ez21
    replace h := h z21 ez21
    intro S22 eS22
    replace h := h S22 eS22
    replace hF := KO_i hF eS22 (by first | exact Or.inl (by assumption) | exact Or.inr (Or.inl (by assumption)) | exact Or.inr (Or.inr (by assumption)))
    intro z23 ez23
    replace h := h z23 ez23
    have mz_z23 : ∀ b, z23 = some b → b = gC := fun b hb => mz16 hF hC (by assumption) ez23 hb
    obtain ⟨q24, eq24, h9⟩ := h
    replace h := h9
    clear h9
    refine ⟨q24, eq24, ?_⟩
    have m_q24 := mz_z23 q24 eq24
    refine koT_X7_mark _ _ _ (by assumption) _ _ _ (CL3_5 hC hF) (fun S25 hG h => ?_) h
    replace hF := KO_t hF hG
    intro z26 ez26
    replace h := h z26 ez26
    have mz_z26 : ∀ b, z26 = some b → b = gC := fun b hb => mz16 hF hC (by assumption) ez26 hb
    obtain ⟨q27, eq27, h9⟩ := h
    replace h := h9
    clear h9
    refine ⟨q27, eq27, ?_⟩
    have m_q27 := mz_z26 q27 eq27
    intro z28 ez28
    replace h := h z28 ez28
    have oz_z28 : ∀ b, z28 = some b → OW9 gA gB gC S0 b := fun b hb => ozl (f := 46) hF (by decide) (by first | exact Or.inl (by assumption) | exact Or.inr (Or.inl (by assumption)) | exact Or.inr (Or.inr (by assumption))) ez28 hb
    refine koT_X3_cellHere _ (by assumption) _ _ _ (CL3_k hC hF) (fun S29 r29 hG h => ?_) h
    replace hF := KO_t hF hG
    refine koT_X3_emit _ _ _ (by assumption) _ _ _ (CL3_k hC hF) (fun S30 r30 hG h => ?_) h
    replace hF := KO_t hF hG
    intro q31 eq31
    replace h := h q31 eq31
    refine ⟨h.1, ?_⟩
    replace h := h.2
    intro S32 eS32
    replace h := h S32 eS32
    replace hF := KO_a hF eS32 (oz_z28 _ eq31)
    refine hr_X3_block _ _ (by assumption) _ _ _ (CL3_k hC hF) (fun S33 hG h => ?_) h
    replace hF := KO_t hF hG
    refine koT_X3_emit _ _ _ (by assumption) _ _ _ (CL3_k hC hF) (fun S34 r34 hG h => ?_) h
    replace hF := KO_t hF hG
    exact koT_X3_tried_136 hr_X3_block hC hk (by first | assumption | exact fun b hb => (by cases hb; assumption)) hF h
theorem koT_X3_tried {gA gB gC : Nat} {r_X3_block : Nat → Int32 → kS → (kS → Prop) → Prop} (hr_X3_block : ∀ t0 : Nat, ∀ a0 : Int32, t0 = gA → Km3V gA gB gC (r_X3_block t0 a0)) (t0 : Nat) (a0 : Int32) (m_t0 : t0 = gA) : Km3V gA gB gC (wT_X3_tried r_X3_block t0 a0) := by
  intro S0 K K' hC hk h
  have hF : KO gA gB gC S0 S0 := KO_rf
  unfold wT_X3_tried at h ⊢
  intro z1 ez1
  replace h := h z1 ez1
  intro z2 ez2
  replace h := h z2 ez2
  have mz_z2 : ∀ b, z2 = some b → b = gC := fun b hb => mz16 hF hC (by assumption) ez2 hb
  intro z3 ez3
  replace h := h z3 ez3
  obtain ⟨q4, eq4, h9⟩ := h
  replace h := h9
  clear h9
  refine ⟨q4, eq4, ?_⟩
  have m_q4 := mz_z2 q4 eq4
  refine koT_X7_newTry _ _ _ (by assumption) _ _ _ (CL3_5 hC hF) (fun S5 r5 hG h => ?_) h
  replace hF := KO_t hF hG
  refine ⟨fun c => ?_, fun c => ?_⟩
  · replace h := h.1 c
    intro z7 ez7
    replace h := h z7 ez7
    intro z8 ez8
    replace h := h z8 ez8
    intro S9 eS9
    replace h := h S9 eS9
    replace hF := KO_i hF eS9 (by first | exact Or.inl (by assumption) | exact Or.inr (Or.inl (by assumption)) | exact Or.inr (Or.inr (by assumption)))
    refine hr_X3_block _ _ (by assumption) _ _ _ (CL3_k hC hF) (fun S10 hG h => ?_) h
    replace hF := KO_t hF hG
    refine koT_X3_emit _ _ _ (by assumption) _ _ _ (CL3_k hC hF) (fun S11 r11 hG h => ?_) h
    replace hF := KO_t hF hG
    refine koT_X3_kind _ (by assumption) _ _ _ (CL3_k hC hF) (fun S12 r12 hG h => ?_) h
    replace hF := KO_t hF hG
    refine ⟨fun c => ?_, fun c => ?_⟩
    · replace h := h.1 c
      exact koT_X3_tried_76 hr_X3_block hC hk (by first | assumption | exact fun b hb => (by cases hb; assumption)) hF h
    · replace h := h.2 c
      refine koT_X3_kind _ (by assumption) _ _ _ (CL3_k hC hF) (fun S14 r14 hG h => ?_) h
      replace hF := KO_t hF hG
      refine ⟨fun c => ?_, fun c => ?_⟩
      · replace h := h.1 c
        exact koT_X3_tried_76 hr_X3_block hC hk (by first | assumption | exact fun b hb => (by cases hb; assumption)) hF h
      · replace h := h.2 c
        refine koT_X3_wrong _ _ (by assumption) _ _ _ (CL3_k hC hF) (fun S16 hG h => ?_) h
        replace hF := KO_t hF hG
        exact koT_X3_tried_76 hr_X3_block hC hk (by first | assumption | exact fun b hb => (by cases hb; assumption)) hF h
  · replace h := h.2 c
    refine koT_X3_wrong _ _ (by assumption) _ _ _ (CL3_k hC hF) (fun S17 hG h => ?_) h
    replace hF := KO_t hF hG
    exact hk _ hF h
theorem koT_X3_repeated {gA gB gC : Nat} {r_X3_block : Nat → Int32 → kS → (kS → Prop) → Prop} (hr_X3_block : ∀ t0 : Nat, ∀ a0 : Int32, t0 = gA → Km3V gA gB gC (r_X3_block t0 a0)) (t0 : Nat) (a0 : Int32) (a1 : Int32) (m_t0 : t0 = gA) : Km3V gA gB gC (wT_X3_repeated r_X3_block t0 a0 a1) := by
  intro S0 K K' hC hk h
  have hF : KO gA gB gC S0 S0 := KO_rf
  unfold wT_X3_repeated at h ⊢
  intro z1 ez1
  replace h := h z1 ez1
  intro z2 ez2
  replace h := h z2 ez2
  have mz_z2 : ∀ b, z2 = some b → b = gC := fun b hb => mz16 hF hC (by assumption) ez2 hb
  intro z3 ez3
  replace h := h z3 ez3
  obtain ⟨q4, eq4, h9⟩ := h
  replace h := h9
  clear h9
  refine ⟨q4, eq4, ?_⟩
  have m_q4 := mz_z2 q4 eq4
  refine koT_X7_newLoop _ _ _ (by assumption) _ _ _ (CL3_5 hC hF) (fun S5 r5 hG h => ?_) h
  replace hF := KO_t hF hG
  refine ⟨fun c => ?_, fun c => ?_⟩
  · replace h := h.1 c
    refine kxT_X3_expression _ _ (by assumption) _ _ _ (CL3_k hC hF) (fun S7 hG h => ?_) h
    replace hF := KO_t hF hG
    refine koT_X3_emit _ _ _ (by assumption) _ _ _ (CL3_k hC hF) (fun S8 r8 hG h => ?_) h
    replace hF := KO_t hF hG
    intro S9 eS9
    replace h := h S9 eS9
    replace hF := KO_i hF eS9 (by first | exact Or.inl (by assumption) | exact Or.inr (Or.inl (by assumption)) | exact Or.inr (Or.inr (by assumption)))
    refine hr_X3_block _ _ (by assumption) _ _ _ (CL3_k hC hF) (fun S10 hG h => ?_) h
    replace hF := KO_t hF hG
    intro S11 eS11
    replace h := h S11 eS11
    replace hF := KO_i hF eS11 (by first | exact Or.inl (by assumption) | exact Or.inr (Or.inl (by assumption)) | exact Or.inr (Or.inr (by assumption)))
    refine koT_X3_emit _ _ _ (by assumption) _ _ _ (CL3_k hC hF) (fun S12 r12 hG h => ?_) h
    replace hF := KO_t hF hG
    intro z13 ez13
    replace h := h z13 ez13
    have mz_z13 : ∀ b, z13 = some b → b = gB := fun b hb => mz15 hF hC (by assumption) ez13 hb
    obtain ⟨q14, eq14, h9⟩ := h
    replace h := h9
    clear h9
    refine ⟨q14, eq14, ?_⟩
    have m_q14 := mz_z13 q14 eq14
    intro z15 ez15
    replace h := h z15 ez15
    have oz_z15 : ∀ b, z15 = some b → OW9 gA gB gC S0 b := fun b hb => ozl (f := 29) hF (by decide) (by first | exact Or.inl (by assumption) | exact Or.inr (Or.inl (by assumption)) | exact Or.inr (Or.inr (by assumption))) ez15 hb
    intro z16 ez16
    replace h := h z16 ez16
    have mz_z16 : ∀ b, z16 = some b → b = gB := fun b hb => mz15 hF hC (by assumption) ez16 hb
    obtain ⟨q17, eq17, h9⟩ := h
    replace h := h9
    clear h9
    refine ⟨q17, eq17, ?_⟩
    have m_q17 := mz_z16 q17 eq17
    intro z18 ez18
    replace h := h z18 ez18
    intro q19 eq19
    replace h := h q19 eq19
    refine ⟨h.1, ?_⟩
    replace h := h.2
    intro S20 eS20
    replace h := h S20 eS20
    replace hF := KO_a hF eS20 (oz_z15 _ eq19)
    intro z21 ez21
    replace h := h z21 ez21
    have mz_z21 : ∀ b, z21 = some b → b = gC := fun b hb => mz16 hF hC (by assumption) ez21 hb
    obtain ⟨q22, eq22, h9⟩ := h
    replace h := h9
    clear h9
    refine ⟨q22, eq22, ?_⟩
    have m_q22 := mz_z21 q22 eq22
    intro z23 ez23
    replace h := h z23 ez23
    have oz_z23 : ∀ b, z23 = some b → OW9 gA gB gC S0 b := fun b hb => ozl (f := 52) hF (by decide) (by first | exact Or.inl (by assumption) | exact Or.inr (Or.inl (by assumption)) | exact Or.inr (Or.inr (by assumption))) ez23 hb
    intro z24 ez24
    replace h := h z24 ez24
    have mz_z24 : ∀ b, z24 = some b → b = gB := fun b hb => mz15 hF hC (by assumption) ez24 hb
    obtain ⟨q25, eq25, h9⟩ := h
    replace h := h9
    clear h9
    refine ⟨q25, eq25, ?_⟩
    have m_q25 := mz_z24 q25 eq25
    intro z26 ez26
    replace h := h z26 ez26
    intro q27 eq27
    replace h := h q27 eq27
    refine ⟨h.1, ?_⟩
    replace h := h.2
    intro S28 eS28
    replace h := h S28 eS28
    replace hF := KO_a hF eS28 (oz_z23 _ eq27)
    exact hk _ hF h
  · replace h := h.2 c
    refine koT_X3_wrong _ _ (by assumption) _ _ _ (CL3_k hC hF) (fun S29 hG h => ?_) h
    replace hF := KO_t hF hG
    exact hk _ hF h
theorem koT_X3_choice {gA gB gC : Nat} {r_X3_block : Nat → Int32 → kS → (kS → Prop) → Prop} (hr_X3_block : ∀ t0 : Nat, ∀ a0 : Int32, t0 = gA → Km3V gA gB gC (r_X3_block t0 a0)) (t0 : Nat) (a0 : Int32) (m_t0 : t0 = gA) : Km3V gA gB gC (wT_X3_choice r_X3_block t0 a0) := by
  intro S0 K K' hC hk h
  have hF : KO gA gB gC S0 S0 := KO_rf
  unfold wT_X3_choice at h ⊢
  refine kxT_X3_expression _ _ (by assumption) _ _ _ (CL3_k hC hF) (fun S1 hG h => ?_) h
  replace hF := KO_t hF hG
  refine koT_X3_emit _ _ _ (by assumption) _ _ _ (CL3_k hC hF) (fun S2 r2 hG h => ?_) h
  replace hF := KO_t hF hG
  refine hr_X3_block _ _ (by assumption) _ _ _ (CL3_k hC hF) (fun S3 hG h => ?_) h
  replace hF := KO_t hF hG
  refine koT_X3_take _ _ (by assumption) _ _ _ (CL3_k hC hF) (fun S4 r4 hG h => ?_) h
  replace hF := KO_t hF hG
  refine ⟨fun c => ?_, fun c => ?_⟩
  · replace h := h.1 c
    intro z6 ez6
    replace h := h z6 ez6
    have mz_z6 : ∀ b, z6 = some b → b = gB := fun b hb => mz15 hF hC (by assumption) ez6 hb
    obtain ⟨q7, eq7, h9⟩ := h
    replace h := h9
    clear h9
    refine ⟨q7, eq7, ?_⟩
    have m_q7 := mz_z6 q7 eq7
    intro z8 ez8
    replace h := h z8 ez8
    have oz_z8 : ∀ b, z8 = some b → OW9 gA gB gC S0 b := fun b hb => ozl (f := 29) hF (by decide) (by first | exact Or.inl (by assumption) | exact Or.inr (Or.inl (by assumption)) | exact Or.inr (Or.inr (by assumption))) ez8 hb
    intro z9 ez9
    replace h := h z9 ez9
    have mz_z9 : ∀ b, z9 = some b → b = gB := fun b hb => mz15 hF hC (by assumption) ez9 hb
    obtain ⟨q10, eq10, h9⟩ := h
    replace h := h9
    clear h9
    refine ⟨q10, eq10, ?_⟩
    have m_q10 := mz_z9 q10 eq10
    intro z11 ez11
    replace h := h z11 ez11
    intro q12 eq12
    replace h := h q12 eq12
    refine ⟨h.1, ?_⟩
    replace h := h.2
    intro S13 eS13
    replace h := h S13 eS13
    replace hF := KO_a hF eS13 (oz_z8 _ eq12)
    exact hk _ hF h
  · replace h := h.2 c
    refine koT_X3_emit _ _ _ (by assumption) _ _ _ (CL3_k hC hF) (fun S14 r14 hG h => ?_) h
    replace hF := KO_t hF hG
    intro z15 ez15
    replace h := h z15 ez15
    have mz_z15 : ∀ b, z15 = some b → b = gB := fun b hb => mz15 hF hC (by assumption) ez15 hb
    obtain ⟨q16, eq16, h9⟩ := h
    replace h := h9
    clear h9
    refine ⟨q16, eq16, ?_⟩
    have m_q16 := mz_z15 q16 eq16
    intro z17 ez17
    replace h := h z17 ez17
    have oz_z17 : ∀ b, z17 = some b → OW9 gA gB gC S0 b := fun b hb => ozl (f := 29) hF (by decide) (by first | exact Or.inl (by assumption) | exact Or.inr (Or.inl (by assumption)) | exact Or.inr (Or.inr (by assumption))) ez17 hb
    intro z18 ez18
    replace h := h z18 ez18
    have mz_z18 : ∀ b, z18 = some b → b = gB := fun b hb => mz15 hF hC (by assumption) ez18 hb
    obtain ⟨q19, eq19, h9⟩ := h
    replace h := h9
    clear h9
    refine ⟨q19, eq19, ?_⟩
    have m_q19 := mz_z18 q19 eq19
    intro z20 ez20
    replace h := h z20 ez20
    intro q21 eq21
    replace h := h q21 eq21
    refine ⟨h.1, ?_⟩
    replace h := h.2
    intro S22 eS22
    replace h := h S22 eS22
    replace hF := KO_a hF eS22 (oz_z17 _ eq21)
    refine hr_X3_block _ _ (by assumption) _ _ _ (CL3_k hC hF) (fun S23 hG h => ?_) h
    replace hF := KO_t hF hG
    intro z24 ez24
    replace h := h z24 ez24
    have mz_z24 : ∀ b, z24 = some b → b = gB := fun b hb => mz15 hF hC (by assumption) ez24 hb
    obtain ⟨q25, eq25, h9⟩ := h
    replace h := h9
    clear h9
    refine ⟨q25, eq25, ?_⟩
    have m_q25 := mz_z24 q25 eq25
    intro z26 ez26
    replace h := h z26 ez26
    have oz_z26 : ∀ b, z26 = some b → OW9 gA gB gC S0 b := fun b hb => ozl (f := 29) hF (by decide) (by first | exact Or.inl (by assumption) | exact Or.inr (Or.inl (by assumption)) | exact Or.inr (Or.inr (by assumption))) ez26 hb
    intro z27 ez27
    replace h := h z27 ez27
    have mz_z27 : ∀ b, z27 = some b → b = gB := fun b hb => mz15 hF hC (by assumption) ez27 hb
    obtain ⟨q28, eq28, h9⟩ := h
    replace h := h9
    clear h9
    refine ⟨q28, eq28, ?_⟩
    have m_q28 := mz_z27 q28 eq28
    intro z29 ez29
    replace h := h z29 ez29
    intro q30 eq30
    replace h := h q30 eq30
    refine ⟨h.1, ?_⟩
    replace h := h.2
    intro S31 eS31
    replace h := h S31 eS31
    replace hF := KO_a hF eS31 (oz_z26 _ eq30)
    exact hk _ hF h
theorem koT_X3_statement_174 {gA gB gC : Nat} {r_X3_block : Nat → Int32 → kS → (kS → Prop) → Prop} (hr_X3_block : ∀ t0 : Nat, ∀ a0 : Int32, t0 = gA → Km3V gA gB gC (r_X3_block t0 a0)) {K K' : kS → Prop} {S0 : kS} (hC : CL3 gA gB gC S0) (hk : ∀ S1, KO gA gB gC S0 S1 → K S1 → K' S1) {x0 : Nat} {S : kS} (m_x0 : x0 = gA) (hF : KO gA gB gC S0 S) (h : wT_X3_statement_174 r_X3_block K x0 S) : wT_X3_statement_174 r_X3_block K' x0 S := by
  unfold wT_X3_statement_174 at h ⊢
  refine koT_X3_need _ _ (by assumption) _ _ _ (CL3_k hC hF) (fun S27 hG h => ?_) h
  replace hF := KO_t hF hG
  exact hk _ hF h
theorem koT_X3_statement {gA gB gC : Nat} {r_X3_block : Nat → Int32 → kS → (kS → Prop) → Prop} (hr_X3_block : ∀ t0 : Nat, ∀ a0 : Int32, t0 = gA → Km3V gA gB gC (r_X3_block t0 a0)) (t0 : Nat) (a0 : Int32) (m_t0 : t0 = gA) : Km3V gA gB gC (wT_X3_statement r_X3_block t0 a0) := by
  intro S0 K K' hC hk h
  have hF : KO gA gB gC S0 S0 := KO_rf
  unfold wT_X3_statement at h ⊢
  refine koT_X3_emit _ _ _ (by assumption) _ _ _ (CL3_k hC hF) (fun S1 r1 hG h => ?_) h
  replace hF := KO_t hF hG
  refine koT_X3_kind _ (by assumption) _ _ _ (CL3_k hC hF) (fun S2 r2 hG h => ?_) h
  replace hF := KO_t hF hG
  refine ⟨fun c => ?_, fun c => ?_⟩
  · replace h := h.1 c
    refine koT_X3_assigned _ (by assumption) _ _ _ (CL3_k hC hF) (fun S4 hG h => ?_) h
    replace hF := KO_t hF hG
    exact koT_X3_statement_174 hr_X3_block hC hk (by first | assumption | exact fun b hb => (by cases hb; assumption)) hF h
  · replace h := h.2 c
    refine ⟨fun c => ?_, fun c => ?_⟩
    · replace h := h.1 c
      refine koT_X3_assigned _ (by assumption) _ _ _ (CL3_k hC hF) (fun S6 hG h => ?_) h
      replace hF := KO_t hF hG
      exact koT_X3_statement_174 hr_X3_block hC hk (by first | assumption | exact fun b hb => (by cases hb; assumption)) hF h
    · replace h := h.2 c
      refine ⟨fun c => ?_, fun c => ?_⟩
      · replace h := h.1 c
        refine koT_X3_step _ (by assumption) _ _ _ (CL3_k hC hF) (fun S8 hG h => ?_) h
        replace hF := KO_t hF hG
        refine kxT_X3_expression _ _ (by assumption) _ _ _ (CL3_k hC hF) (fun S9 hG h => ?_) h
        replace hF := KO_t hF hG
        refine koT_X3_emit _ _ _ (by assumption) _ _ _ (CL3_k hC hF) (fun S10 r10 hG h => ?_) h
        replace hF := KO_t hF hG
        exact koT_X3_statement_174 hr_X3_block hC hk (by first | assumption | exact fun b hb => (by cases hb; assumption)) hF h
      · replace h := h.2 c
        refine ⟨fun c => ?_, fun c => ?_⟩
        · replace h := h.1 c
          refine koT_X3_step _ (by assumption) _ _ _ (CL3_k hC hF) (fun S12 hG h => ?_) h
          replace hF := KO_t hF hG
          refine koT_X3_choice hr_X3_block _ _ (by assumption) _ _ _ (CL3_k hC hF) (fun S13 hG h => ?_) h
          replace hF := KO_t hF hG
          exact hk _ hF h
        · replace h := h.2 c
          refine ⟨fun c => ?_, fun c => ?_⟩
          · replace h := h.1 c
            refine koT_X3_step _ (by assumption) _ _ _ (CL3_k hC hF) (fun S15 hG h => ?_) h
            replace hF := KO_t hF hG
            refine koT_X3_repeated hr_X3_block _ _ _ (by assumption) _ _ _ (CL3_k hC hF) (fun S16 hG h => ?_) h
            replace hF := KO_t hF hG
            exact hk _ hF h
          · replace h := h.2 c
            refine ⟨fun c => ?_, fun c => ?_⟩
            · replace h := h.1 c
              refine koT_X3_returned _ (by assumption) _ _ _ (CL3_k hC hF) (fun S18 hG h => ?_) h
              replace hF := KO_t hF hG
              exact koT_X3_statement_174 hr_X3_block hC hk (by first | assumption | exact fun b hb => (by cases hb; assumption)) hF h
            · replace h := h.2 c
              refine ⟨fun c => ?_, fun c => ?_⟩
              · replace h := h.1 c
                refine koT_X3_step _ (by assumption) _ _ _ (CL3_k hC hF) (fun S20 hG h => ?_) h
                replace hF := KO_t hF hG
                refine koT_X3_numberOf _ _ _ (by assumption) _ _ _ (CL3_k hC hF) (fun S21 r21 hG h => ?_) h
                replace hF := KO_t hF hG
                refine koT_X3_emit _ _ _ (by assumption) _ _ _ (CL3_k hC hF) (fun S22 r22 hG h => ?_) h
                replace hF := KO_t hF hG
                exact koT_X3_statement_174 hr_X3_block hC hk (by first | assumption | exact fun b hb => (by cases hb; assumption)) hF h
              · replace h := h.2 c
                refine ⟨fun c => ?_, fun c => ?_⟩
                · replace h := h.1 c
                  refine koT_X3_step _ (by assumption) _ _ _ (CL3_k hC hF) (fun S24 hG h => ?_) h
                  replace hF := KO_t hF hG
                  refine koT_X3_tried hr_X3_block _ _ (by assumption) _ _ _ (CL3_k hC hF) (fun S25 hG h => ?_) h
                  replace hF := KO_t hF hG
                  exact hk _ hF h
                · replace h := h.2 c
                  refine koT_X3_leftLoop _ (by assumption) _ _ _ (CL3_k hC hF) (fun S26 hG h => ?_) h
                  replace hF := KO_t hF hG
                  exact koT_X3_statement_174 hr_X3_block hC hk (by first | assumption | exact fun b hb => (by cases hb; assumption)) hF h
theorem koT_X3_block_67 {gA gB gC : Nat} {r_X3_block : Nat → Int32 → kS → (kS → Prop) → Prop} (hr_X3_block : ∀ t0 : Nat, ∀ a0 : Int32, t0 = gA → Km3V gA gB gC (r_X3_block t0 a0)) {K K' : kS → Prop} {S0 : kS} (hC : CL3 gA gB gC S0) (hk : ∀ S1, KO gA gB gC S0 S1 → K S1 → K' S1) {x0 : Nat} {S : kS} (m_x0 : x0 = gA) (hF : KO gA gB gC S0 S) (h : wT_X3_block_67 r_X3_block K x0 S) : wT_X3_block_67 r_X3_block K' x0 S := by
  unfold wT_X3_block_67 at h ⊢
  refine koT_X3_need _ _ (by assumption) _ _ _ (CL3_k hC hF) (fun S14 hG h => ?_) h
  replace hF := KO_t hF hG
  exact hk _ hF h
theorem koT_X3_block_37 {gA gB gC : Nat} {r_X3_block : Nat → Int32 → kS → (kS → Prop) → Prop} (hr_X3_block : ∀ t0 : Nat, ∀ a0 : Int32, t0 = gA → Km3V gA gB gC (r_X3_block t0 a0)) {K K' : kS → Prop} {k37 k37' : Nat × Int32 × Int32 × kS → Prop} {S0 : kS} (hC : CL3 gA gB gC S0) (hk : ∀ S1, KO gA gB gC S0 S1 → K S1 → K' S1) (hk37 : ∀ u : Nat × Int32 × Int32 × kS, (u.1 = gA) → KO gA gB gC S0 u.2.2.2 → k37 u → k37' u) {x0 : Nat} {x1 : Int32} {x2 : Int32} {S : kS} (m_x0 : x0 = gA) (hF : KO gA gB gC S0 S) (h : wT_X3_block_37 r_X3_block K k37 x0 x1 x2 S) : wT_X3_block_37 r_X3_block K' k37' x0 x1 x2 S := by
  unfold wT_X3_block_37 at h ⊢
  refine ⟨fun c => ?_, fun c => ?_⟩
  · replace h := h.1 c
    exact koT_X3_block_67 hr_X3_block hC hk (by first | assumption | exact fun b hb => (by cases hb; assumption)) hF h
  · replace h := h.2 c
    refine koT_X3_kind _ (by assumption) _ _ _ (CL3_k hC hF) (fun S8 r8 hG h => ?_) h
    replace hF := KO_t hF hG
    refine koT_X3_startsStatement _ _ _ _ (CL3_k hC hF) (fun S9 r9 hG h => ?_) h
    replace hF := KO_t hF hG
    refine ⟨fun c => ?_, fun c => ?_⟩
    · replace h := h.1 c
      exact koT_X3_block_67 hr_X3_block hC hk (by first | assumption | exact fun b hb => (by cases hb; assumption)) hF h
    · replace h := h.2 c
      intro z11 ez11
      replace h := h z11 ez11
      refine koT_X3_statement hr_X3_block _ _ (by assumption) _ _ _ (CL3_k hC hF) (fun S12 hG h => ?_) h
      replace hF := KO_t hF hG
      intro z13 ez13
      replace h := h z13 ez13
      exact hk37 _ (by first | assumption | exact fun b hb => (by cases hb; assumption)) hF h
theorem kolT_X3_block_37 {gA gB gC : Nat} {r_X3_block : Nat → Int32 → kS → (kS → Prop) → Prop} (hr_X3_block : ∀ t0 : Nat, ∀ a0 : Int32, t0 = gA → Km3V gA gB gC (r_X3_block t0 a0)) {K K' : kS → Prop} {S0 : kS} (hC : CL3 gA gB gC S0) (hk : ∀ S1, KO gA gB gC S0 S1 → K S1 → K' S1) : ∀ (n : Nat) (u : Nat × Int32 × Int32 × kS), (u.1 = gA) → KO gA gB gC S0 u.2.2.2 → it (lT_X3_block_37 r_X3_block K) n u → it (lT_X3_block_37 r_X3_block K') n u := by
  intro n
  induction n with
  | zero => exact fun _ _ _ h => h
  | succ n ih => exact fun u m0 hF h => koT_X3_block_37 hr_X3_block hC hk ih m0 hF h
theorem koT_X3_block {gA gB gC : Nat} {r_X3_block : Nat → Int32 → kS → (kS → Prop) → Prop} (hr_X3_block : ∀ t0 : Nat, ∀ a0 : Int32, t0 = gA → Km3V gA gB gC (r_X3_block t0 a0)) (t0 : Nat) (a0 : Int32) (m_t0 : t0 = gA) : Km3V gA gB gC (wT_X3_block r_X3_block t0 a0) := by
  intro S0 K K' hC hk h
  have hF : KO gA gB gC S0 S0 := KO_rf
  unfold wT_X3_block at h ⊢
  refine koT_X3_kind _ (by assumption) _ _ _ (CL3_k hC hF) (fun S1 r1 hG h => ?_) h
  replace hF := KO_t hF hG
  refine ⟨fun c => ?_, fun c => ?_⟩
  · replace h := h.1 c
    refine ⟨fun c => ?_, fun c => ?_⟩
    · replace h := h.1 c
      refine koT_X3_step _ (by assumption) _ _ _ (CL3_k hC hF) (fun S4 hG h => ?_) h
      replace hF := KO_t hF hG
      obtain ⟨n9, h⟩ := h
      exact ⟨n9, kolT_X3_block_37 hr_X3_block hC hk n9 _ (by first | assumption | exact fun b hb => (by cases hb; assumption)) hF h⟩
    · replace h := h.2 c
      refine koT_X3_wrong _ _ (by assumption) _ _ _ (CL3_k hC hF) (fun S5 hG h => ?_) h
      replace hF := KO_t hF hG
      exact hk _ hF h
  · replace h := h.2 c
    refine koT_X3_wrong _ _ (by assumption) _ _ _ (CL3_k hC hF) (fun S6 hG h => ?_) h
    replace hF := KO_t hF hG
    exact hk _ hF h
theorem kyT_X3_block {gA gB gC : Nat} : ∀ n : Nat, ∀ t0 : Nat, ∀ a0 : Int32, t0 = gA → Km3V gA gB gC (wV_X3_block n t0 a0) := by
  intro n
  induction n with
  | zero => exact fun _ _ _ _ _ _ _ _ h => h
  | succ n ih => exact fun t0 a0 m0 => koT_X3_block ih t0 a0 m0
theorem kxT_X3_finished {gA gB gC : Nat} (t0 : Nat) (a0 : Int32) (a1 : Int32) (m_t0 : t0 = gA) : Km3V gA gB gC (wU_X3_finished t0 a0 a1) := koT_X3_finished (kyT_X3_block 12) t0 a0 a1 m_t0
theorem kxT_X3_tried {gA gB gC : Nat} (t0 : Nat) (a0 : Int32) (m_t0 : t0 = gA) : Km3V gA gB gC (wU_X3_tried t0 a0) := koT_X3_tried (kyT_X3_block 12) t0 a0 m_t0
theorem kxT_X3_repeated {gA gB gC : Nat} (t0 : Nat) (a0 : Int32) (a1 : Int32) (m_t0 : t0 = gA) : Km3V gA gB gC (wU_X3_repeated t0 a0 a1) := koT_X3_repeated (kyT_X3_block 12) t0 a0 a1 m_t0
theorem kxT_X3_choice {gA gB gC : Nat} (t0 : Nat) (a0 : Int32) (m_t0 : t0 = gA) : Km3V gA gB gC (wU_X3_choice t0 a0) := koT_X3_choice (kyT_X3_block 12) t0 a0 m_t0
theorem kxT_X3_statement {gA gB gC : Nat} (t0 : Nat) (a0 : Int32) (m_t0 : t0 = gA) : Km3V gA gB gC (wU_X3_statement t0 a0) := koT_X3_statement (kyT_X3_block 12) t0 a0 m_t0
theorem kxT_X3_block {gA gB gC : Nat} (t0 : Nat) (a0 : Int32) (m_t0 : t0 = gA) : Km3V gA gB gC (wU_X3_block t0 a0) := kyT_X3_block 12 t0 a0 m_t0
theorem koT_X5_routineNamed_2 {gA gB gC : Nat} {K K' : kS → Int32 → Prop} {k2 k2' : Nat × Int64 × Int32 × kS → Prop} {S0 : kS} (hC : CL5 gA gB gC S0) (hk : ∀ S1 r1, KO gA gB gC S0 S1 → K S1 r1 → K' S1 r1) (hk2 : ∀ u : Nat × Int64 × Int32 × kS, (u.1 = gB) → KO gA gB gC S0 u.2.2.2 → k2 u → k2' u) {x0 : Nat} {x1 : Int64} {x3 : Int32} {S : kS} (m_x0 : x0 = gB) (hF : KO gA gB gC S0 S) (h : wT_X5_routineNamed_2 K k2 x0 x1 x3 S) : wT_X5_routineNamed_2 K' k2' x0 x1 x3 S := by
  unfold wT_X5_routineNamed_2 at h ⊢
  intro z1 ez1
  replace h := h z1 ez1
  refine ⟨fun c => ?_, fun c => ?_⟩
  · replace h := h.1 c
    exact hk _ _ hF h
  · replace h := h.2 c
    intro z3 ez3
    replace h := h z3 ez3
    intro q4 eq4
    replace h := h q4 eq4
    refine ⟨h.1, ?_⟩
    replace h := h.2
    intro z5 ez5
    replace h := h z5 ez5
    intro z6 ez6
    replace h := h z6 ez6
    refine ⟨fun c => ?_, fun c => ?_⟩
    · replace h := h.1 c
      intro z8 ez8
      replace h := h z8 ez8
      exact hk2 _ (by first | assumption | exact fun b hb => (by cases hb; assumption)) hF h
    · replace h := h.2 c
      exact hk _ _ hF h
theorem kolT_X5_routineNamed_2 {gA gB gC : Nat} {K K' : kS → Int32 → Prop} {S0 : kS} (hC : CL5 gA gB gC S0) (hk : ∀ S1 r1, KO gA gB gC S0 S1 → K S1 r1 → K' S1 r1) : ∀ (n : Nat) (u : Nat × Int64 × Int32 × kS), (u.1 = gB) → KO gA gB gC S0 u.2.2.2 → it (lT_X5_routineNamed_2 K) n u → it (lT_X5_routineNamed_2 K') n u := by
  intro n
  induction n with
  | zero => exact fun _ _ _ h => h
  | succ n ih => exact fun u m0 hF h => koT_X5_routineNamed_2 hC hk ih m0 hF h
theorem koT_X5_routineNamed {gA gB gC : Nat} (t0 : Nat) (a0 : Int64) (m_t0 : t0 = gB) : Km5I gA gB gC (wT_X5_routineNamed t0 a0) := by
  intro S0 K K' hC hk h
  have hF : KO gA gB gC S0 S0 := KO_rf
  unfold wT_X5_routineNamed at h ⊢
  obtain ⟨n9, h⟩ := h
  exact ⟨n9, kolT_X5_routineNamed_2 hC hk n9 _ (by first | assumption | exact fun b hb => (by cases hb; assumption)) hF h⟩
theorem koT_X3_findChildren_106 {gA gB gC : Nat} {K K' : kS → Prop} {k2 k2' : Nat × Int32 × kS → Prop} {S0 : kS} (hC : CL3 gA gB gC S0) (hk : ∀ S1, KO gA gB gC S0 S1 → K S1 → K' S1) (hk2 : ∀ u : Nat × Int32 × kS, (u.1 = gA) → KO gA gB gC S0 u.2.2 → k2 u → k2' u) {x0 : Nat} {x1 : Int32} {S : kS} (m_x0 : x0 = gA) (hF : KO gA gB gC S0 S) (h : wT_X3_findChildren_106 K k2 x0 x1 S) : wT_X3_findChildren_106 K' k2' x0 x1 S := by
  unfold wT_X3_findChildren_106 at h ⊢
  intro z41 ez41
  replace h := h z41 ez41
  exact hk2 _ (by first | assumption | exact fun b hb => (by cases hb; assumption)) hF h
theorem koT_X3_findChildren_2 {gA gB gC : Nat} {K K' : kS → Prop} {k2 k2' : Nat × Int32 × kS → Prop} {S0 : kS} (hC : CL3 gA gB gC S0) (hk : ∀ S1, KO gA gB gC S0 S1 → K S1 → K' S1) (hk2 : ∀ u : Nat × Int32 × kS, (u.1 = gA) → KO gA gB gC S0 u.2.2 → k2 u → k2' u) {x0 : Nat} {x1 : Int32} {S : kS} (m_x0 : x0 = gA) (hF : KO gA gB gC S0 S) (h : wT_X3_findChildren_2 K k2 x0 x1 S) : wT_X3_findChildren_2 K' k2' x0 x1 S := by
  unfold wT_X3_findChildren_2 at h ⊢
  intro z1 ez1
  replace h := h z1 ez1
  refine ⟨fun c => ?_, fun c => ?_⟩
  · replace h := h.1 c
    exact hk _ hF h
  · replace h := h.2 c
    intro z3 ez3
    replace h := h z3 ez3
    refine ⟨fun c => ?_, fun c => ?_⟩
    · replace h := h.1 c
      exact hk _ hF h
    · replace h := h.2 c
      intro z5 ez5
      replace h := h z5 ez5
      have mz_z5 : ∀ b, z5 = some b → b = gB := fun b hb => mz15 hF hC (by assumption) ez5 hb
      intro z6 ez6
      replace h := h z6 ez6
      intro q7 eq7
      replace h := h q7 eq7
      refine ⟨h.1, ?_⟩
      replace h := h.2
      intro z8 ez8
      replace h := h z8 ez8
      obtain ⟨q9, eq9, h9⟩ := h
      replace h := h9
      clear h9
      refine ⟨q9, eq9, ?_⟩
      have m_q9 := mz_z5 q9 eq9
      refine koT_X5_routineNamed _ _ (by assumption) _ _ _ (CL3_5 hC hF) (fun S10 r10 hG h => ?_) h
      replace hF := KO_t hF hG
      refine ⟨fun c => ?_, fun c => ?_⟩
      · replace h := h.1 c
        intro z12 ez12
        replace h := h z12 ez12
        have mz_z12 : ∀ b, z12 = some b → b = gB := fun b hb => mz15 hF hC (by assumption) ez12 hb
        obtain ⟨q13, eq13, h9⟩ := h
        replace h := h9
        clear h9
        refine ⟨q13, eq13, ?_⟩
        have m_q13 := mz_z12 q13 eq13
        intro z14 ez14
        replace h := h z14 ez14
        intro q15 eq15
        replace h := h q15 eq15
        refine ⟨h.1, ?_⟩
        replace h := h.2
        intro z16 ez16
        replace h := h z16 ez16
        intro z17 ez17
        replace h := h z17 ez17
        intro q18 eq18
        replace h := h q18 eq18
        refine ⟨h.1, ?_⟩
        replace h := h.2
        intro z19 ez19
        replace h := h z19 ez19
        refine ⟨fun c => ?_, fun c => ?_⟩
        · replace h := h.1 c
          intro z21 ez21
          replace h := h z21 ez21
          have mz_z21 : ∀ b, z21 = some b → b = gB := fun b hb => mz15 hF hC (by assumption) ez21 hb
          obtain ⟨q22, eq22, h9⟩ := h
          replace h := h9
          clear h9
          refine ⟨q22, eq22, ?_⟩
          have m_q22 := mz_z21 q22 eq22
          intro z23 ez23
          replace h := h z23 ez23
          have oz_z23 : ∀ b, z23 = some b → OW9 gA gB gC S0 b := fun b hb => ozl (f := 29) hF (by decide) (by first | exact Or.inl (by assumption) | exact Or.inr (Or.inl (by assumption)) | exact Or.inr (Or.inr (by assumption))) ez23 hb
          intro z24 ez24
          replace h := h z24 ez24
          intro q25 eq25
          replace h := h q25 eq25
          refine ⟨h.1, ?_⟩
          replace h := h.2
          intro z26 ez26
          replace h := h z26 ez26
          intro q27 eq27
          replace h := h q27 eq27
          refine ⟨h.1, ?_⟩
          replace h := h.2
          intro S28 eS28
          replace h := h S28 eS28
          replace hF := KO_a hF eS28 (oz_z23 _ eq27)
          exact koT_X3_findChildren_106 hC hk hk2 (by first | assumption | exact fun b hb => (by cases hb; assumption)) hF h
        · replace h := h.2 c
          intro z29 ez29
          replace h := h z29 ez29
          intro q30 eq30
          replace h := h q30 eq30
          refine ⟨h.1, ?_⟩
          replace h := h.2
          intro z31 ez31
          replace h := h z31 ez31
          intro z32 ez32
          replace h := h z32 ez32
          intro z33 ez33
          replace h := h z33 ez33
          intro S34 eS34
          replace h := h S34 eS34
          replace hF := KO_i hF eS34 (by first | exact Or.inl (by assumption) | exact Or.inr (Or.inl (by assumption)) | exact Or.inr (Or.inr (by assumption)))
          exact koT_X3_findChildren_106 hC hk hk2 (by first | assumption | exact fun b hb => (by cases hb; assumption)) hF h
      · replace h := h.2 c
        intro z35 ez35
        replace h := h z35 ez35
        intro q36 eq36
        replace h := h q36 eq36
        refine ⟨h.1, ?_⟩
        replace h := h.2
        intro z37 ez37
        replace h := h z37 ez37
        intro z38 ez38
        replace h := h z38 ez38
        intro z39 ez39
        replace h := h z39 ez39
        intro S40 eS40
        replace h := h S40 eS40
        replace hF := KO_i hF eS40 (by first | exact Or.inl (by assumption) | exact Or.inr (Or.inl (by assumption)) | exact Or.inr (Or.inr (by assumption)))
        exact koT_X3_findChildren_106 hC hk hk2 (by first | assumption | exact fun b hb => (by cases hb; assumption)) hF h
theorem kolT_X3_findChildren_2 {gA gB gC : Nat} {K K' : kS → Prop} {S0 : kS} (hC : CL3 gA gB gC S0) (hk : ∀ S1, KO gA gB gC S0 S1 → K S1 → K' S1) : ∀ (n : Nat) (u : Nat × Int32 × kS), (u.1 = gA) → KO gA gB gC S0 u.2.2 → it (lT_X3_findChildren_2 K) n u → it (lT_X3_findChildren_2 K') n u := by
  intro n
  induction n with
  | zero => exact fun _ _ _ h => h
  | succ n ih => exact fun u m0 hF h => koT_X3_findChildren_2 hC hk ih m0 hF h
theorem koT_X3_findChildren {gA gB gC : Nat} (t0 : Nat) (m_t0 : t0 = gA) : Km3V gA gB gC (wT_X3_findChildren t0) := by
  intro S0 K K' hC hk h
  have hF : KO gA gB gC S0 S0 := KO_rf
  unfold wT_X3_findChildren at h ⊢
  obtain ⟨n9, h⟩ := h
  exact ⟨n9, kolT_X3_findChildren_2 hC hk n9 _ (by first | assumption | exact fun b hb => (by cases hb; assumption)) hF h⟩
theorem koT_X5_cellNamed_23 {gA gB gC : Nat} {K K' : kS → Int32 → Prop} {k23 k23' : Nat × Int32 × Int64 × Int32 × Int32 × kS → Prop} {S0 : kS} (hC : CL5 gA gB gC S0) (hk : ∀ S1 r1, KO gA gB gC S0 S1 → K S1 r1 → K' S1 r1) (hk23 : ∀ u : Nat × Int32 × Int64 × Int32 × Int32 × kS, (u.1 = gB) → KO gA gB gC S0 u.2.2.2.2.2 → k23 u → k23' u) {x0 : Nat} {x1 : Int32} {x2 : Int64} {x4 : Int32} {x5 : Int32} {S : kS} (m_x0 : x0 = gB) (hF : KO gA gB gC S0 S) (h : wT_X5_cellNamed_23 K k23 x0 x1 x2 x4 x5 S) : wT_X5_cellNamed_23 K' k23' x0 x1 x2 x4 x5 S := by
  unfold wT_X5_cellNamed_23 at h ⊢
  refine ⟨fun c => ?_, fun c => ?_⟩
  · replace h := h.1 c
    exact hk _ _ hF h
  · replace h := h.2 c
    intro z7 ez7
    replace h := h z7 ez7
    intro z8 ez8
    replace h := h z8 ez8
    intro z9 ez9
    replace h := h z9 ez9
    intro q10 eq10
    replace h := h q10 eq10
    refine ⟨h.1, ?_⟩
    replace h := h.2
    intro z11 ez11
    replace h := h z11 ez11
    intro z12 ez12
    replace h := h z12 ez12
    refine ⟨fun c => ?_, fun c => ?_⟩
    · replace h := h.1 c
      intro z14 ez14
      replace h := h z14 ez14
      exact hk23 _ (by first | assumption | exact fun b hb => (by cases hb; assumption)) hF h
    · replace h := h.2 c
      exact hk _ _ hF h
theorem kolT_X5_cellNamed_23 {gA gB gC : Nat} {K K' : kS → Int32 → Prop} {S0 : kS} (hC : CL5 gA gB gC S0) (hk : ∀ S1 r1, KO gA gB gC S0 S1 → K S1 r1 → K' S1 r1) : ∀ (n : Nat) (u : Nat × Int32 × Int64 × Int32 × Int32 × kS), (u.1 = gB) → KO gA gB gC S0 u.2.2.2.2.2 → it (lT_X5_cellNamed_23 K) n u → it (lT_X5_cellNamed_23 K') n u := by
  intro n
  induction n with
  | zero => exact fun _ _ _ h => h
  | succ n ih => exact fun u m0 hF h => koT_X5_cellNamed_23 hC hk ih m0 hF h
theorem koT_X5_cellNamed_18 {gA gB gC : Nat} {K K' : kS → Int32 → Prop} {S0 : kS} (hC : CL5 gA gB gC S0) (hk : ∀ S1 r1, KO gA gB gC S0 S1 → K S1 r1 → K' S1 r1) {x0 : Nat} {x1 : Int32} {x2 : Int64} {y0 : Int32} {S : kS} (m_x0 : x0 = gB) (hF : KO gA gB gC S0 S) (h : wT_X5_cellNamed_18 K x0 x1 x2 y0 S) : wT_X5_cellNamed_18 K' x0 x1 x2 y0 S := by
  unfold wT_X5_cellNamed_18 at h ⊢
  obtain ⟨n9, h⟩ := h
  exact ⟨n9, kolT_X5_cellNamed_23 hC hk n9 _ (by first | assumption | exact fun b hb => (by cases hb; assumption)) hF h⟩
theorem koT_X5_cellNamed {gA gB gC : Nat} (t0 : Nat) (a0 : Int32) (a1 : Int64) (m_t0 : t0 = gB) : Km5I gA gB gC (wT_X5_cellNamed t0 a0 a1) := by
  intro S0 K K' hC hk h
  have hF : KO gA gB gC S0 S0 := KO_rf
  unfold wT_X5_cellNamed at h ⊢
  refine koT_X5_has _ _ (by assumption) _ _ _ (CL5_k hC hF) (fun S1 r1 hG h => ?_) h
  replace hF := KO_t hF hG
  refine ⟨fun c => ?_, fun c => ?_⟩
  · replace h := h.1 c
    exact koT_X5_cellNamed_18 hC hk (by first | assumption | exact fun b hb => (by cases hb; assumption)) hF h
  · replace h := h.2 c
    intro z3 ez3
    replace h := h z3 ez3
    intro q4 eq4
    replace h := h q4 eq4
    refine ⟨h.1, ?_⟩
    replace h := h.2
    intro z5 ez5
    replace h := h z5 ez5
    exact koT_X5_cellNamed_18 hC hk (by first | assumption | exact fun b hb => (by cases hb; assumption)) hF h
theorem koT_X3_givenCell {gA gB gC : Nat} (t0 : Nat) (m_t0 : t0 = gA) : Km3V gA gB gC (wT_X3_givenCell t0) := by
  intro S0 K K' hC hk h
  have hF : KO gA gB gC S0 S0 := KO_rf
  unfold wT_X3_givenCell at h ⊢
  intro z1 ez1
  replace h := h z1 ez1
  have mz_z1 : ∀ b, z1 = some b → b = gB := fun b hb => mz15 hF hC (by assumption) ez1 hb
  obtain ⟨q2, eq2, h9⟩ := h
  replace h := h9
  clear h9
  refine ⟨q2, eq2, ?_⟩
  have m_q2 := mz_z1 q2 eq2
  intro z3 ez3
  replace h := h z3 ez3
  intro z4 ez4
  replace h := h z4 ez4
  refine koT_X3_kind _ (by assumption) _ _ _ (CL3_k hC hF) (fun S5 r5 hG h => ?_) h
  replace hF := KO_t hF hG
  refine ⟨fun c => ?_, fun c => ?_⟩
  · replace h := h.1 c
    intro z7 ez7
    replace h := h z7 ez7
    have mz_z7 : ∀ b, z7 = some b → b = gB := fun b hb => mz15 hF hC (by assumption) ez7 hb
    intro z8 ez8
    replace h := h z8 ez8
    intro q9 eq9
    replace h := h q9 eq9
    intro z10 ez10
    replace h := h z10 ez10
    intro z11 ez11
    replace h := h z11 ez11
    intro q12 eq12
    replace h := h q12 eq12
    refine ⟨h.1, ?_⟩
    replace h := h.2
    intro z13 ez13
    replace h := h z13 ez13
    obtain ⟨q14, eq14, h9⟩ := h
    replace h := h9
    clear h9
    refine ⟨q14, eq14, ?_⟩
    have m_q14 := mz_z7 q14 eq14
    refine koT_X5_cellNamed _ _ _ (by assumption) _ _ _ (CL3_5 hC hF) (fun S15 r15 hG h => ?_) h
    replace hF := KO_t hF hG
    refine ⟨fun c => ?_, fun c => ?_⟩
    · replace h := h.1 c
      intro z17 ez17
      replace h := h z17 ez17
      have mz_z17 : ∀ b, z17 = some b → b = gB := fun b hb => mz15 hF hC (by assumption) ez17 hb
      intro z18 ez18
      replace h := h z18 ez18
      intro q19 eq19
      replace h := h q19 eq19
      intro z20 ez20
      replace h := h z20 ez20
      intro z21 ez21
      replace h := h z21 ez21
      intro q22 eq22
      replace h := h q22 eq22
      refine ⟨h.1, ?_⟩
      replace h := h.2
      intro z23 ez23
      replace h := h z23 ez23
      obtain ⟨q24, eq24, h9⟩ := h
      replace h := h9
      clear h9
      refine ⟨q24, eq24, ?_⟩
      have m_q24 := mz_z17 q24 eq24
      refine koT_X5_cellOf _ _ (by assumption) _ _ _ (CL3_5 hC hF) (fun S25 r25 hG h => ?_) h
      replace hF := KO_t hF hG
      refine ⟨fun c => ?_, fun c => ?_⟩
      · replace h := h.1 c
        intro z27 ez27
        replace h := h z27 ez27
        have mz_z27 : ∀ b, z27 = some b → b = gB := fun b hb => mz15 hF hC (by assumption) ez27 hb
        obtain ⟨q28, eq28, h9⟩ := h
        replace h := h9
        clear h9
        refine ⟨q28, eq28, ?_⟩
        have m_q28 := mz_z27 q28 eq28
        intro z29 ez29
        replace h := h z29 ez29
        have oz_z29 : ∀ b, z29 = some b → OW9 gA gB gC S0 b := fun b hb => ozl (f := 34) hF (by decide) (by first | exact Or.inl (by assumption) | exact Or.inr (Or.inl (by assumption)) | exact Or.inr (Or.inr (by assumption))) ez29 hb
        intro q30 eq30
        replace h := h q30 eq30
        refine ⟨h.1, ?_⟩
        replace h := h.2
        intro z31 ez31
        replace h := h z31 ez31
        intro z32 ez32
        replace h := h z32 ez32
        refine ⟨h.1, ?_⟩
        replace h := h.2
        intro S33 eS33
        replace h := h S33 eS33
        replace hF := KO_a hF eS33 (oz_z29 _ eq30)
        refine koT_X3_step _ (by assumption) _ _ _ (CL3_k hC hF) (fun S34 hG h => ?_) h
        replace hF := KO_t hF hG
        exact hk _ hF h
      · replace h := h.2 c
        refine koT_X3_wrong _ _ (by assumption) _ _ _ (CL3_k hC hF) (fun S35 hG h => ?_) h
        replace hF := KO_t hF hG
        exact hk _ hF h
    · replace h := h.2 c
      refine koT_X3_wrong _ _ (by assumption) _ _ _ (CL3_k hC hF) (fun S36 hG h => ?_) h
      replace hF := KO_t hF hG
      exact hk _ hF h
  · replace h := h.2 c
    refine koT_X3_wrong _ _ (by assumption) _ _ _ (CL3_k hC hF) (fun S37 hG h => ?_) h
    replace hF := KO_t hF hG
    exact hk _ hF h
theorem koT_X5_openRoutine {gA gB gC : Nat} (t0 : Nat) (a0 : Int64) (m_t0 : t0 = gB) : Km5V gA gB gC (wT_X5_openRoutine t0 a0) := by
  intro S0 K K' hC hk h
  have hF : KO gA gB gC S0 S0 := KO_rf
  unfold wT_X5_openRoutine at h ⊢
  intro z1 ez1
  replace h := h z1 ez1
  refine ⟨fun c => ?_, fun c => ?_⟩
  · replace h := h.1 c
    exact hk _ hF h
  · replace h := h.2 c
    intro z3 ez3
    replace h := h z3 ez3
    intro z4 ez4
    replace h := h z4 ez4
    intro q5 eq5
    replace h := h q5 eq5
    refine ⟨h.1, ?_⟩
    replace h := h.2
    intro S6 eS6
    replace h := h S6 eS6
    replace hF := KO_l hF eS6
    intro z7 ez7
    replace h := h z7 ez7
    have oz_z7 : ∀ b, z7 = some b → OW9 gA gB gC S0 b := fun b hb => ozl (f := 32) hF (by decide) (by first | exact Or.inl (by assumption) | exact Or.inr (Or.inl (by assumption)) | exact Or.inr (Or.inr (by assumption))) ez7 hb
    intro z8 ez8
    replace h := h z8 ez8
    intro z9 ez9
    replace h := h z9 ez9
    intro q10 eq10
    replace h := h q10 eq10
    refine ⟨h.1, ?_⟩
    replace h := h.2
    intro S11 eS11
    replace h := h S11 eS11
    replace hF := KO_a hF eS11 (oz_z7 _ eq10)
    intro z12 ez12
    replace h := h z12 ez12
    have oz_z12 : ∀ b, z12 = some b → OW9 gA gB gC S0 b := fun b hb => ozl (f := 34) hF (by decide) (by first | exact Or.inl (by assumption) | exact Or.inr (Or.inl (by assumption)) | exact Or.inr (Or.inr (by assumption))) ez12 hb
    intro z13 ez13
    replace h := h z13 ez13
    intro q14 eq14
    replace h := h q14 eq14
    refine ⟨h.1, ?_⟩
    replace h := h.2
    intro S15 eS15
    replace h := h S15 eS15
    replace hF := KO_a hF eS15 (oz_z12 _ eq14)
    intro z16 ez16
    replace h := h z16 ez16
    have oz_z16 : ∀ b, z16 = some b → OW9 gA gB gC S0 b := fun b hb => ozl (f := 35) hF (by decide) (by first | exact Or.inl (by assumption) | exact Or.inr (Or.inl (by assumption)) | exact Or.inr (Or.inr (by assumption))) ez16 hb
    intro z17 ez17
    replace h := h z17 ez17
    intro q18 eq18
    replace h := h q18 eq18
    refine ⟨h.1, ?_⟩
    replace h := h.2
    intro S19 eS19
    replace h := h S19 eS19
    replace hF := KO_a hF eS19 (oz_z16 _ eq18)
    intro z20 ez20
    replace h := h z20 ez20
    have oz_z20 : ∀ b, z20 = some b → OW9 gA gB gC S0 b := fun b hb => ozl (f := 36) hF (by decide) (by first | exact Or.inl (by assumption) | exact Or.inr (Or.inl (by assumption)) | exact Or.inr (Or.inr (by assumption))) ez20 hb
    intro z21 ez21
    replace h := h z21 ez21
    intro q22 eq22
    replace h := h q22 eq22
    refine ⟨h.1, ?_⟩
    replace h := h.2
    intro S23 eS23
    replace h := h S23 eS23
    replace hF := KO_a hF eS23 (oz_z20 _ eq22)
    intro z24 ez24
    replace h := h z24 ez24
    intro z25 ez25
    replace h := h z25 ez25
    intro S26 eS26
    replace h := h S26 eS26
    replace hF := KO_i hF eS26 (by first | exact Or.inl (by assumption) | exact Or.inr (Or.inl (by assumption)) | exact Or.inr (Or.inr (by assumption)))
    exact hk _ hF h
