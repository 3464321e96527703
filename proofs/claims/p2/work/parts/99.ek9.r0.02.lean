
theorem koT_X3_header_137 {gA gB gC : Nat} {K K' : kS → Prop} {S0 : kS} (hC : CL3 gA gB gC S0) (hk : ∀ S1, KO gA gB gC S0 S1 → K S1 → K' S1) {x0 : Nat} {S : kS} (m_x0 : x0 = gA) (hF : KO gA gB gC S0 S) (h : wT_X3_header_137 K x0 S) : wT_X3_header_137 K' x0 S := by
  unfold wT_X3_header_137 at h ⊢
  refine koT_X3_need _ _ (by assumption) _ _ _ (CL3_k hC hF) (fun S40 hG h => ?_) h
  replace hF := KO_t hF hG
  exact hk _ hF h
theorem koT_X3_header_111 {gA gB gC : Nat} {K K' : kS → Prop} {k111 k111' : Nat × Int32 × kS → Prop} {S0 : kS} (hC : CL3 gA gB gC S0) (hk : ∀ S1, KO gA gB gC S0 S1 → K S1 → K' S1) (hk111 : ∀ u : Nat × Int32 × kS, (u.1 = gA) → KO gA gB gC S0 u.2.2 → k111 u → k111' u) {x0 : Nat} {x1 : Int32} {S : kS} (m_x0 : x0 = gA) (hF : KO gA gB gC S0 S) (h : wT_X3_header_111 K k111 x0 x1 S) : wT_X3_header_111 K' k111' x0 x1 S := by
  unfold wT_X3_header_111 at h ⊢
  refine ⟨fun c => ?_, fun c => ?_⟩
  · replace h := h.1 c
    exact koT_X3_header_137 hC hk (by first | assumption | exact fun b hb => (by cases hb; assumption)) hF h
  · replace h := h.2 c
    refine koT_X3_take _ _ (by assumption) _ _ _ (CL3_k hC hF) (fun S36 r36 hG h => ?_) h
    replace hF := KO_t hF hG
    refine ⟨fun c => ?_, fun c => ?_⟩
    · replace h := h.1 c
      exact koT_X3_header_137 hC hk (by first | assumption | exact fun b hb => (by cases hb; assumption)) hF h
    · replace h := h.2 c
      refine koT_X3_givenCell _ (by assumption) _ _ _ (CL3_k hC hF) (fun S38 hG h => ?_) h
      replace hF := KO_t hF hG
      intro z39 ez39
      replace h := h z39 ez39
      exact hk111 _ (by first | assumption | exact fun b hb => (by cases hb; assumption)) hF h
theorem kolT_X3_header_111 {gA gB gC : Nat} {K K' : kS → Prop} {S0 : kS} (hC : CL3 gA gB gC S0) (hk : ∀ S1, KO gA gB gC S0 S1 → K S1 → K' S1) : ∀ (n : Nat) (u : Nat × Int32 × kS), (u.1 = gA) → KO gA gB gC S0 u.2.2 → it (lT_X3_header_111 K) n u → it (lT_X3_header_111 K') n u := by
  intro n
  induction n with
  | zero => exact fun _ _ _ h => h
  | succ n ih => exact fun u m0 hF h => koT_X3_header_111 hC hk ih m0 hF h
theorem koT_X3_header_91 {gA gB gC : Nat} {K K' : kS → Prop} {S0 : kS} (hC : CL3 gA gB gC S0) (hk : ∀ S1, KO gA gB gC S0 S1 → K S1 → K' S1) {x0 : Nat} {S : kS} (m_x0 : x0 = gA) (hF : KO gA gB gC S0 S) (h : wT_X3_header_91 K x0 S) : wT_X3_header_91 K' x0 S := by
  unfold wT_X3_header_91 at h ⊢
  refine koT_X3_need _ _ (by assumption) _ _ _ (CL3_k hC hF) (fun S31 hG h => ?_) h
  replace hF := KO_t hF hG
  refine koT_X3_kind _ (by assumption) _ _ _ (CL3_k hC hF) (fun S32 r32 hG h => ?_) h
  replace hF := KO_t hF hG
  refine ⟨fun c => ?_, fun c => ?_⟩
  · replace h := h.1 c
    exact koT_X3_header_137 hC hk (by first | assumption | exact fun b hb => (by cases hb; assumption)) hF h
  · replace h := h.2 c
    refine koT_X3_givenCell _ (by assumption) _ _ _ (CL3_k hC hF) (fun S34 hG h => ?_) h
    replace hF := KO_t hF hG
    obtain ⟨n9, h⟩ := h
    exact ⟨n9, kolT_X3_header_111 hC hk n9 _ (by first | assumption | exact fun b hb => (by cases hb; assumption)) hF h⟩
theorem koT_X3_header_17 {gA gB gC : Nat} {K K' : kS → Prop} {S0 : kS} (hC : CL3 gA gB gC S0) (hk : ∀ S1, KO gA gB gC S0 S1 → K S1 → K' S1) {x0 : Nat} {S : kS} (m_x0 : x0 = gA) (hF : KO gA gB gC S0 S) (h : wT_X3_header_17 K x0 S) : wT_X3_header_17 K' x0 S := by
  unfold wT_X3_header_17 at h ⊢
  refine koT_X3_step _ (by assumption) _ _ _ (CL3_k hC hF) (fun S6 hG h => ?_) h
  replace hF := KO_t hF hG
  refine koT_X3_kind _ (by assumption) _ _ _ (CL3_k hC hF) (fun S7 r7 hG h => ?_) h
  replace hF := KO_t hF hG
  refine ⟨fun c => ?_, fun c => ?_⟩
  · replace h := h.1 c
    intro z9 ez9
    replace h := h z9 ez9
    have mz_z9 : ∀ b, z9 = some b → b = gB := fun b hb => mz15 hF hC (by assumption) ez9 hb
    intro z10 ez10
    replace h := h z10 ez10
    intro q11 eq11
    replace h := h q11 eq11
    intro z12 ez12
    replace h := h z12 ez12
    intro z13 ez13
    replace h := h z13 ez13
    intro q14 eq14
    replace h := h q14 eq14
    refine ⟨h.1, ?_⟩
    replace h := h.2
    intro z15 ez15
    replace h := h z15 ez15
    obtain ⟨q16, eq16, h9⟩ := h
    replace h := h9
    clear h9
    refine ⟨q16, eq16, ?_⟩
    have m_q16 := mz_z9 q16 eq16
    refine koT_X5_routineNamed _ _ (by assumption) _ _ _ (CL3_5 hC hF) (fun S17 r17 hG h => ?_) h
    replace hF := KO_t hF hG
    refine ⟨fun c => ?_, fun c => ?_⟩
    · replace h := h.1 c
      intro z19 ez19
      replace h := h z19 ez19
      have mz_z19 : ∀ b, z19 = some b → b = gB := fun b hb => mz15 hF hC (by assumption) ez19 hb
      intro z20 ez20
      replace h := h z20 ez20
      intro q21 eq21
      replace h := h q21 eq21
      intro z22 ez22
      replace h := h z22 ez22
      intro z23 ez23
      replace h := h z23 ez23
      intro q24 eq24
      replace h := h q24 eq24
      refine ⟨h.1, ?_⟩
      replace h := h.2
      intro z25 ez25
      replace h := h z25 ez25
      obtain ⟨q26, eq26, h9⟩ := h
      replace h := h9
      clear h9
      refine ⟨q26, eq26, ?_⟩
      have m_q26 := mz_z19 q26 eq26
      refine koT_X5_openRoutine _ _ (by assumption) _ _ _ (CL3_5 hC hF) (fun S27 hG h => ?_) h
      replace hF := KO_t hF hG
      refine koT_X3_step _ (by assumption) _ _ _ (CL3_k hC hF) (fun S28 hG h => ?_) h
      replace hF := KO_t hF hG
      exact koT_X3_header_91 hC hk (by first | assumption | exact fun b hb => (by cases hb; assumption)) hF h
    · replace h := h.2 c
      refine koT_X3_wrong _ _ (by assumption) _ _ _ (CL3_k hC hF) (fun S29 hG h => ?_) h
      replace hF := KO_t hF hG
      exact koT_X3_header_91 hC hk (by first | assumption | exact fun b hb => (by cases hb; assumption)) hF h
  · replace h := h.2 c
    refine koT_X3_wrong _ _ (by assumption) _ _ _ (CL3_k hC hF) (fun S30 hG h => ?_) h
    replace hF := KO_t hF hG
    exact koT_X3_header_91 hC hk (by first | assumption | exact fun b hb => (by cases hb; assumption)) hF h
theorem koT_X3_header {gA gB gC : Nat} (t0 : Nat) (m_t0 : t0 = gA) : Km3V gA gB gC (wT_X3_header t0) := by
  intro S0 K K' hC hk h
  have hF : KO gA gB gC S0 S0 := KO_rf
  unfold wT_X3_header at h ⊢
  intro z1 ez1
  replace h := h z1 ez1
  have mz_z1 : ∀ b, z1 = some b → b = gB := fun b hb => mz15 hF hC (by assumption) ez1 hb
  obtain ⟨q2, eq2, h9⟩ := h
  replace h := h9
  clear h9
  refine ⟨q2, eq2, ?_⟩
  have m_q2 := mz_z1 q2 eq2
  intro z3 ez3
  replace h := h z3 ez3
  refine ⟨fun c => ?_, fun c => ?_⟩
  · replace h := h.1 c
    exact koT_X3_header_17 hC hk (by first | assumption | exact fun b hb => (by cases hb; assumption)) hF h
  · replace h := h.2 c
    refine koT_X3_wrong _ _ (by assumption) _ _ _ (CL3_k hC hF) (fun S5 hG h => ?_) h
    replace hF := KO_t hF hG
    exact koT_X3_header_17 hC hk (by first | assumption | exact fun b hb => (by cases hb; assumption)) hF h
theorem koT_X7_clear {gA gB gC : Nat} (t0 : Nat) (m_t0 : t0 = gC) : Km5V gA gB gC (wT_X7_clear t0) := by
  intro S0 K K' hC hk h
  have hF : KO gA gB gC S0 S0 := KO_rf
  unfold wT_X7_clear at h ⊢
  intro S1 eS1
  replace h := h S1 eS1
  replace hF := KO_i hF eS1 (by first | exact Or.inl (by assumption) | exact Or.inr (Or.inl (by assumption)) | exact Or.inr (Or.inr (by assumption)))
  intro S2 eS2
  replace h := h S2 eS2
  replace hF := KO_i hF eS2 (by first | exact Or.inl (by assumption) | exact Or.inr (Or.inl (by assumption)) | exact Or.inr (Or.inr (by assumption)))
  exact hk _ hF h
theorem koT_X5_clear {gA gB gC : Nat} (t0 : Nat) (m_t0 : t0 = gB) : Km5V gA gB gC (wT_X5_clear t0) := by
  intro S0 K K' hC hk h
  have hF : KO gA gB gC S0 S0 := KO_rf
  unfold wT_X5_clear at h ⊢
  intro S1 eS1
  replace h := h S1 eS1
  replace hF := KO_i hF eS1 (by first | exact Or.inl (by assumption) | exact Or.inr (Or.inl (by assumption)) | exact Or.inr (Or.inr (by assumption)))
  intro S2 eS2
  replace h := h S2 eS2
  replace hF := KO_i hF eS2 (by first | exact Or.inl (by assumption) | exact Or.inr (Or.inl (by assumption)) | exact Or.inr (Or.inr (by assumption)))
  intro z3 ez3
  replace h := h z3 ez3
  have mz_z3 : ∀ b, z3 = some b → b = gC := fun b hb => mz31 hF hC (by assumption) ez3 hb
  intro q4 eq4
  replace h := h q4 eq4
  have m_q4 := mz_z3 q4 eq4
  refine koT_X7_clear _ (by assumption) _ _ _ (CL5_k hC hF) (fun S5 hG h => ?_) h
  replace hF := KO_t hF hG
  exact hk _ hF h
theorem koT_X5_closeRoutine {gA gB gC : Nat} (t0 : Nat) (m_t0 : t0 = gB) : Km5V gA gB gC (wT_X5_closeRoutine t0) := by
  intro S0 K K' hC hk h
  have hF : KO gA gB gC S0 S0 := KO_rf
  unfold wT_X5_closeRoutine at h ⊢
  intro z1 ez1
  replace h := h z1 ez1
  refine ⟨fun c => ?_, fun c => ?_⟩
  · replace h := h.1 c
    exact hk _ hF h
  · replace h := h.2 c
    intro z3 ez3
    replace h := h z3 ez3
    have oz_z3 : ∀ b, z3 = some b → OW9 gA gB gC S0 b := fun b hb => ozl (f := 33) hF (by decide) (by first | exact Or.inl (by assumption) | exact Or.inr (Or.inl (by assumption)) | exact Or.inr (Or.inr (by assumption))) ez3 hb
    intro z4 ez4
    replace h := h z4 ez4
    intro z5 ez5
    replace h := h z5 ez5
    refine koT_X5_emit _ _ _ _ (by assumption) _ _ _ (CL5_k hC hF) (fun S6 r6 hG h => ?_) h
    replace hF := KO_t hF hG
    intro q7 eq7
    replace h := h q7 eq7
    refine ⟨h.1, ?_⟩
    replace h := h.2
    intro S8 eS8
    replace h := h S8 eS8
    replace hF := KO_a hF eS8 (oz_z3 _ eq7)
    exact hk _ hF h
theorem koT_X3_read_105 {gA gB gC : Nat} {K K' : kS → Int32 → Prop} {S0 : kS} (hC : CL3 gA gB gC S0) (hk : ∀ S1 r1, KO gA gB gC S0 S1 → K S1 r1 → K' S1 r1) {x0 : Nat} {S : kS} (m_x0 : x0 = gA) (hF : KO gA gB gC S0 S) (h : wT_X3_read_105 K x0 S) : wT_X3_read_105 K' x0 S := by
  unfold wT_X3_read_105 at h ⊢
  refine koT_X3_findChildren _ (by assumption) _ _ _ (CL3_k hC hF) (fun S27 hG h => ?_) h
  replace hF := KO_t hF hG
  intro z28 ez28
  replace h := h z28 ez28
  exact hk _ _ hF h
theorem koT_X3_read_93 {gA gB gC : Nat} {K K' : kS → Int32 → Prop} {S0 : kS} (hC : CL3 gA gB gC S0) (hk : ∀ S1 r1, KO gA gB gC S0 S1 → K S1 r1 → K' S1 r1) {x0 : Nat} {S : kS} (m_x0 : x0 = gA) (hF : KO gA gB gC S0 S) (h : wT_X3_read_93 K x0 S) : wT_X3_read_93 K' x0 S := by
  unfold wT_X3_read_93 at h ⊢
  refine koT_X3_kind _ (by assumption) _ _ _ (CL3_k hC hF) (fun S24 r24 hG h => ?_) h
  replace hF := KO_t hF hG
  refine ⟨fun c => ?_, fun c => ?_⟩
  · replace h := h.1 c
    exact koT_X3_read_105 hC hk (by first | assumption | exact fun b hb => (by cases hb; assumption)) hF h
  · replace h := h.2 c
    refine koT_X3_wrong _ _ (by assumption) _ _ _ (CL3_k hC hF) (fun S26 hG h => ?_) h
    replace hF := KO_t hF hG
    exact koT_X3_read_105 hC hk (by first | assumption | exact fun b hb => (by cases hb; assumption)) hF h
theorem koT_X3_read_55 {gA gB gC : Nat} {K K' : kS → Int32 → Prop} {k55 k55' : Nat × Int32 × kS → Prop} {S0 : kS} (hC : CL3 gA gB gC S0) (hk : ∀ S1 r1, KO gA gB gC S0 S1 → K S1 r1 → K' S1 r1) (hk55 : ∀ u : Nat × Int32 × kS, (u.1 = gA) → KO gA gB gC S0 u.2.2 → k55 u → k55' u) {x0 : Nat} {x2 : Int32} {S : kS} (m_x0 : x0 = gA) (hF : KO gA gB gC S0 S) (h : wT_X3_read_55 K k55 x0 x2 S) : wT_X3_read_55 K' k55' x0 x2 S := by
  unfold wT_X3_read_55 at h ⊢
  refine ⟨fun c => ?_, fun c => ?_⟩
  · replace h := h.1 c
    exact koT_X3_read_93 hC hk (by first | assumption | exact fun b hb => (by cases hb; assumption)) hF h
  · replace h := h.2 c
    refine koT_X3_kind _ (by assumption) _ _ _ (CL3_k hC hF) (fun S16 r16 hG h => ?_) h
    replace hF := KO_t hF hG
    refine ⟨fun c => ?_, fun c => ?_⟩
    · replace h := h.1 c
      exact koT_X3_read_93 hC hk (by first | assumption | exact fun b hb => (by cases hb; assumption)) hF h
    · replace h := h.2 c
      refine koT_X3_header _ (by assumption) _ _ _ (CL3_k hC hF) (fun S18 hG h => ?_) h
      replace hF := KO_t hF hG
      refine kxT_X3_block _ _ (by assumption) _ _ _ (CL3_k hC hF) (fun S19 hG h => ?_) h
      replace hF := KO_t hF hG
      intro z20 ez20
      replace h := h z20 ez20
      have mz_z20 : ∀ b, z20 = some b → b = gB := fun b hb => mz15 hF hC (by assumption) ez20 hb
      obtain ⟨q21, eq21, h9⟩ := h
      replace h := h9
      clear h9
      refine ⟨q21, eq21, ?_⟩
      have m_q21 := mz_z20 q21 eq21
      refine koT_X5_closeRoutine _ (by assumption) _ _ _ (CL3_5 hC hF) (fun S22 hG h => ?_) h
      replace hF := KO_t hF hG
      intro z23 ez23
      replace h := h z23 ez23
      exact hk55 _ (by first | assumption | exact fun b hb => (by cases hb; assumption)) hF h
theorem kolT_X3_read_55 {gA gB gC : Nat} {K K' : kS → Int32 → Prop} {S0 : kS} (hC : CL3 gA gB gC S0) (hk : ∀ S1 r1, KO gA gB gC S0 S1 → K S1 r1 → K' S1 r1) : ∀ (n : Nat) (u : Nat × Int32 × kS), (u.1 = gA) → KO gA gB gC S0 u.2.2 → it (lT_X3_read_55 K) n u → it (lT_X3_read_55 K') n u := by
  intro n
  induction n with
  | zero => exact fun _ _ _ h => h
  | succ n ih => exact fun u m0 hF h => koT_X3_read_55 hC hk ih m0 hF h
