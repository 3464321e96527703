
section KOs
variable {gA gB gC : Nat} {S0 S S1 : kS}
def A39 (gA gB gC o : Nat) : Prop := o = gA ∨ o = gB ∨ o = gC
/-- b is an array of the parser gA, the program gB, the scopes gC -/
def OW9 (gA gB gC : Nat) (S : kS) (b : Nat) : Prop := ∃ f, f ∈ arrL ∧ ∃ o, A39 gA gB gC o ∧ S.2.1 f o = some b
def KO (gA gB gC : Nat) (S S1 : kS) : Prop := (∀ f o, ¬ A39 gA gB gC o → S1.1 f o = S.1 f o) ∧ (∀ f, S1.2.1 f = S.2.1 f) ∧ ∀ b, ¬ OW9 gA gB gC S b → S1.2.2.1 b = S.2.2.1 b
def CL5 (gA gB gC : Nat) (S : kS) : Prop := S.2.1 31 gB = some gC
def CL3 (gA gB gC : Nat) (S : kS) : Prop := CL5 gA gB gC S ∧ S.2.1 15 gA = some gB ∧ S.2.1 16 gA = some gC
theorem CL5_k (c : CL5 gA gB gC S0) (h : KO gA gB gC S0 S) : CL5 gA gB gC S := by unfold CL5; rw [h.2.1]; exact c
theorem CL3_k (c : CL3 gA gB gC S0) (h : KO gA gB gC S0 S) : CL3 gA gB gC S := ⟨CL5_k c.1 h, by rw [h.2.1]; exact c.2.1, by rw [h.2.1]; exact c.2.2⟩
theorem CL3_5 (c : CL3 gA gB gC S0) (h : KO gA gB gC S0 S) : CL5 gA gB gC S := CL5_k c.1 h
theorem mz15 {o b : Nat} {z : Option Nat} (hF : KO gA gB gC S0 S) (c : CL3 gA gB gC S0) (m : o = gA) (e : z = S.2.1 15 o) (hb : z = some b) : b = gB := by
  rw [e, hF.2.1, m, c.2.1] at hb
  exact (Option.some.inj hb).symm
theorem mz16 {o b : Nat} {z : Option Nat} (hF : KO gA gB gC S0 S) (c : CL3 gA gB gC S0) (m : o = gA) (e : z = S.2.1 16 o) (hb : z = some b) : b = gC := by
  rw [e, hF.2.1, m, c.2.2] at hb
  exact (Option.some.inj hb).symm
theorem mz31 {o b : Nat} {z : Option Nat} (hF : KO gA gB gC S0 S) (c : CL5 gA gB gC S0) (m : o = gB) (e : z = S.2.1 31 o) (hb : z = some b) : b = gC := by
  rw [e, hF.2.1, m, c] at hb
  exact (Option.some.inj hb).symm
theorem ozl {f o b : Nat} {z : Option Nat} (hF : KO gA gB gC S0 S) (hf : f ∈ arrL) (m : A39 gA gB gC o) (e : z = S.2.1 f o) (hb : z = some b) : OW9 gA gB gC S0 b := ⟨f, hf, o, m, by rw [← hF.2.1 f]; exact e.symm.trans hb⟩
theorem KO_rf : KO gA gB gC S S := ⟨fun _ _ _ => rfl, fun _ => rfl, fun _ _ => rfl⟩
theorem KO_i {f a : Nat} {v : Int32} (hF : KO gA gB gC S0 S) (e : S1 = cI S f a v) (ha : A39 gA gB gC a) : KO gA gB gC S0 S1 := by
  refine ⟨fun g o ho => ?_, by rw [e]; exact hF.2.1, by rw [e]; exact hF.2.2⟩
  rw [e, k_ii, if_neg (fun c => ho (by rw [c.2]; exact ha))]
  exact hF.1 g o ho
theorem KO_a {q i : Nat} {v : Int32} (hF : KO gA gB gC S0 S) (e : S1 = cA S q i v) (hq : OW9 gA gB gC S0 q) : KO gA gB gC S0 S1 := by
  refine ⟨by rw [e]; exact hF.1, by rw [e]; exact hF.2.1, fun b hb => ?_⟩
  rw [← hF.2.2 b hb, e]
  show va_up S.2.2.1 q _ b = _
  rw [va_up_ne _ _ (fun h : b = q => hb (by rw [h]; exact hq))]
theorem KO_l {q i : Nat} {v : Int64} (hF : KO gA gB gC S0 S) (e : S1 = cL S q i v) : KO gA gB gC S0 S1 := by
  rw [e]
  exact hF
theorem KO_t (hF : KO gA gB gC S0 S) (hG : KO gA gB gC S S1) : KO gA gB gC S0 S1 := ⟨fun f o ho => (hG.1 f o ho).trans (hF.1 f o ho), fun f => (hG.2.1 f).trans (hF.2.1 f), fun b hb => (hG.2.2 b (fun ⟨f, hf, o, ho, e⟩ => hb ⟨f, hf, o, ho, by rw [← hF.2.1 f]; exact e⟩)).trans (hF.2.2 b hb)⟩
end KOs
def Km3V (gA gB gC : Nat) (r : kS → (kS → Prop) → Prop) : Prop := ∀ (S : kS) (K K' : kS → Prop), CL3 gA gB gC S → (∀ S1, KO gA gB gC S S1 → K S1 → K' S1) → r S K → r S K'
def Km5V (gA gB gC : Nat) (r : kS → (kS → Prop) → Prop) : Prop := ∀ (S : kS) (K K' : kS → Prop), CL5 gA gB gC S → (∀ S1, KO gA gB gC S S1 → K S1 → K' S1) → r S K → r S K'
def Km3I (gA gB gC : Nat) (r : kS → (kS → Int32 → Prop) → Prop) : Prop := ∀ (S : kS) (K K' : kS → Int32 → Prop), CL3 gA gB gC S → (∀ S1 r1, KO gA gB gC S S1 → K S1 r1 → K' S1 r1) → r S K → r S K'
def Km5I (gA gB gC : Nat) (r : kS → (kS → Int32 → Prop) → Prop) : Prop := ∀ (S : kS) (K K' : kS → Int32 → Prop), CL5 gA gB gC S → (∀ S1 r1, KO gA gB gC S S1 → K S1 r1 → K' S1 r1) → r S K → r S K'
def Km3L (gA gB gC : Nat) (r : kS → (kS → Int64 → Prop) → Prop) : Prop := ∀ (S : kS) (K K' : kS → Int64 → Prop), CL3 gA gB gC S → (∀ S1 r1, KO gA gB gC S S1 → K S1 r1 → K' S1 r1) → r S K → r S K'
def Km5L (gA gB gC : Nat) (r : kS → (kS → Int64 → Prop) → Prop) : Prop := ∀ (S : kS) (K K' : kS → Int64 → Prop), CL5 gA gB gC S → (∀ S1 r1, KO gA gB gC S S1 → K S1 r1 → K' S1 r1) → r S K → r S K'
def Km3O (gA gB gC : Nat) (r : kS → (kS → Option Nat → Prop) → Prop) : Prop := ∀ (S : kS) (K K' : kS → Option Nat → Prop), CL3 gA gB gC S → (∀ S1 r1, KO gA gB gC S S1 → K S1 r1 → K' S1 r1) → r S K → r S K'
def Km5O (gA gB gC : Nat) (r : kS → (kS → Option Nat → Prop) → Prop) : Prop := ∀ (S : kS) (K K' : kS → Option Nat → Prop), CL5 gA gB gC S → (∀ S1 r1, KO gA gB gC S S1 → K S1 r1 → K' S1 r1) → r S K → r S K'
theorem koT_X5_has {gA gB gC : Nat} (t0 : Nat) (a0 : Int32) (m_t0 : t0 = gB) : Km5I gA gB gC (wT_X5_has t0 a0) := by
  intro S0 K K' hC hk h
  have hF : KO gA gB gC S0 S0 := KO_rf
  unfold wT_X5_has at h ⊢
  refine ⟨fun c => ?_, fun c => ?_⟩
  · replace h := h.1 c
    exact hk _ _ hF h
  · replace h := h.2 c
    intro z2 ez2
    replace h := h z2 ez2
    refine ⟨fun c => ?_, fun c => ?_⟩
    · replace h := h.1 c
      exact hk _ _ hF h
    · replace h := h.2 c
      exact hk _ _ hF h
theorem koT_X3_kind {gA gB gC : Nat} (t0 : Nat) (m_t0 : t0 = gA) : Km3I gA gB gC (wT_X3_kind t0) := by
  intro S0 K K' hC hk h
  have hF : KO gA gB gC S0 S0 := KO_rf
  unfold wT_X3_kind at h ⊢
  intro z1 ez1
  replace h := h z1 ez1
  intro q2 eq2
  replace h := h q2 eq2
  intro z3 ez3
  replace h := h z3 ez3
  intro z4 ez4
  replace h := h z4 ez4
  intro q5 eq5
  replace h := h q5 eq5
  refine ⟨h.1, ?_⟩
  replace h := h.2
  intro z6 ez6
  replace h := h z6 ez6
  exact hk _ _ hF h
theorem koT_X3_step {gA gB gC : Nat} (t0 : Nat) (m_t0 : t0 = gA) : Km3V gA gB gC (wT_X3_step t0) := by
  intro S0 K K' hC hk h
  have hF : KO gA gB gC S0 S0 := KO_rf
  unfold wT_X3_step at h ⊢
  intro z1 ez1
  replace h := h z1 ez1
  intro z2 ez2
  replace h := h z2 ez2
  intro z3 ez3
  replace h := h z3 ez3
  intro q4 eq4
  replace h := h q4 eq4
  intro z5 ez5
  replace h := h z5 ez5
  refine ⟨fun c => ?_, fun c => ?_⟩
  · replace h := h.1 c
    exact hk _ hF h
  · replace h := h.2 c
    intro z7 ez7
    replace h := h z7 ez7
    intro z8 ez8
    replace h := h z8 ez8
    intro S9 eS9
    replace h := h S9 eS9
    replace hF := KO_i hF eS9 (by first | exact Or.inl (by assumption) | exact Or.inr (Or.inl (by assumption)) | exact Or.inr (Or.inr (by assumption)))
    exact hk _ hF h
theorem koT_X3_wrong {gA gB gC : Nat} (t0 : Nat) (a0 : Int32) (m_t0 : t0 = gA) : Km3V gA gB gC (wT_X3_wrong t0 a0) := by
  intro S0 K K' hC hk h
  have hF : KO gA gB gC S0 S0 := KO_rf
  unfold wT_X3_wrong at h ⊢
  intro z1 ez1
  replace h := h z1 ez1
  refine ⟨fun c => ?_, fun c => ?_⟩
  · replace h := h.1 c
    exact hk _ hF h
  · replace h := h.2 c
    intro z3 ez3
    replace h := h z3 ez3
    intro q4 eq4
    replace h := h q4 eq4
    intro z5 ez5
    replace h := h z5 ez5
    intro z6 ez6
    replace h := h z6 ez6
    intro q7 eq7
    replace h := h q7 eq7
    refine ⟨h.1, ?_⟩
    replace h := h.2
    intro z8 ez8
    replace h := h z8 ez8
    intro z9 ez9
    replace h := h z9 ez9
    intro z10 ez10
    replace h := h z10 ez10
    intro S11 eS11
    replace h := h S11 eS11
    replace hF := KO_i hF eS11 (by first | exact Or.inl (by assumption) | exact Or.inr (Or.inl (by assumption)) | exact Or.inr (Or.inr (by assumption)))
    intro S12 eS12
    replace h := h S12 eS12
    replace hF := KO_i hF eS12 (by first | exact Or.inl (by assumption) | exact Or.inr (Or.inl (by assumption)) | exact Or.inr (Or.inr (by assumption)))
    exact hk _ hF h
theorem koT_X5_cellOf_16 {gA gB gC : Nat} {K K' : kS → Int32 → Prop} {k16 k16' : Nat × Int64 × Int32 × Int32 × kS → Prop} {S0 : kS} (hC : CL5 gA gB gC S0) (hk : ∀ S1 r1, KO gA gB gC S0 S1 → K S1 r1 → K' S1 r1) (hk16 : ∀ u : Nat × Int64 × Int32 × Int32 × kS, (u.1 = gB) → KO gA gB gC S0 u.2.2.2.2 → k16 u → k16' u) {x0 : Nat} {x1 : Int64} {x3 : Int32} {x4 : Int32} {S : kS} (m_x0 : x0 = gB) (hF : KO gA gB gC S0 S) (h : wT_X5_cellOf_16 K k16 x0 x1 x3 x4 S) : wT_X5_cellOf_16 K' k16' x0 x1 x3 x4 S := by
  unfold wT_X5_cellOf_16 at h ⊢
  intro z4 ez4
  replace h := h z4 ez4
  intro q5 eq5
  replace h := h q5 eq5
  refine ⟨h.1, ?_⟩
  replace h := h.2
  intro z6 ez6
  replace h := h z6 ez6
  refine ⟨fun c => ?_, fun c => ?_⟩
  · replace h := h.1 c
    intro z8 ez8
    replace h := h z8 ez8
    intro q9 eq9
    replace h := h q9 eq9
    refine ⟨h.1, ?_⟩
    replace h := h.2
    intro z10 ez10
    replace h := h z10 ez10
    refine ⟨fun c => ?_, fun c => ?_⟩
    · replace h := h.1 c
      intro z12 ez12
      replace h := h z12 ez12
      intro z13 ez13
      replace h := h z13 ez13
      intro z14 ez14
      replace h := h z14 ez14
      intro q15 eq15
      replace h := h q15 eq15
      refine ⟨h.1, ?_⟩
      replace h := h.2
      intro z16 ez16
      replace h := h z16 ez16
      intro z17 ez17
      replace h := h z17 ez17
      intro q18 eq18
      replace h := h q18 eq18
      refine ⟨h.1, ?_⟩
      replace h := h.2
      intro S19 eS19
      replace h := h S19 eS19
      replace hF := KO_l hF eS19
      intro z20 ez20
      replace h := h z20 ez20
      have oz_z20 : ∀ b, z20 = some b → OW9 gA gB gC S0 b := fun b hb => ozl (f := 35) hF (by decide) (by first | exact Or.inl (by assumption) | exact Or.inr (Or.inl (by assumption)) | exact Or.inr (Or.inr (by assumption))) ez20 hb
      intro q21 eq21
      replace h := h q21 eq21
      refine ⟨h.1, ?_⟩
      replace h := h.2
      intro z22 ez22
      replace h := h z22 ez22
      intro z23 ez23
      replace h := h z23 ez23
      refine ⟨h.1, ?_⟩
      replace h := h.2
      intro S24 eS24
      replace h := h S24 eS24
      replace hF := KO_a hF eS24 (oz_z20 _ eq21)
      intro z25 ez25
      replace h := h z25 ez25
      intro q26 eq26
      replace h := h q26 eq26
      refine ⟨h.1, ?_⟩
      replace h := h.2
      intro z27 ez27
      replace h := h z27 ez27
      intro z28 ez28
      replace h := h z28 ez28
      exact hk _ _ hF h
    · replace h := h.2 c
      exact hk _ _ hF h
  · replace h := h.2 c
    intro z29 ez29
    replace h := h z29 ez29
    intro z30 ez30
    replace h := h z30 ez30
    intro z31 ez31
    replace h := h z31 ez31
    intro q32 eq32
    replace h := h q32 eq32
    refine ⟨h.1, ?_⟩
    replace h := h.2
    intro z33 ez33
    replace h := h z33 ez33
    intro z34 ez34
    replace h := h z34 ez34
    refine ⟨fun c => ?_, fun c => ?_⟩
    · replace h := h.1 c
      intro z36 ez36
      replace h := h z36 ez36
      exact hk16 _ (by first | assumption | exact fun b hb => (by cases hb; assumption)) hF h
    · replace h := h.2 c
      exact hk _ _ hF h
theorem kolT_X5_cellOf_16 {gA gB gC : Nat} {K K' : kS → Int32 → Prop} {S0 : kS} (hC : CL5 gA gB gC S0) (hk : ∀ S1 r1, KO gA gB gC S0 S1 → K S1 r1 → K' S1 r1) : ∀ (n : Nat) (u : Nat × Int64 × Int32 × Int32 × kS), (u.1 = gB) → KO gA gB gC S0 u.2.2.2.2 → it (lT_X5_cellOf_16 K) n u → it (lT_X5_cellOf_16 K') n u := by
  intro n
  induction n with
  | zero => exact fun _ _ _ h => h
  | succ n ih => exact fun u m0 hF h => koT_X5_cellOf_16 hC hk ih m0 hF h
theorem koT_X5_cellOf {gA gB gC : Nat} (t0 : Nat) (a0 : Int64) (m_t0 : t0 = gB) : Km5I gA gB gC (wT_X5_cellOf t0 a0) := by
  intro S0 K K' hC hk h
  have hF : KO gA gB gC S0 S0 := KO_rf
  unfold wT_X5_cellOf at h ⊢
  intro z1 ez1
  replace h := h z1 ez1
  intro z2 ez2
  replace h := h z2 ez2
  refine ⟨fun c => ?_, fun c => ?_⟩
  · replace h := h.1 c
    obtain ⟨n9, h⟩ := h
    exact ⟨n9, kolT_X5_cellOf_16 hC hk n9 _ (by first | assumption | exact fun b hb => (by cases hb; assumption)) hF h⟩
  · replace h := h.2 c
    exact hk _ _ hF h
theorem koT_X3_cellHere {gA gB gC : Nat} (t0 : Nat) (m_t0 : t0 = gA) : Km3I gA gB gC (wT_X3_cellHere t0) := by
  intro S0 K K' hC hk h
  have hF : KO gA gB gC S0 S0 := KO_rf
  unfold wT_X3_cellHere at h ⊢
  refine koT_X3_kind _ (by assumption) _ _ _ (CL3_k hC hF) (fun S1 r1 hG h => ?_) h
  replace hF := KO_t hF hG
  refine ⟨fun c => ?_, fun c => ?_⟩
  · replace h := h.1 c
    intro z3 ez3
    replace h := h z3 ez3
    have mz_z3 : ∀ b, z3 = some b → b = gB := fun b hb => mz15 hF hC (by assumption) ez3 hb
    intro z4 ez4
    replace h := h z4 ez4
    intro q5 eq5
    replace h := h q5 eq5
    intro z6 ez6
    replace h := h z6 ez6
    intro z7 ez7
    replace h := h z7 ez7
    intro q8 eq8
    replace h := h q8 eq8
    refine ⟨h.1, ?_⟩
    replace h := h.2
    intro z9 ez9
    replace h := h z9 ez9
    obtain ⟨q10, eq10, h9⟩ := h
    replace h := h9
    clear h9
    refine ⟨q10, eq10, ?_⟩
    have m_q10 := mz_z3 q10 eq10
    refine koT_X5_cellOf _ _ (by assumption) _ _ _ (CL3_5 hC hF) (fun S11 r11 hG h => ?_) h
    replace hF := KO_t hF hG
    refine ⟨fun c => ?_, fun c => ?_⟩
    · replace h := h.1 c
      refine koT_X3_step _ (by assumption) _ _ _ (CL3_k hC hF) (fun S13 hG h => ?_) h
      replace hF := KO_t hF hG
      exact hk _ _ hF h
    · replace h := h.2 c
      refine koT_X3_wrong _ _ (by assumption) _ _ _ (CL3_k hC hF) (fun S14 hG h => ?_) h
      replace hF := KO_t hF hG
      exact hk _ _ hF h
  · replace h := h.2 c
    refine koT_X3_wrong _ _ (by assumption) _ _ _ (CL3_k hC hF) (fun S15 hG h => ?_) h
    replace hF := KO_t hF hG
    exact hk _ _ hF h
theorem koT_X5_emit {gA gB gC : Nat} (t0 : Nat) (a0 : Int32) (a1 : Int32) (a2 : Int32) (m_t0 : t0 = gB) : Km5I gA gB gC (wT_X5_emit t0 a0 a1 a2) := by
  intro S0 K K' hC hk h
  have hF : KO gA gB gC S0 S0 := KO_rf
  unfold wT_X5_emit at h ⊢
  intro z1 ez1
  replace h := h z1 ez1
  refine ⟨fun c => ?_, fun c => ?_⟩
  · replace h := h.1 c
    intro z3 ez3
    replace h := h z3 ez3
    have oz_z3 : ∀ b, z3 = some b → OW9 gA gB gC S0 b := fun b hb => ozl (f := 28) hF (by decide) (by first | exact Or.inl (by assumption) | exact Or.inr (Or.inl (by assumption)) | exact Or.inr (Or.inr (by assumption))) ez3 hb
    intro z4 ez4
    replace h := h z4 ez4
    intro q5 eq5
    replace h := h q5 eq5
    refine ⟨h.1, ?_⟩
    replace h := h.2
    intro S6 eS6
    replace h := h S6 eS6
    replace hF := KO_a hF eS6 (oz_z3 _ eq5)
    intro z7 ez7
    replace h := h z7 ez7
    have oz_z7 : ∀ b, z7 = some b → OW9 gA gB gC S0 b := fun b hb => ozl (f := 29) hF (by decide) (by first | exact Or.inl (by assumption) | exact Or.inr (Or.inl (by assumption)) | exact Or.inr (Or.inr (by assumption))) ez7 hb
    intro z8 ez8
    replace h := h z8 ez8
    intro q9 eq9
    replace h := h q9 eq9
    refine ⟨h.1, ?_⟩
    replace h := h.2
    intro S10 eS10
    replace h := h S10 eS10
    replace hF := KO_a hF eS10 (oz_z7 _ eq9)
    intro z11 ez11
    replace h := h z11 ez11
    have oz_z11 : ∀ b, z11 = some b → OW9 gA gB gC S0 b := fun b hb => ozl (f := 30) hF (by decide) (by first | exact Or.inl (by assumption) | exact Or.inr (Or.inl (by assumption)) | exact Or.inr (Or.inr (by assumption))) ez11 hb
    intro z12 ez12
    replace h := h z12 ez12
    intro q13 eq13
    replace h := h q13 eq13
    refine ⟨h.1, ?_⟩
    replace h := h.2
    intro S14 eS14
    replace h := h S14 eS14
    replace hF := KO_a hF eS14 (oz_z11 _ eq13)
    intro z15 ez15
    replace h := h z15 ez15
    intro z16 ez16
    replace h := h z16 ez16
    intro S17 eS17
    replace h := h S17 eS17
    replace hF := KO_i hF eS17 (by first | exact Or.inl (by assumption) | exact Or.inr (Or.inl (by assumption)) | exact Or.inr (Or.inr (by assumption)))
    intro z18 ez18
    replace h := h z18 ez18
    intro z19 ez19
    replace h := h z19 ez19
    exact hk _ _ hF h
  · replace h := h.2 c
    exact hk _ _ hF h
theorem koT_X3_emit {gA gB gC : Nat} (t0 : Nat) (a0 : Int32) (a1 : Int32) (m_t0 : t0 = gA) : Km3I gA gB gC (wT_X3_emit t0 a0 a1) := by
  intro S0 K K' hC hk h
  have hF : KO gA gB gC S0 S0 := KO_rf
  unfold wT_X3_emit at h ⊢
  intro z1 ez1
  replace h := h z1 ez1
  have mz_z1 : ∀ b, z1 = some b → b = gB := fun b hb => mz15 hF hC (by assumption) ez1 hb
  intro z2 ez2
  replace h := h z2 ez2
  obtain ⟨q3, eq3, h9⟩ := h
  replace h := h9
  clear h9
  refine ⟨q3, eq3, ?_⟩
  have m_q3 := mz_z1 q3 eq3
  refine koT_X5_emit _ _ _ _ (by assumption) _ _ _ (CL3_5 hC hF) (fun S4 r4 hG h => ?_) h
  replace hF := KO_t hF hG
  exact hk _ _ hF h
theorem koT_X3_take {gA gB gC : Nat} (t0 : Nat) (a0 : Int32) (m_t0 : t0 = gA) : Km3I gA gB gC (wT_X3_take t0 a0) := by
  intro S0 K K' hC hk h
  have hF : KO gA gB gC S0 S0 := KO_rf
  unfold wT_X3_take at h ⊢
  intro z1 ez1
  replace h := h z1 ez1
  intro q2 eq2
  replace h := h q2 eq2
  intro z3 ez3
  replace h := h z3 ez3
  intro z4 ez4
  replace h := h z4 ez4
  intro q5 eq5
  replace h := h q5 eq5
  refine ⟨h.1, ?_⟩
  replace h := h.2
  intro z6 ez6
  replace h := h z6 ez6
  refine ⟨fun c => ?_, fun c => ?_⟩
  · replace h := h.1 c
    exact hk _ _ hF h
  · replace h := h.2 c
    intro z8 ez8
    replace h := h z8 ez8
    intro z9 ez9
    replace h := h z9 ez9
    intro z10 ez10
    replace h := h z10 ez10
    intro q11 eq11
    replace h := h q11 eq11
    intro z12 ez12
    replace h := h z12 ez12
    refine ⟨fun c => ?_, fun c => ?_⟩
    · replace h := h.1 c
      intro z14 ez14
      replace h := h z14 ez14
      intro z15 ez15
      replace h := h z15 ez15
      intro S16 eS16
      replace h := h S16 eS16
      replace hF := KO_i hF eS16 (by first | exact Or.inl (by assumption) | exact Or.inr (Or.inl (by assumption)) | exact Or.inr (Or.inr (by assumption)))
      exact hk _ _ hF h
    · replace h := h.2 c
      exact hk _ _ hF h
theorem koT_X3_need {gA gB gC : Nat} (t0 : Nat) (a0 : Int32) (m_t0 : t0 = gA) : Km3V gA gB gC (wT_X3_need t0 a0) := by
  intro S0 K K' hC hk h
  have hF : KO gA gB gC S0 S0 := KO_rf
  unfold wT_X3_need at h ⊢
  refine koT_X3_take _ _ (by assumption) _ _ _ (CL3_k hC hF) (fun S1 r1 hG h => ?_) h
  replace hF := KO_t hF hG
  refine ⟨fun c => ?_, fun c => ?_⟩
  · replace h := h.1 c
    exact hk _ hF h
  · replace h := h.2 c
    refine koT_X3_wrong _ _ (by assumption) _ _ _ (CL3_k hC hF) (fun S3 hG h => ?_) h
    replace hF := KO_t hF hG
    exact hk _ hF h
theorem koT_X3_product_82 {gA gB gC : Nat} {r_X3_part : Nat → Int32 → kS → (kS → Prop) → Prop} (hr_X3_part : ∀ t0 : Nat, ∀ a0 : Int32, t0 = gA → Km3V gA gB gC (r_X3_part t0 a0)) {K K' : kS → Prop} {k12 k12' : Nat × Int32 × Int32 × Int32 × kS → Prop} {S0 : kS} (hC : CL3 gA gB gC S0) (hk : ∀ S1, KO gA gB gC S0 S1 → K S1 → K' S1) (hk12 : ∀ u : Nat × Int32 × Int32 × Int32 × kS, (u.1 = gA) → KO gA gB gC S0 u.2.2.2.2 → k12 u → k12' u) {x0 : Nat} {x1 : Int32} {x3 : Int32} {S : kS} (m_x0 : x0 = gA) (hF : KO gA gB gC S0 S) (h : wT_X3_product_82 r_X3_part K k12 x0 x1 x3 S) : wT_X3_product_82 r_X3_part K' k12' x0 x1 x3 S := by
  unfold wT_X3_product_82 at h ⊢
  refine koT_X3_kind _ (by assumption) _ _ _ (CL3_k hC hF) (fun S12 r12 hG h => ?_) h
  replace hF := KO_t hF hG
  intro z13 ez13
  replace h := h z13 ez13
  exact hk12 _ (by first | assumption | exact fun b hb => (by cases hb; assumption)) hF h
theorem koT_X3_product_77 {gA gB gC : Nat} {r_X3_part : Nat → Int32 → kS → (kS → Prop) → Prop} (hr_X3_part : ∀ t0 : Nat, ∀ a0 : Int32, t0 = gA → Km3V gA gB gC (r_X3_part t0 a0)) {K K' : kS → Prop} {k12 k12' : Nat × Int32 × Int32 × Int32 × kS → Prop} {S0 : kS} (hC : CL3 gA gB gC S0) (hk : ∀ S1, KO gA gB gC S0 S1 → K S1 → K' S1) (hk12 : ∀ u : Nat × Int32 × Int32 × Int32 × kS, (u.1 = gA) → KO gA gB gC S0 u.2.2.2.2 → k12 u → k12' u) {x0 : Nat} {x1 : Int32} {x3 : Int32} {y0 : Nat} {y1 : Int32} {S : kS} (m_x0 : x0 = gA) (m_y0 : y0 = gA) (hF : KO gA gB gC S0 S) (h : wT_X3_product_77 r_X3_part K k12 x0 x1 x3 y0 y1 S) : wT_X3_product_77 r_X3_part K' k12' x0 x1 x3 y0 y1 S := by
  unfold wT_X3_product_77 at h ⊢
  refine koT_X3_emit _ _ _ (by assumption) _ _ _ (CL3_k hC hF) (fun S14 r14 hG h => ?_) h
  replace hF := KO_t hF hG
  exact koT_X3_product_82 hr_X3_part hC hk hk12 (by first | assumption | exact fun b hb => (by cases hb; assumption)) hF h
theorem koT_X3_product_37 {gA gB gC : Nat} {r_X3_part : Nat → Int32 → kS → (kS → Prop) → Prop} (hr_X3_part : ∀ t0 : Nat, ∀ a0 : Int32, t0 = gA → Km3V gA gB gC (r_X3_part t0 a0)) {K K' : kS → Prop} {k12 k12' : Nat × Int32 × Int32 × Int32 × kS → Prop} {S0 : kS} (hC : CL3 gA gB gC S0) (hk : ∀ S1, KO gA gB gC S0 S1 → K S1 → K' S1) (hk12 : ∀ u : Nat × Int32 × Int32 × Int32 × kS, (u.1 = gA) → KO gA gB gC S0 u.2.2.2.2 → k12 u → k12' u) {x0 : Nat} {x1 : Int32} {x2 : Int32} {x3 : Int32} {S : kS} (m_x0 : x0 = gA) (hF : KO gA gB gC S0 S) (h : wT_X3_product_37 r_X3_part K k12 x0 x1 x2 x3 S) : wT_X3_product_37 r_X3_part K' k12' x0 x1 x2 x3 S := by
  unfold wT_X3_product_37 at h ⊢
  refine koT_X3_step _ (by assumption) _ _ _ (CL3_k hC hF) (fun S7 hG h => ?_) h
  replace hF := KO_t hF hG
  refine hr_X3_part _ _ (by assumption) _ _ _ (CL3_k hC hF) (fun S8 hG h => ?_) h
  replace hF := KO_t hF hG
  refine ⟨fun c => ?_, fun c => ?_⟩
  · replace h := h.1 c
    refine ⟨fun c => ?_, fun c => ?_⟩
    · replace h := h.1 c
      exact koT_X3_product_77 hr_X3_part hC hk hk12 (by first | assumption | exact fun b hb => (by cases hb; assumption)) (by first | assumption | exact fun b hb => (by cases hb; assumption)) hF h
    · replace h := h.2 c
      exact koT_X3_product_77 hr_X3_part hC hk hk12 (by first | assumption | exact fun b hb => (by cases hb; assumption)) (by first | assumption | exact fun b hb => (by cases hb; assumption)) hF h
  · replace h := h.2 c
    refine koT_X3_emit _ _ _ (by assumption) _ _ _ (CL3_k hC hF) (fun S11 r11 hG h => ?_) h
    replace hF := KO_t hF hG
    exact koT_X3_product_82 hr_X3_part hC hk hk12 (by first | assumption | exact fun b hb => (by cases hb; assumption)) hF h
theorem koT_X3_product_12 {gA gB gC : Nat} {r_X3_part : Nat → Int32 → kS → (kS → Prop) → Prop} (hr_X3_part : ∀ t0 : Nat, ∀ a0 : Int32, t0 = gA → Km3V gA gB gC (r_X3_part t0 a0)) {K K' : kS → Prop} {k12 k12' : Nat × Int32 × Int32 × Int32 × kS → Prop} {S0 : kS} (hC : CL3 gA gB gC S0) (hk : ∀ S1, KO gA gB gC S0 S1 → K S1 → K' S1) (hk12 : ∀ u : Nat × Int32 × Int32 × Int32 × kS, (u.1 = gA) → KO gA gB gC S0 u.2.2.2.2 → k12 u → k12' u) {x0 : Nat} {x1 : Int32} {x2 : Int32} {x3 : Int32} {S : kS} (m_x0 : x0 = gA) (hF : KO gA gB gC S0 S) (h : wT_X3_product_12 r_X3_part K k12 x0 x1 x2 x3 S) : wT_X3_product_12 r_X3_part K' k12' x0 x1 x2 x3 S := by
  unfold wT_X3_product_12 at h ⊢
  refine ⟨fun c => ?_, fun c => ?_⟩
  · replace h := h.1 c
    exact hk _ hF h
  · replace h := h.2 c
    refine ⟨fun c => ?_, fun c => ?_⟩
    · replace h := h.1 c
      exact koT_X3_product_37 hr_X3_part hC hk hk12 (by first | assumption | exact fun b hb => (by cases hb; assumption)) hF h
    · replace h := h.2 c
      refine ⟨fun c => ?_, fun c => ?_⟩
      · replace h := h.1 c
        exact koT_X3_product_37 hr_X3_part hC hk hk12 (by first | assumption | exact fun b hb => (by cases hb; assumption)) hF h
      · replace h := h.2 c
        refine ⟨fun c => ?_, fun c => ?_⟩
        · replace h := h.1 c
          exact hk _ hF h
        · replace h := h.2 c
          exact koT_X3_product_37 hr_X3_part hC hk hk12 (by first | assumption | exact fun b hb => (by cases hb; assumption)) hF h
theorem kolT_X3_product_12 {gA gB gC : Nat} {r_X3_part : Nat → Int32 → kS → (kS → Prop) → Prop} (hr_X3_part : ∀ t0 : Nat, ∀ a0 : Int32, t0 = gA → Km3V gA gB gC (r_X3_part t0 a0)) {K K' : kS → Prop} {S0 : kS} (hC : CL3 gA gB gC S0) (hk : ∀ S1, KO gA gB gC S0 S1 → K S1 → K' S1) : ∀ (n : Nat) (u : Nat × Int32 × Int32 × Int32 × kS), (u.1 = gA) → KO gA gB gC S0 u.2.2.2.2 → it (lT_X3_product_12 r_X3_part K) n u → it (lT_X3_product_12 r_X3_part K') n u := by
  intro n
  induction n with
  | zero => exact fun _ _ _ h => h
  | succ n ih => exact fun u m0 hF h => koT_X3_product_12 hr_X3_part hC hk ih m0 hF h
theorem koT_X3_product {gA gB gC : Nat} {r_X3_part : Nat → Int32 → kS → (kS → Prop) → Prop} (hr_X3_part : ∀ t0 : Nat, ∀ a0 : Int32, t0 = gA → Km3V gA gB gC (r_X3_part t0 a0)) (t0 : Nat) (a0 : Int32) (m_t0 : t0 = gA) : Km3V gA gB gC (wT_X3_product r_X3_part t0 a0) := by
  intro S0 K K' hC hk h
  have hF : KO gA gB gC S0 S0 := KO_rf
  unfold wT_X3_product at h ⊢
  refine hr_X3_part _ _ (by assumption) _ _ _ (CL3_k hC hF) (fun S1 hG h => ?_) h
  replace hF := KO_t hF hG
  refine koT_X3_kind _ (by assumption) _ _ _ (CL3_k hC hF) (fun S2 r2 hG h => ?_) h
  replace hF := KO_t hF hG
  obtain ⟨n9, h⟩ := h
  exact ⟨n9, kolT_X3_product_12 hr_X3_part hC hk n9 _ (by first | assumption | exact fun b hb => (by cases hb; assumption)) hF h⟩
theorem koT_X3_sum_54 {gA gB gC : Nat} {r_X3_part : Nat → Int32 → kS → (kS → Prop) → Prop} (hr_X3_part : ∀ t0 : Nat, ∀ a0 : Int32, t0 = gA → Km3V gA gB gC (r_X3_part t0 a0)) {K K' : kS → Prop} {k12 k12' : Nat × Int32 × Int32 × Int32 × kS → Prop} {S0 : kS} (hC : CL3 gA gB gC S0) (hk : ∀ S1, KO gA gB gC S0 S1 → K S1 → K' S1) (hk12 : ∀ u : Nat × Int32 × Int32 × Int32 × kS, (u.1 = gA) → KO gA gB gC S0 u.2.2.2.2 → k12 u → k12' u) {x0 : Nat} {x1 : Int32} {x3 : Int32} {y0 : Nat} {y1 : Int32} {S : kS} (m_x0 : x0 = gA) (m_y0 : y0 = gA) (hF : KO gA gB gC S0 S) (h : wT_X3_sum_54 r_X3_part K k12 x0 x1 x3 y0 y1 S) : wT_X3_sum_54 r_X3_part K' k12' x0 x1 x3 y0 y1 S := by
  unfold wT_X3_sum_54 at h ⊢
  refine koT_X3_emit _ _ _ (by assumption) _ _ _ (CL3_k hC hF) (fun S9 r9 hG h => ?_) h
  replace hF := KO_t hF hG
  refine koT_X3_kind _ (by assumption) _ _ _ (CL3_k hC hF) (fun S10 r10 hG h => ?_) h
  replace hF := KO_t hF hG
  intro z11 ez11
  replace h := h z11 ez11
  exact hk12 _ (by first | assumption | exact fun b hb => (by cases hb; assumption)) hF h
theorem koT_X3_sum_31 {gA gB gC : Nat} {r_X3_part : Nat → Int32 → kS → (kS → Prop) → Prop} (hr_X3_part : ∀ t0 : Nat, ∀ a0 : Int32, t0 = gA → Km3V gA gB gC (r_X3_part t0 a0)) {K K' : kS → Prop} {k12 k12' : Nat × Int32 × Int32 × Int32 × kS → Prop} {S0 : kS} (hC : CL3 gA gB gC S0) (hk : ∀ S1, KO gA gB gC S0 S1 → K S1 → K' S1) (hk12 : ∀ u : Nat × Int32 × Int32 × Int32 × kS, (u.1 = gA) → KO gA gB gC S0 u.2.2.2.2 → k12 u → k12' u) {x0 : Nat} {x1 : Int32} {x2 : Int32} {x3 : Int32} {S : kS} (m_x0 : x0 = gA) (hF : KO gA gB gC S0 S) (h : wT_X3_sum_31 r_X3_part K k12 x0 x1 x2 x3 S) : wT_X3_sum_31 r_X3_part K' k12' x0 x1 x2 x3 S := by
  unfold wT_X3_sum_31 at h ⊢
  refine koT_X3_step _ (by assumption) _ _ _ (CL3_k hC hF) (fun S6 hG h => ?_) h
  replace hF := KO_t hF hG
  refine koT_X3_product hr_X3_part _ _ (by assumption) _ _ _ (CL3_k hC hF) (fun S7 hG h => ?_) h
  replace hF := KO_t hF hG
  refine ⟨fun c => ?_, fun c => ?_⟩
  · replace h := h.1 c
    exact koT_X3_sum_54 hr_X3_part hC hk hk12 (by first | assumption | exact fun b hb => (by cases hb; assumption)) (by first | assumption | exact fun b hb => (by cases hb; assumption)) hF h
  · replace h := h.2 c
    exact koT_X3_sum_54 hr_X3_part hC hk hk12 (by first | assumption | exact fun b hb => (by cases hb; assumption)) (by first | assumption | exact fun b hb => (by cases hb; assumption)) hF h
theorem koT_X3_sum_12 {gA gB gC : Nat} {r_X3_part : Nat → Int32 → kS → (kS → Prop) → Prop} (hr_X3_part : ∀ t0 : Nat, ∀ a0 : Int32, t0 = gA → Km3V gA gB gC (r_X3_part t0 a0)) {K K' : kS → Prop} {k12 k12' : Nat × Int32 × Int32 × Int32 × kS → Prop} {S0 : kS} (hC : CL3 gA gB gC S0) (hk : ∀ S1, KO gA gB gC S0 S1 → K S1 → K' S1) (hk12 : ∀ u : Nat × Int32 × Int32 × Int32 × kS, (u.1 = gA) → KO gA gB gC S0 u.2.2.2.2 → k12 u → k12' u) {x0 : Nat} {x1 : Int32} {x2 : Int32} {x3 : Int32} {S : kS} (m_x0 : x0 = gA) (hF : KO gA gB gC S0 S) (h : wT_X3_sum_12 r_X3_part K k12 x0 x1 x2 x3 S) : wT_X3_sum_12 r_X3_part K' k12' x0 x1 x2 x3 S := by
  unfold wT_X3_sum_12 at h ⊢
  refine ⟨fun c => ?_, fun c => ?_⟩
  · replace h := h.1 c
    exact hk _ hF h
  · replace h := h.2 c
    refine ⟨fun c => ?_, fun c => ?_⟩
    · replace h := h.1 c
      exact koT_X3_sum_31 hr_X3_part hC hk hk12 (by first | assumption | exact fun b hb => (by cases hb; assumption)) hF h
    · replace h := h.2 c
      refine ⟨fun c => ?_, fun c => ?_⟩
      · replace h := h.1 c
        exact hk _ hF h
      · replace h := h.2 c
        exact koT_X3_sum_31 hr_X3_part hC hk hk12 (by first | assumption | exact fun b hb => (by cases hb; assumption)) hF h
theorem kolT_X3_sum_12 {gA gB gC : Nat} {r_X3_part : Nat → Int32 → kS → (kS → Prop) → Prop} (hr_X3_part : ∀ t0 : Nat, ∀ a0 : Int32, t0 = gA → Km3V gA gB gC (r_X3_part t0 a0)) {K K' : kS → Prop} {S0 : kS} (hC : CL3 gA gB gC S0) (hk : ∀ S1, KO gA gB gC S0 S1 → K S1 → K' S1) : ∀ (n : Nat) (u : Nat × Int32 × Int32 × Int32 × kS), (u.1 = gA) → KO gA gB gC S0 u.2.2.2.2 → it (lT_X3_sum_12 r_X3_part K) n u → it (lT_X3_sum_12 r_X3_part K') n u := by
  intro n
  induction n with
  | zero => exact fun _ _ _ h => h
  | succ n ih => exact fun u m0 hF h => koT_X3_sum_12 hr_X3_part hC hk ih m0 hF h
theorem koT_X3_sum {gA gB gC : Nat} {r_X3_part : Nat → Int32 → kS → (kS → Prop) → Prop} (hr_X3_part : ∀ t0 : Nat, ∀ a0 : Int32, t0 = gA → Km3V gA gB gC (r_X3_part t0 a0)) (t0 : Nat) (a0 : Int32) (m_t0 : t0 = gA) : Km3V gA gB gC (wT_X3_sum r_X3_part t0 a0) := by
  intro S0 K K' hC hk h
  have hF : KO gA gB gC S0 S0 := KO_rf
  unfold wT_X3_sum at h ⊢
  refine koT_X3_product hr_X3_part _ _ (by assumption) _ _ _ (CL3_k hC hF) (fun S1 hG h => ?_) h
  replace hF := KO_t hF hG
  refine koT_X3_kind _ (by assumption) _ _ _ (CL3_k hC hF) (fun S2 r2 hG h => ?_) h
  replace hF := KO_t hF hG
  obtain ⟨n9, h⟩ := h
  exact ⟨n9, kolT_X3_sum_12 hr_X3_part hC hk n9 _ (by first | assumption | exact fun b hb => (by cases hb; assumption)) hF h⟩
theorem koT_X3_expression_45 {gA gB gC : Nat} {r_X3_part : Nat → Int32 → kS → (kS → Prop) → Prop} (hr_X3_part : ∀ t0 : Nat, ∀ a0 : Int32, t0 = gA → Km3V gA gB gC (r_X3_part t0 a0)) {K K' : kS → Prop} {S0 : kS} (hC : CL3 gA gB gC S0) (hk : ∀ S1, KO gA gB gC S0 S1 → K S1 → K' S1) {y0 : Nat} {y1 : Int32} {S : kS} (m_y0 : y0 = gA) (hF : KO gA gB gC S0 S) (h : wT_X3_expression_45 r_X3_part K y0 y1 S) : wT_X3_expression_45 r_X3_part K' y0 y1 S := by
  unfold wT_X3_expression_45 at h ⊢
  refine koT_X3_emit _ _ _ (by assumption) _ _ _ (CL3_k hC hF) (fun S8 r8 hG h => ?_) h
  replace hF := KO_t hF hG
  exact hk _ hF h
theorem koT_X3_expression_22 {gA gB gC : Nat} {r_X3_part : Nat → Int32 → kS → (kS → Prop) → Prop} (hr_X3_part : ∀ t0 : Nat, ∀ a0 : Int32, t0 = gA → Km3V gA gB gC (r_X3_part t0 a0)) {K K' : kS → Prop} {S0 : kS} (hC : CL3 gA gB gC S0) (hk : ∀ S1, KO gA gB gC S0 S1 → K S1 → K' S1) {x0 : Nat} {x1 : Int32} {x2 : Int32} {S : kS} (m_x0 : x0 = gA) (hF : KO gA gB gC S0 S) (h : wT_X3_expression_22 r_X3_part K x0 x1 x2 S) : wT_X3_expression_22 r_X3_part K' x0 x1 x2 S := by
  unfold wT_X3_expression_22 at h ⊢
  refine koT_X3_step _ (by assumption) _ _ _ (CL3_k hC hF) (fun S5 hG h => ?_) h
  replace hF := KO_t hF hG
  refine koT_X3_sum hr_X3_part _ _ (by assumption) _ _ _ (CL3_k hC hF) (fun S6 hG h => ?_) h
  replace hF := KO_t hF hG
  refine ⟨fun c => ?_, fun c => ?_⟩
  · replace h := h.1 c
    exact koT_X3_expression_45 hr_X3_part hC hk (by first | assumption | exact fun b hb => (by cases hb; assumption)) hF h
  · replace h := h.2 c
    exact koT_X3_expression_45 hr_X3_part hC hk (by first | assumption | exact fun b hb => (by cases hb; assumption)) hF h
theorem koT_X3_expression {gA gB gC : Nat} {r_X3_part : Nat → Int32 → kS → (kS → Prop) → Prop} (hr_X3_part : ∀ t0 : Nat, ∀ a0 : Int32, t0 = gA → Km3V gA gB gC (r_X3_part t0 a0)) (t0 : Nat) (a0 : Int32) (m_t0 : t0 = gA) : Km3V gA gB gC (wT_X3_expression r_X3_part t0 a0) := by
  intro S0 K K' hC hk h
  have hF : KO gA gB gC S0 S0 := KO_rf
  unfold wT_X3_expression at h ⊢
  refine koT_X3_sum hr_X3_part _ _ (by assumption) _ _ _ (CL3_k hC hF) (fun S1 hG h => ?_) h
  replace hF := KO_t hF hG
  refine koT_X3_kind _ (by assumption) _ _ _ (CL3_k hC hF) (fun S2 r2 hG h => ?_) h
  replace hF := KO_t hF hG
  refine ⟨fun c => ?_, fun c => ?_⟩
  · replace h := h.1 c
    exact koT_X3_expression_22 hr_X3_part hC hk (by first | assumption | exact fun b hb => (by cases hb; assumption)) hF h
  · replace h := h.2 c
    refine ⟨fun c => ?_, fun c => ?_⟩
    · replace h := h.1 c
      exact hk _ hF h
    · replace h := h.2 c
      exact koT_X3_expression_22 hr_X3_part hC hk (by first | assumption | exact fun b hb => (by cases hb; assumption)) hF h
theorem koT_X3_part_60 {gA gB gC : Nat} {r_X3_part : Nat → Int32 → kS → (kS → Prop) → Prop} (hr_X3_part : ∀ t0 : Nat, ∀ a0 : Int32, t0 = gA → Km3V gA gB gC (r_X3_part t0 a0)) {K K' : kS → Prop} {S0 : kS} (hC : CL3 gA gB gC S0) (hk : ∀ S1, KO gA gB gC S0 S1 → K S1 → K' S1) {y0 : Nat} {y1 : Int32} {S : kS} (m_y0 : y0 = gA) (hF : KO gA gB gC S0 S) (h : wT_X3_part_60 r_X3_part K y0 y1 S) : wT_X3_part_60 r_X3_part K' y0 y1 S := by
  unfold wT_X3_part_60 at h ⊢
  refine koT_X3_wrong _ _ (by assumption) _ _ _ (CL3_k hC hF) (fun S34 hG h => ?_) h
  replace hF := KO_t hF hG
  exact hk _ hF h
theorem koT_X3_part_50 {gA gB gC : Nat} {r_X3_part : Nat → Int32 → kS → (kS → Prop) → Prop} (hr_X3_part : ∀ t0 : Nat, ∀ a0 : Int32, t0 = gA → Km3V gA gB gC (r_X3_part t0 a0)) {K K' : kS → Prop} {S0 : kS} (hC : CL3 gA gB gC S0) (hk : ∀ S1, KO gA gB gC S0 S1 → K S1 → K' S1) {x0 : Nat} {x3 : Int32} {S : kS} (m_x0 : x0 = gA) (hF : KO gA gB gC S0 S) (h : wT_X3_part_50 r_X3_part K x0 x3 S) : wT_X3_part_50 r_X3_part K' x0 x3 S := by
  unfold wT_X3_part_50 at h ⊢
  refine ⟨fun c => ?_, fun c => ?_⟩
  · replace h := h.1 c
    exact koT_X3_part_60 hr_X3_part hC hk (by first | assumption | exact fun b hb => (by cases hb; assumption)) hF h
  · replace h := h.2 c
    exact koT_X3_part_60 hr_X3_part hC hk (by first | assumption | exact fun b hb => (by cases hb; assumption)) hF h
theorem koT_X3_part_39 {gA gB gC : Nat} {r_X3_part : Nat → Int32 → kS → (kS → Prop) → Prop} (hr_X3_part : ∀ t0 : Nat, ∀ a0 : Int32, t0 = gA → Km3V gA gB gC (r_X3_part t0 a0)) {K K' : kS → Prop} {S0 : kS} (hC : CL3 gA gB gC S0) (hk : ∀ S1, KO gA gB gC S0 S1 → K S1 → K' S1) {x0 : Nat} {x1 : Int32} {x2 : Int32} {y0 : Int32} {S : kS} (m_x0 : x0 = gA) (hF : KO gA gB gC S0 S) (h : wT_X3_part_39 r_X3_part K x0 x1 x2 y0 S) : wT_X3_part_39 r_X3_part K' x0 x1 x2 y0 S := by
  unfold wT_X3_part_39 at h ⊢
  refine ⟨fun c => ?_, fun c => ?_⟩
  · replace h := h.1 c
    exact koT_X3_part_50 hr_X3_part hC hk (by first | assumption | exact fun b hb => (by cases hb; assumption)) hF h
  · replace h := h.2 c
    refine ⟨fun c => ?_, fun c => ?_⟩
    · replace h := h.1 c
      refine ⟨fun c => ?_, fun c => ?_⟩
      · replace h := h.1 c
        intro z10 ez10
        replace h := h z10 ez10
        intro q11 eq11
        replace h := h q11 eq11
        intro z12 ez12
        replace h := h z12 ez12
        intro z13 ez13
        replace h := h z13 ez13
        intro q14 eq14
        replace h := h q14 eq14
        refine ⟨h.1, ?_⟩
        replace h := h.2
        intro z15 ez15
        replace h := h z15 ez15
        intro z16 ez16
        replace h := h z16 ez16
        refine koT_X3_step _ (by assumption) _ _ _ (CL3_k hC hF) (fun S17 hG h => ?_) h
        replace hF := KO_t hF hG
        refine ⟨fun c => ?_, fun c => ?_⟩
        · replace h := h.1 c
          refine ⟨fun c => ?_, fun c => ?_⟩
          · replace h := h.1 c
            refine ⟨fun c => ?_, fun c => ?_⟩
            · replace h := h.1 c
              refine koT_X3_emit _ _ _ (by assumption) _ _ _ (CL3_k hC hF) (fun S21 r21 hG h => ?_) h
              replace hF := KO_t hF hG
              intro z22 ez22
              replace h := h z22 ez22
              refine hr_X3_part _ _ (by assumption) _ _ _ (CL3_k hC hF) (fun S23 hG h => ?_) h
              replace hF := KO_t hF hG
              refine koT_X3_emit _ _ _ (by assumption) _ _ _ (CL3_k hC hF) (fun S24 r24 hG h => ?_) h
              replace hF := KO_t hF hG
              exact hk _ hF h
            · replace h := h.2 c
              refine koT_X3_emit _ _ _ (by assumption) _ _ _ (CL3_k hC hF) (fun S25 r25 hG h => ?_) h
              replace hF := KO_t hF hG
              intro z26 ez26
              replace h := h z26 ez26
              refine koT_X3_expression hr_X3_part _ _ (by assumption) _ _ _ (CL3_k hC hF) (fun S27 hG h => ?_) h
              replace hF := KO_t hF hG
              refine koT_X3_need _ _ (by assumption) _ _ _ (CL3_k hC hF) (fun S28 hG h => ?_) h
              replace hF := KO_t hF hG
              exact hk _ hF h
          · replace h := h.2 c
            refine koT_X3_emit _ _ _ (by assumption) _ _ _ (CL3_k hC hF) (fun S29 r29 hG h => ?_) h
            replace hF := KO_t hF hG
            exact hk _ hF h
        · replace h := h.2 c
          refine koT_X3_emit _ _ _ (by assumption) _ _ _ (CL3_k hC hF) (fun S30 r30 hG h => ?_) h
          replace hF := KO_t hF hG
          exact hk _ hF h
      · replace h := h.2 c
        refine koT_X3_cellHere _ (by assumption) _ _ _ (CL3_k hC hF) (fun S31 r31 hG h => ?_) h
        replace hF := KO_t hF hG
        refine koT_X3_emit _ _ _ (by assumption) _ _ _ (CL3_k hC hF) (fun S32 r32 hG h => ?_) h
        replace hF := KO_t hF hG
        exact hk _ hF h
    · replace h := h.2 c
      exact koT_X3_part_50 hr_X3_part hC hk (by first | assumption | exact fun b hb => (by cases hb; assumption)) hF h
theorem koT_X3_part_34 {gA gB gC : Nat} {r_X3_part : Nat → Int32 → kS → (kS → Prop) → Prop} (hr_X3_part : ∀ t0 : Nat, ∀ a0 : Int32, t0 = gA → Km3V gA gB gC (r_X3_part t0 a0)) {K K' : kS → Prop} {S0 : kS} (hC : CL3 gA gB gC S0) (hk : ∀ S1, KO gA gB gC S0 S1 → K S1 → K' S1) {x0 : Nat} {x1 : Int32} {x2 : Int32} {S : kS} (m_x0 : x0 = gA) (hF : KO gA gB gC S0 S) (h : wT_X3_part_34 r_X3_part K x0 x1 x2 S) : wT_X3_part_34 r_X3_part K' x0 x1 x2 S := by
  unfold wT_X3_part_34 at h ⊢
  exact koT_X3_part_39 hr_X3_part hC hk (by first | assumption | exact fun b hb => (by cases hb; assumption)) hF h
theorem koT_X3_part {gA gB gC : Nat} {r_X3_part : Nat → Int32 → kS → (kS → Prop) → Prop} (hr_X3_part : ∀ t0 : Nat, ∀ a0 : Int32, t0 = gA → Km3V gA gB gC (r_X3_part t0 a0)) (t0 : Nat) (a0 : Int32) (m_t0 : t0 = gA) : Km3V gA gB gC (wT_X3_part r_X3_part t0 a0) := by
  intro S0 K K' hC hk h
  have hF : KO gA gB gC S0 S0 := KO_rf
  unfold wT_X3_part at h ⊢
  refine koT_X3_kind _ (by assumption) _ _ _ (CL3_k hC hF) (fun S1 r1 hG h => ?_) h
  replace hF := KO_t hF hG
  refine ⟨fun c => ?_, fun c => ?_⟩
  · replace h := h.1 c
    exact koT_X3_part_34 hr_X3_part hC hk (by first | assumption | exact fun b hb => (by cases hb; assumption)) hF h
  · replace h := h.2 c
    refine ⟨fun c => ?_, fun c => ?_⟩
    · replace h := h.1 c
      exact koT_X3_part_34 hr_X3_part hC hk (by first | assumption | exact fun b hb => (by cases hb; assumption)) hF h
    · replace h := h.2 c
      refine ⟨fun c => ?_, fun c => ?_⟩
      · replace h := h.1 c
        exact koT_X3_part_34 hr_X3_part hC hk (by first | assumption | exact fun b hb => (by cases hb; assumption)) hF h
      · replace h := h.2 c
        refine ⟨fun c => ?_, fun c => ?_⟩
        · replace h := h.1 c
          exact koT_X3_part_34 hr_X3_part hC hk (by first | assumption | exact fun b hb => (by cases hb; assumption)) hF h
        · replace h := h.2 c
          refine ⟨fun c => ?_, fun c => ?_⟩
          · replace h := h.1 c
            exact koT_X3_part_39 hr_X3_part hC hk (by first | assumption | exact fun b hb => (by cases hb; assumption)) hF h
          · replace h := h.2 c
            exact koT_X3_part_34 hr_X3_part hC hk (by first | assumption | exact fun b hb => (by cases hb; assumption)) hF h
theorem kyT_X3_part {gA gB gC : Nat} : ∀ n : Nat, ∀ t0 : Nat, ∀ a0 : Int32, t0 = gA → Km3V gA gB gC (wV_X3_part n t0 a0) := by
  intro n
  induction n with
  | zero => exact fun _ _ _ _ _ _ _ _ h => h
  | succ n ih => exact fun t0 a0 m0 => koT_X3_part ih t0 a0 m0
theorem kxT_X3_part {gA gB gC : Nat} (t0 : Nat) (a0 : Int32) (m_t0 : t0 = gA) : Km3V gA gB gC (wU_X3_part t0 a0) := kyT_X3_part 12 t0 a0 m_t0
theorem kxT_X3_product {gA gB gC : Nat} (t0 : Nat) (a0 : Int32) (m_t0 : t0 = gA) : Km3V gA gB gC (wU_X3_product t0 a0) := koT_X3_product (kyT_X3_part 12) t0 a0 m_t0
theorem kxT_X3_sum {gA gB gC : Nat} (t0 : Nat) (a0 : Int32) (m_t0 : t0 = gA) : Km3V gA gB gC (wU_X3_sum t0 a0) := koT_X3_sum (kyT_X3_part 12) t0 a0 m_t0
theorem kxT_X3_expression {gA gB gC : Nat} (t0 : Nat) (a0 : Int32) (m_t0 : t0 = gA) : Km3V gA gB gC (wU_X3_expression t0 a0) := koT_X3_expression (kyT_X3_part 12) t0 a0 m_t0
theorem koT_X3_keepChild {gA gB gC : Nat} (t0 : Nat) (a0 : Int32) (a1 : Int32) (a2 : Int32) (m_t0 : t0 = gA) : Km3V gA gB gC (wT_X3_keepChild t0 a0 a1 a2) := by
  intro S0 K K' hC hk h
  have hF : KO gA gB gC S0 S0 := KO_rf
  unfold wT_X3_keepChild at h ⊢
  intro z1 ez1
  replace h := h z1 ez1
  refine ⟨fun c => ?_, fun c => ?_⟩
  · replace h := h.1 c
    exact hk _ hF h
  · replace h := h.2 c
    intro z3 ez3
    replace h := h z3 ez3
    have oz_z3 : ∀ b, z3 = some b → OW9 gA gB gC S0 b := fun b hb => ozl (f := 17) hF (by decide) (by first | exact Or.inl (by assumption) | exact Or.inr (Or.inl (by assumption)) | exact Or.inr (Or.inr (by assumption))) ez3 hb
    intro z4 ez4
    replace h := h z4 ez4
    intro q5 eq5
    replace h := h q5 eq5
    refine ⟨h.1, ?_⟩
    replace h := h.2
    intro S6 eS6
    replace h := h S6 eS6
    replace hF := KO_a hF eS6 (oz_z3 _ eq5)
    intro z7 ez7
    replace h := h z7 ez7
    have oz_z7 : ∀ b, z7 = some b → OW9 gA gB gC S0 b := fun b hb => ozl (f := 18) hF (by decide) (by first | exact Or.inl (by assumption) | exact Or.inr (Or.inl (by assumption)) | exact Or.inr (Or.inr (by assumption))) ez7 hb
    intro z8 ez8
    replace h := h z8 ez8
    intro z9 ez9
    replace h := h z9 ez9
    intro q10 eq10
    replace h := h q10 eq10
    intro z11 ez11
    replace h := h z11 ez11
    intro q12 eq12
    replace h := h q12 eq12
    refine ⟨h.1, ?_⟩
    replace h := h.2
    intro z13 ez13
    replace h := h z13 ez13
    intro q14 eq14
    replace h := h q14 eq14
    refine ⟨h.1, ?_⟩
    replace h := h.2
    intro S15 eS15
    replace h := h S15 eS15
    replace hF := KO_a hF eS15 (oz_z7 _ eq14)
    intro z16 ez16
    replace h := h z16 ez16
    intro z17 ez17
    replace h := h z17 ez17
    intro z18 ez18
    replace h := h z18 ez18
    intro q19 eq19
    replace h := h q19 eq19
    intro z20 ez20
    replace h := h z20 ez20
    intro q21 eq21
    replace h := h q21 eq21
    refine ⟨h.1, ?_⟩
    replace h := h.2
    intro z22 ez22
    replace h := h z22 ez22
    intro q23 eq23
    replace h := h q23 eq23
    refine ⟨h.1, ?_⟩
    replace h := h.2
    intro S24 eS24
    replace h := h S24 eS24
    replace hF := KO_l hF eS24
    intro z25 ez25
    replace h := h z25 ez25
    have oz_z25 : ∀ b, z25 = some b → OW9 gA gB gC S0 b := fun b hb => ozl (f := 19) hF (by decide) (by first | exact Or.inl (by assumption) | exact Or.inr (Or.inl (by assumption)) | exact Or.inr (Or.inr (by assumption))) ez25 hb
    intro z26 ez26
    replace h := h z26 ez26
    intro q27 eq27
    replace h := h q27 eq27
    refine ⟨h.1, ?_⟩
    replace h := h.2
    intro S28 eS28
    replace h := h S28 eS28
    replace hF := KO_a hF eS28 (oz_z25 _ eq27)
    intro z29 ez29
    replace h := h z29 ez29
    intro z30 ez30
    replace h := h z30 ez30
    intro S31 eS31
    replace h := h S31 eS31
    replace hF := KO_i hF eS31 (by first | exact Or.inl (by assumption) | exact Or.inr (Or.inl (by assumption)) | exact Or.inr (Or.inr (by assumption)))
    exact hk _ hF h
theorem koT_X3_startsWait {gA gB gC : Nat} (a0 : Int32) : Km3I gA gB gC (wT_X3_startsWait a0) := by
  intro S0 K K' hC hk h
  have hF : KO gA gB gC S0 S0 := KO_rf
  unfold wT_X3_startsWait at h ⊢
  refine ⟨fun c => ?_, fun c => ?_⟩
  · replace h := h.1 c
    exact hk _ _ hF h
  · replace h := h.2 c
    refine ⟨fun c => ?_, fun c => ?_⟩
    · replace h := h.1 c
      exact hk _ _ hF h
    · replace h := h.2 c
      exact hk _ _ hF h
theorem koT_X3_numberOf_42 {gA gB gC : Nat} {K K' : kS → Int32 → Prop} {S0 : kS} (hC : CL3 gA gB gC S0) (hk : ∀ S1 r1, KO gA gB gC S0 S1 → K S1 r1 → K' S1 r1) {x0 : Nat} {x1 : Int32} {S : kS} (m_x0 : x0 = gA) (hF : KO gA gB gC S0 S) (h : wT_X3_numberOf_42 K x0 x1 S) : wT_X3_numberOf_42 K' x0 x1 S := by
  unfold wT_X3_numberOf_42 at h ⊢
  refine koT_X3_wrong _ _ (by assumption) _ _ _ (CL3_k hC hF) (fun S18 hG h => ?_) h
  replace hF := KO_t hF hG
  exact hk _ _ hF h
theorem koT_X3_numberOf {gA gB gC : Nat} (t0 : Nat) (a0 : Int32) (a1 : Int32) (m_t0 : t0 = gA) : Km3I gA gB gC (wT_X3_numberOf t0 a0 a1) := by
  intro S0 K K' hC hk h
  have hF : KO gA gB gC S0 S0 := KO_rf
  unfold wT_X3_numberOf at h ⊢
  intro z1 ez1
  replace h := h z1 ez1
  intro q2 eq2
  replace h := h q2 eq2
  intro z3 ez3
  replace h := h z3 ez3
  intro z4 ez4
  replace h := h z4 ez4
  intro q5 eq5
  replace h := h q5 eq5
  refine ⟨h.1, ?_⟩
  replace h := h.2
  intro z6 ez6
  replace h := h z6 ez6
  refine koT_X3_kind _ (by assumption) _ _ _ (CL3_k hC hF) (fun S7 r7 hG h => ?_) h
  replace hF := KO_t hF hG
  refine ⟨fun c => ?_, fun c => ?_⟩
  · replace h := h.1 c
    intro z9 ez9
    replace h := h z9 ez9
    intro z10 ez10
    replace h := h z10 ez10
    refine ⟨fun c => ?_, fun c => ?_⟩
    · replace h := h.1 c
      exact koT_X3_numberOf_42 hC hk (by first | assumption | exact fun b hb => (by cases hb; assumption)) hF h
    · replace h := h.2 c
      intro z12 ez12
      replace h := h z12 ez12
      intro z13 ez13
      replace h := h z13 ez13
      refine ⟨fun c => ?_, fun c => ?_⟩
      · replace h := h.1 c
        refine koT_X3_step _ (by assumption) _ _ _ (CL3_k hC hF) (fun S15 hG h => ?_) h
        replace hF := KO_t hF hG
        intro z16 ez16
        replace h := h z16 ez16
        exact hk _ _ hF h
      · replace h := h.2 c
        exact koT_X3_numberOf_42 hC hk (by first | assumption | exact fun b hb => (by cases hb; assumption)) hF h
  · replace h := h.2 c
    refine koT_X3_wrong _ _ (by assumption) _ _ _ (CL3_k hC hF) (fun S17 hG h => ?_) h
    replace hF := KO_t hF hG
    exact hk _ _ hF h
theorem koT_X3_listed_114 {gA gB gC : Nat} {r_X3_waitFor : Nat → Int32 → kS → (kS → Prop) → Prop} (hr_X3_waitFor : ∀ t0 : Nat, ∀ a0 : Int32, t0 = gA → Km3V gA gB gC (r_X3_waitFor t0 a0)) {K K' : kS → Int32 → Prop} {S0 : kS} (hC : CL3 gA gB gC S0) (hk : ∀ S1 r1, KO gA gB gC S0 S1 → K S1 r1 → K' S1 r1) {x0 : Nat} {x4 : Int32} {S : kS} (m_x0 : x0 = gA) (hF : KO gA gB gC S0 S) (h : wT_X3_listed_114 r_X3_waitFor K x0 x4 S) : wT_X3_listed_114 r_X3_waitFor K' x0 x4 S := by
  unfold wT_X3_listed_114 at h ⊢
  refine koT_X3_need _ _ (by assumption) _ _ _ (CL3_k hC hF) (fun S20 hG h => ?_) h
  replace hF := KO_t hF hG
  exact hk _ _ hF h
theorem koT_X3_listed_97 {gA gB gC : Nat} {r_X3_waitFor : Nat → Int32 → kS → (kS → Prop) → Prop} (hr_X3_waitFor : ∀ t0 : Nat, ∀ a0 : Int32, t0 = gA → Km3V gA gB gC (r_X3_waitFor t0 a0)) {K K' : kS → Int32 → Prop} {k44 k44' : Nat × Int32 × Int32 × Int32 × Int32 × Int32 × kS → Prop} {S0 : kS} (hC : CL3 gA gB gC S0) (hk : ∀ S1 r1, KO gA gB gC S0 S1 → K S1 r1 → K' S1 r1) (hk44 : ∀ u : Nat × Int32 × Int32 × Int32 × Int32 × Int32 × kS, (u.1 = gA) → KO gA gB gC S0 u.2.2.2.2.2.2 → k44 u → k44' u) {x0 : Nat} {x2 : Int32} {x3 : Int32} {x4 : Int32} {x6 : Int32} {S : kS} (m_x0 : x0 = gA) (hF : KO gA gB gC S0 S) (h : wT_X3_listed_97 r_X3_waitFor K k44 x0 x2 x3 x4 x6 S) : wT_X3_listed_97 r_X3_waitFor K' k44' x0 x2 x3 x4 x6 S := by
  unfold wT_X3_listed_97 at h ⊢
  intro z15 ez15
  replace h := h z15 ez15
  refine koT_X3_take _ _ (by assumption) _ _ _ (CL3_k hC hF) (fun S16 r16 hG h => ?_) h
  replace hF := KO_t hF hG
  intro z17 ez17
  replace h := h z17 ez17
  exact hk44 _ (by first | assumption | exact fun b hb => (by cases hb; assumption)) hF h
theorem koT_X3_listed_90 {gA gB gC : Nat} {r_X3_waitFor : Nat → Int32 → kS → (kS → Prop) → Prop} (hr_X3_waitFor : ∀ t0 : Nat, ∀ a0 : Int32, t0 = gA → Km3V gA gB gC (r_X3_waitFor t0 a0)) {K K' : kS → Int32 → Prop} {k44 k44' : Nat × Int32 × Int32 × Int32 × Int32 × Int32 × kS → Prop} {S0 : kS} (hC : CL3 gA gB gC S0) (hk : ∀ S1 r1, KO gA gB gC S0 S1 → K S1 r1 → K' S1 r1) (hk44 : ∀ u : Nat × Int32 × Int32 × Int32 × Int32 × Int32 × kS, (u.1 = gA) → KO gA gB gC S0 u.2.2.2.2.2.2 → k44 u → k44' u) {x0 : Nat} {x2 : Int32} {x3 : Int32} {x4 : Int32} {x6 : Int32} {S : kS} (m_x0 : x0 = gA) (hF : KO gA gB gC S0 S) (h : wT_X3_listed_90 r_X3_waitFor K k44 x0 x2 x3 x4 x6 S) : wT_X3_listed_90 r_X3_waitFor K' k44' x0 x2 x3 x4 x6 S := by
  unfold wT_X3_listed_90 at h ⊢
  intro z18 ez18
  replace h := h z18 ez18
  refine hr_X3_waitFor _ _ (by assumption) _ _ _ (CL3_k hC hF) (fun S19 hG h => ?_) h
  replace hF := KO_t hF hG
  exact koT_X3_listed_97 hr_X3_waitFor hC hk hk44 (by first | assumption | exact fun b hb => (by cases hb; assumption)) hF h
theorem koT_X3_listed_44 {gA gB gC : Nat} {r_X3_waitFor : Nat → Int32 → kS → (kS → Prop) → Prop} (hr_X3_waitFor : ∀ t0 : Nat, ∀ a0 : Int32, t0 = gA → Km3V gA gB gC (r_X3_waitFor t0 a0)) {K K' : kS → Int32 → Prop} {k44 k44' : Nat × Int32 × Int32 × Int32 × Int32 × Int32 × kS → Prop} {S0 : kS} (hC : CL3 gA gB gC S0) (hk : ∀ S1 r1, KO gA gB gC S0 S1 → K S1 r1 → K' S1 r1) (hk44 : ∀ u : Nat × Int32 × Int32 × Int32 × Int32 × Int32 × kS, (u.1 = gA) → KO gA gB gC S0 u.2.2.2.2.2.2 → k44 u → k44' u) {x0 : Nat} {x2 : Int32} {x3 : Int32} {x4 : Int32} {x5 : Int32} {x6 : Int32} {S : kS} (m_x0 : x0 = gA) (hF : KO gA gB gC S0 S) (h : wT_X3_listed_44 r_X3_waitFor K k44 x0 x2 x3 x4 x5 x6 S) : wT_X3_listed_44 r_X3_waitFor K' k44' x0 x2 x3 x4 x5 x6 S := by
  unfold wT_X3_listed_44 at h ⊢
  refine ⟨fun c => ?_, fun c => ?_⟩
  · replace h := h.1 c
    exact koT_X3_listed_114 hr_X3_waitFor hC hk (by first | assumption | exact fun b hb => (by cases hb; assumption)) hF h
  · replace h := h.2 c
    refine ⟨fun c => ?_, fun c => ?_⟩
    · replace h := h.1 c
      exact koT_X3_listed_114 hr_X3_waitFor hC hk (by first | assumption | exact fun b hb => (by cases hb; assumption)) hF h
    · replace h := h.2 c
      refine ⟨fun c => ?_, fun c => ?_⟩
      · replace h := h.1 c
        refine ⟨fun c => ?_, fun c => ?_⟩
        · replace h := h.1 c
          exact koT_X3_listed_90 hr_X3_waitFor hC hk hk44 (by first | assumption | exact fun b hb => (by cases hb; assumption)) hF h
        · replace h := h.2 c
          refine koT_X3_kind _ (by assumption) _ _ _ (CL3_k hC hF) (fun S10 r10 hG h => ?_) h
          replace hF := KO_t hF hG
          refine koT_X3_startsWait _ _ _ _ (CL3_k hC hF) (fun S11 r11 hG h => ?_) h
          replace hF := KO_t hF hG
          refine ⟨fun c => ?_, fun c => ?_⟩
          · replace h := h.1 c
            exact koT_X3_listed_90 hr_X3_waitFor hC hk hk44 (by first | assumption | exact fun b hb => (by cases hb; assumption)) hF h
          · replace h := h.2 c
            refine koT_X3_wrong _ _ (by assumption) _ _ _ (CL3_k hC hF) (fun S13 hG h => ?_) h
            replace hF := KO_t hF hG
            exact koT_X3_listed_90 hr_X3_waitFor hC hk hk44 (by first | assumption | exact fun b hb => (by cases hb; assumption)) hF h
      · replace h := h.2 c
        refine kxT_X3_expression _ _ (by assumption) _ _ _ (CL3_k hC hF) (fun S14 hG h => ?_) h
        replace hF := KO_t hF hG
        exact koT_X3_listed_97 hr_X3_waitFor hC hk hk44 (by first | assumption | exact fun b hb => (by cases hb; assumption)) hF h
theorem kolT_X3_listed_44 {gA gB gC : Nat} {r_X3_waitFor : Nat → Int32 → kS → (kS → Prop) → Prop} (hr_X3_waitFor : ∀ t0 : Nat, ∀ a0 : Int32, t0 = gA → Km3V gA gB gC (r_X3_waitFor t0 a0)) {K K' : kS → Int32 → Prop} {S0 : kS} (hC : CL3 gA gB gC S0) (hk : ∀ S1 r1, KO gA gB gC S0 S1 → K S1 r1 → K' S1 r1) : ∀ (n : Nat) (u : Nat × Int32 × Int32 × Int32 × Int32 × Int32 × kS), (u.1 = gA) → KO gA gB gC S0 u.2.2.2.2.2.2 → it (lT_X3_listed_44 r_X3_waitFor K) n u → it (lT_X3_listed_44 r_X3_waitFor K') n u := by
  intro n
  induction n with
  | zero => exact fun _ _ _ h => h
  | succ n ih => exact fun u m0 hF h => koT_X3_listed_44 hr_X3_waitFor hC hk ih m0 hF h
theorem koT_X3_listed_39 {gA gB gC : Nat} {r_X3_waitFor : Nat → Int32 → kS → (kS → Prop) → Prop} (hr_X3_waitFor : ∀ t0 : Nat, ∀ a0 : Int32, t0 = gA → Km3V gA gB gC (r_X3_waitFor t0 a0)) {K K' : kS → Int32 → Prop} {S0 : kS} (hC : CL3 gA gB gC S0) (hk : ∀ S1 r1, KO gA gB gC S0 S1 → K S1 r1 → K' S1 r1) {x0 : Nat} {x2 : Int32} {x3 : Int32} {x4 : Int32} {y0 : Int32} {S : kS} (m_x0 : x0 = gA) (hF : KO gA gB gC S0 S) (h : wT_X3_listed_39 r_X3_waitFor K x0 x2 x3 x4 y0 S) : wT_X3_listed_39 r_X3_waitFor K' x0 x2 x3 x4 y0 S := by
  unfold wT_X3_listed_39 at h ⊢
  obtain ⟨n9, h⟩ := h
  exact ⟨n9, kolT_X3_listed_44 hr_X3_waitFor hC hk n9 _ (by first | assumption | exact fun b hb => (by cases hb; assumption)) hF h⟩
theorem koT_X3_listed_34 {gA gB gC : Nat} {r_X3_waitFor : Nat → Int32 → kS → (kS → Prop) → Prop} (hr_X3_waitFor : ∀ t0 : Nat, ∀ a0 : Int32, t0 = gA → Km3V gA gB gC (r_X3_waitFor t0 a0)) {K K' : kS → Int32 → Prop} {S0 : kS} (hC : CL3 gA gB gC S0) (hk : ∀ S1 r1, KO gA gB gC S0 S1 → K S1 r1 → K' S1 r1) {x0 : Nat} {x2 : Int32} {x3 : Int32} {x4 : Int32} {S : kS} (m_x0 : x0 = gA) (hF : KO gA gB gC S0 S) (h : wT_X3_listed_34 r_X3_waitFor K x0 x2 x3 x4 S) : wT_X3_listed_34 r_X3_waitFor K' x0 x2 x3 x4 S := by
  unfold wT_X3_listed_34 at h ⊢
  exact koT_X3_listed_39 hr_X3_waitFor hC hk (by first | assumption | exact fun b hb => (by cases hb; assumption)) hF h
theorem koT_X3_listed_11 {gA gB gC : Nat} {r_X3_waitFor : Nat → Int32 → kS → (kS → Prop) → Prop} (hr_X3_waitFor : ∀ t0 : Nat, ∀ a0 : Int32, t0 = gA → Km3V gA gB gC (r_X3_waitFor t0 a0)) {K K' : kS → Int32 → Prop} {S0 : kS} (hC : CL3 gA gB gC S0) (hk : ∀ S1 r1, KO gA gB gC S0 S1 → K S1 r1 → K' S1 r1) {x0 : Nat} {x2 : Int32} {y0 : Int32} {S : kS} (m_x0 : x0 = gA) (hF : KO gA gB gC S0 S) (h : wT_X3_listed_11 r_X3_waitFor K x0 x2 y0 S) : wT_X3_listed_11 r_X3_waitFor K' x0 x2 y0 S := by
  unfold wT_X3_listed_11 at h ⊢
  refine koT_X3_need _ _ (by assumption) _ _ _ (CL3_k hC hF) (fun S2 hG h => ?_) h
  replace hF := KO_t hF hG
  refine ⟨fun c => ?_, fun c => ?_⟩
  · replace h := h.1 c
    exact koT_X3_listed_34 hr_X3_waitFor hC hk (by first | assumption | exact fun b hb => (by cases hb; assumption)) hF h
  · replace h := h.2 c
    refine koT_X3_kind _ (by assumption) _ _ _ (CL3_k hC hF) (fun S4 r4 hG h => ?_) h
    replace hF := KO_t hF hG
    refine ⟨fun c => ?_, fun c => ?_⟩
    · replace h := h.1 c
      exact koT_X3_listed_39 hr_X3_waitFor hC hk (by first | assumption | exact fun b hb => (by cases hb; assumption)) hF h
    · replace h := h.2 c
      exact koT_X3_listed_34 hr_X3_waitFor hC hk (by first | assumption | exact fun b hb => (by cases hb; assumption)) hF h
theorem koT_X3_listed {gA gB gC : Nat} {r_X3_waitFor : Nat → Int32 → kS → (kS → Prop) → Prop} (hr_X3_waitFor : ∀ t0 : Nat, ∀ a0 : Int32, t0 = gA → Km3V gA gB gC (r_X3_waitFor t0 a0)) (t0 : Nat) (a0 : Int32) (a1 : Int32) (m_t0 : t0 = gA) : Km3I gA gB gC (wT_X3_listed r_X3_waitFor t0 a0 a1) := by
  intro S0 K K' hC hk h
  have hF : KO gA gB gC S0 S0 := KO_rf
  unfold wT_X3_listed at h ⊢
  refine ⟨fun c => ?_, fun c => ?_⟩
  · replace h := h.1 c
    exact koT_X3_listed_11 hr_X3_waitFor hC hk (by first | assumption | exact fun b hb => (by cases hb; assumption)) hF h
  · replace h := h.2 c
    exact koT_X3_listed_11 hr_X3_waitFor hC hk (by first | assumption | exact fun b hb => (by cases hb; assumption)) hF h
theorem koT_X3_waitFor_225 {gA gB gC : Nat} {r_X3_waitFor : Nat → Int32 → kS → (kS → Prop) → Prop} (hr_X3_waitFor : ∀ t0 : Nat, ∀ a0 : Int32, t0 = gA → Km3V gA gB gC (r_X3_waitFor t0 a0)) {K K' : kS → Prop} {S0 : kS} (hC : CL3 gA gB gC S0) (hk : ∀ S1, KO gA gB gC S0 S1 → K S1 → K' S1) {x0 : Nat} {x1 : Int32} {y0 : Int32} {S : kS} (m_x0 : x0 = gA) (hF : KO gA gB gC S0 S) (h : wT_X3_waitFor_225 r_X3_waitFor K x0 x1 y0 S) : wT_X3_waitFor_225 r_X3_waitFor K' x0 x1 y0 S := by
  unfold wT_X3_waitFor_225 at h ⊢
  refine koT_X3_emit _ _ _ (by assumption) _ _ _ (CL3_k hC hF) (fun S36 r36 hG h => ?_) h
  replace hF := KO_t hF hG
  intro z37 ez37
  replace h := h z37 ez37
  have mz_z37 : ∀ b, z37 = some b → b = gB := fun b hb => mz15 hF hC (by assumption) ez37 hb
  obtain ⟨q38, eq38, h9⟩ := h
  replace h := h9
  clear h9
  refine ⟨q38, eq38, ?_⟩
  have m_q38 := mz_z37 q38 eq38
  intro z39 ez39
  replace h := h z39 ez39
  have oz_z39 : ∀ b, z39 = some b → OW9 gA gB gC S0 b := fun b hb => ozl (f := 29) hF (by decide) (by first | exact Or.inl (by assumption) | exact Or.inr (Or.inl (by assumption)) | exact Or.inr (Or.inr (by assumption))) ez39 hb
  refine koT_X3_listed hr_X3_waitFor _ _ _ (by assumption) _ _ _ (CL3_k hC hF) (fun S40 r40 hG h => ?_) h
  replace hF := KO_t hF hG
  intro q41 eq41
  replace h := h q41 eq41
  refine ⟨h.1, ?_⟩
  replace h := h.2
  intro S42 eS42
  replace h := h S42 eS42
  replace hF := KO_a hF eS42 (oz_z39 _ eq41)
  refine koT_X3_emit _ _ _ (by assumption) _ _ _ (CL3_k hC hF) (fun S43 r43 hG h => ?_) h
  replace hF := KO_t hF hG
  exact hk _ hF h
theorem koT_X3_waitFor {gA gB gC : Nat} {r_X3_waitFor : Nat → Int32 → kS → (kS → Prop) → Prop} (hr_X3_waitFor : ∀ t0 : Nat, ∀ a0 : Int32, t0 = gA → Km3V gA gB gC (r_X3_waitFor t0 a0)) (t0 : Nat) (a0 : Int32) (m_t0 : t0 = gA) : Km3V gA gB gC (wT_X3_waitFor r_X3_waitFor t0 a0) := by
  intro S0 K K' hC hk h
  have hF : KO gA gB gC S0 S0 := KO_rf
  unfold wT_X3_waitFor at h ⊢
  refine koT_X3_kind _ (by assumption) _ _ _ (CL3_k hC hF) (fun S1 r1 hG h => ?_) h
  replace hF := KO_t hF hG
  refine koT_X3_startsWait _ _ _ _ (CL3_k hC hF) (fun S2 r2 hG h => ?_) h
  replace hF := KO_t hF hG
  refine ⟨fun c => ?_, fun c => ?_⟩
  · replace h := h.1 c
    refine ⟨fun c => ?_, fun c => ?_⟩
    · replace h := h.1 c
      refine koT_X3_step _ (by assumption) _ _ _ (CL3_k hC hF) (fun S5 hG h => ?_) h
      replace hF := KO_t hF hG
      refine ⟨fun c => ?_, fun c => ?_⟩
      · replace h := h.1 c
        refine koT_X3_numberOf _ _ _ (by assumption) _ _ _ (CL3_k hC hF) (fun S7 r7 hG h => ?_) h
        replace hF := KO_t hF hG
        refine koT_X3_emit _ _ _ (by assumption) _ _ _ (CL3_k hC hF) (fun S8 r8 hG h => ?_) h
        replace hF := KO_t hF hG
        exact hk _ hF h
      · replace h := h.2 c
        refine ⟨fun c => ?_, fun c => ?_⟩
        · replace h := h.1 c
          refine koT_X3_emit _ _ _ (by assumption) _ _ _ (CL3_k hC hF) (fun S10 r10 hG h => ?_) h
          replace hF := KO_t hF hG
          refine kxT_X3_expression _ _ (by assumption) _ _ _ (CL3_k hC hF) (fun S11 hG h => ?_) h
          replace hF := KO_t hF hG
          refine koT_X3_emit _ _ _ (by assumption) _ _ _ (CL3_k hC hF) (fun S12 r12 hG h => ?_) h
          replace hF := KO_t hF hG
          exact hk _ hF h
        · replace h := h.2 c
          refine ⟨fun c => ?_, fun c => ?_⟩
          · replace h := h.1 c
            refine koT_X3_emit _ _ _ (by assumption) _ _ _ (CL3_k hC hF) (fun S14 r14 hG h => ?_) h
            replace hF := KO_t hF hG
            exact hk _ hF h
          · replace h := h.2 c
            refine ⟨fun c => ?_, fun c => ?_⟩
            · replace h := h.1 c
              refine koT_X3_emit _ _ _ (by assumption) _ _ _ (CL3_k hC hF) (fun S16 r16 hG h => ?_) h
              replace hF := KO_t hF hG
              intro z17 ez17
              replace h := h z17 ez17
              refine koT_X3_need _ _ (by assumption) _ _ _ (CL3_k hC hF) (fun S18 hG h => ?_) h
              replace hF := KO_t hF hG
              refine koT_X3_listed hr_X3_waitFor _ _ _ (by assumption) _ _ _ (CL3_k hC hF) (fun S19 r19 hG h => ?_) h
              replace hF := KO_t hF hG
              refine koT_X3_emit _ _ _ (by assumption) _ _ _ (CL3_k hC hF) (fun S20 r20 hG h => ?_) h
              replace hF := KO_t hF hG
              refine koT_X3_keepChild _ _ _ _ (by assumption) _ _ _ (CL3_k hC hF) (fun S21 hG h => ?_) h
              replace hF := KO_t hF hG
              exact hk _ hF h
            · replace h := h.2 c
              refine ⟨fun c => ?_, fun c => ?_⟩
              · replace h := h.1 c
                refine ⟨fun c => ?_, fun c => ?_⟩
                · replace h := h.1 c
                  exact koT_X3_waitFor_225 hr_X3_waitFor hC hk (by first | assumption | exact fun b hb => (by cases hb; assumption)) hF h
                · replace h := h.2 c
                  exact koT_X3_waitFor_225 hr_X3_waitFor hC hk (by first | assumption | exact fun b hb => (by cases hb; assumption)) hF h
              · replace h := h.2 c
                refine ⟨fun c => ?_, fun c => ?_⟩
                · replace h := h.1 c
                  refine ⟨fun c => ?_, fun c => ?_⟩
                  · replace h := h.1 c
                    exact koT_X3_waitFor_225 hr_X3_waitFor hC hk (by first | assumption | exact fun b hb => (by cases hb; assumption)) hF h
                  · replace h := h.2 c
                    exact koT_X3_waitFor_225 hr_X3_waitFor hC hk (by first | assumption | exact fun b hb => (by cases hb; assumption)) hF h
                · replace h := h.2 c
                  refine ⟨fun c => ?_, fun c => ?_⟩
                  · replace h := h.1 c
                    refine koT_X3_emit _ _ _ (by assumption) _ _ _ (CL3_k hC hF) (fun S27 r27 hG h => ?_) h
                    replace hF := KO_t hF hG
                    refine kxT_X3_expression _ _ (by assumption) _ _ _ (CL3_k hC hF) (fun S28 hG h => ?_) h
                    replace hF := KO_t hF hG
                    refine koT_X3_emit _ _ _ (by assumption) _ _ _ (CL3_k hC hF) (fun S29 r29 hG h => ?_) h
                    replace hF := KO_t hF hG
                    intro z30 ez30
                    replace h := h z30 ez30
                    refine hr_X3_waitFor _ _ (by assumption) _ _ _ (CL3_k hC hF) (fun S31 hG h => ?_) h
                    replace hF := KO_t hF hG
                    refine koT_X3_emit _ _ _ (by assumption) _ _ _ (CL3_k hC hF) (fun S32 r32 hG h => ?_) h
                    replace hF := KO_t hF hG
                    exact hk _ hF h
                  · replace h := h.2 c
                    refine ⟨fun c => ?_, fun c => ?_⟩
                    · replace h := h.1 c
                      exact koT_X3_waitFor_225 hr_X3_waitFor hC hk (by first | assumption | exact fun b hb => (by cases hb; assumption)) hF h
                    · replace h := h.2 c
                      exact koT_X3_waitFor_225 hr_X3_waitFor hC hk (by first | assumption | exact fun b hb => (by cases hb; assumption)) hF h
    · replace h := h.2 c
      refine koT_X3_wrong _ _ (by assumption) _ _ _ (CL3_k hC hF) (fun S34 hG h => ?_) h
      replace hF := KO_t hF hG
      exact hk _ hF h
  · replace h := h.2 c
    refine koT_X3_wrong _ _ (by assumption) _ _ _ (CL3_k hC hF) (fun S35 hG h => ?_) h
    replace hF := KO_t hF hG
    exact hk _ hF h
theorem kyT_X3_waitFor {gA gB gC : Nat} : ∀ n : Nat, ∀ t0 : Nat, ∀ a0 : Int32, t0 = gA → Km3V gA gB gC (wV_X3_waitFor n t0 a0) := by
  intro n
  induction n with
  | zero => exact fun _ _ _ _ _ _ _ _ h => h
  | succ n ih => exact fun t0 a0 m0 => koT_X3_waitFor ih t0 a0 m0
theorem kxT_X3_listed {gA gB gC : Nat} (t0 : Nat) (a0 : Int32) (a1 : Int32) (m_t0 : t0 = gA) : Km3I gA gB gC (wU_X3_listed t0 a0 a1) := koT_X3_listed (kyT_X3_waitFor 12) t0 a0 a1 m_t0
theorem kxT_X3_waitFor {gA gB gC : Nat} (t0 : Nat) (a0 : Int32) (m_t0 : t0 = gA) : Km3V gA gB gC (wU_X3_waitFor t0 a0) := kyT_X3_waitFor 12 t0 a0 m_t0
theorem koT_X5_newWait {gA gB gC : Nat} (t0 : Nat) (m_t0 : t0 = gB) : Km5I gA gB gC (wT_X5_newWait t0) := by
  intro S0 K K' hC hk h
  have hF : KO gA gB gC S0 S0 := KO_rf
  unfold wT_X5_newWait at h ⊢
  intro z1 ez1
  replace h := h z1 ez1
  intro z2 ez2
  replace h := h z2 ez2
  refine ⟨fun c => ?_, fun c => ?_⟩
  · replace h := h.1 c
    exact hk _ _ hF h
  · replace h := h.2 c
    intro z4 ez4
    replace h := h z4 ez4
    intro q5 eq5
    replace h := h q5 eq5
    refine ⟨h.1, ?_⟩
    replace h := h.2
    intro z6 ez6
    replace h := h z6 ez6
    refine ⟨fun c => ?_, fun c => ?_⟩
    · replace h := h.1 c
      intro z8 ez8
      replace h := h z8 ez8
      have oz_z8 : ∀ b, z8 = some b → OW9 gA gB gC S0 b := fun b hb => ozl (f := 36) hF (by decide) (by first | exact Or.inl (by assumption) | exact Or.inr (Or.inl (by assumption)) | exact Or.inr (Or.inr (by assumption))) ez8 hb
      intro q9 eq9
      replace h := h q9 eq9
      refine ⟨h.1, ?_⟩
      replace h := h.2
      intro z10 ez10
      replace h := h z10 ez10
      intro z11 ez11
      replace h := h z11 ez11
      refine ⟨h.1, ?_⟩
      replace h := h.2
      intro S12 eS12
      replace h := h S12 eS12
      replace hF := KO_a hF eS12 (oz_z8 _ eq9)
      intro z13 ez13
      replace h := h z13 ez13
      intro q14 eq14
      replace h := h q14 eq14
      refine ⟨h.1, ?_⟩
      replace h := h.2
      intro z15 ez15
      replace h := h z15 ez15
      intro z16 ez16
      replace h := h z16 ez16
      exact hk _ _ hF h
    · replace h := h.2 c
      exact hk _ _ hF h
theorem koT_X5_setStand {gA gB gC : Nat} (t0 : Nat) (a0 : Int32) (a1 : Int32) (m_t0 : t0 = gB) : Km5V gA gB gC (wT_X5_setStand t0 a0 a1) := by
  intro S0 K K' hC hk h
  have hF : KO gA gB gC S0 S0 := KO_rf
  unfold wT_X5_setStand at h ⊢
  intro z1 ez1
  replace h := h z1 ez1
  refine ⟨fun c => ?_, fun c => ?_⟩
  · replace h := h.1 c
    exact hk _ hF h
  · replace h := h.2 c
    refine ⟨fun c => ?_, fun c => ?_⟩
    · replace h := h.1 c
      exact hk _ hF h
    · replace h := h.2 c
      refine ⟨fun c => ?_, fun c => ?_⟩
      · replace h := h.1 c
        exact hk _ hF h
      · replace h := h.2 c
        intro z5 ez5
        replace h := h z5 ez5
        have oz_z5 : ∀ b, z5 = some b → OW9 gA gB gC S0 b := fun b hb => ozl (f := 37) hF (by decide) (by first | exact Or.inl (by assumption) | exact Or.inr (Or.inl (by assumption)) | exact Or.inr (Or.inr (by assumption))) ez5 hb
        intro z6 ez6
        replace h := h z6 ez6
        intro z7 ez7
        replace h := h z7 ez7
        intro z8 ez8
        replace h := h z8 ez8
        intro z9 ez9
        replace h := h z9 ez9
        intro q10 eq10
        replace h := h q10 eq10
        refine ⟨h.1, ?_⟩
        replace h := h.2
        intro S11 eS11
        replace h := h S11 eS11
        replace hF := KO_a hF eS11 (oz_z5 _ eq10)
        exact hk _ hF h
theorem koT_X3_assigned_94 {gA gB gC : Nat} {K K' : kS → Prop} {S0 : kS} (hC : CL3 gA gB gC S0) (hk : ∀ S1, KO gA gB gC S0 S1 → K S1 → K' S1) {x0 : Nat} {x1 : Int32} {S : kS} (m_x0 : x0 = gA) (hF : KO gA gB gC S0 S) (h : wT_X3_assigned_94 K x0 x1 S) : wT_X3_assigned_94 K' x0 x1 S := by
  unfold wT_X3_assigned_94 at h ⊢
  refine ⟨fun c => ?_, fun c => ?_⟩
  · replace h := h.1 c
    exact hk _ hF h
  · replace h := h.2 c
    refine koT_X3_emit _ _ _ (by assumption) _ _ _ (CL3_k hC hF) (fun S23 r23 hG h => ?_) h
    replace hF := KO_t hF hG
    exact hk _ hF h
theorem koT_X3_assigned_21 {gA gB gC : Nat} {K K' : kS → Prop} {S0 : kS} (hC : CL3 gA gB gC S0) (hk : ∀ S1, KO gA gB gC S0 S1 → K S1 → K' S1) {x0 : Nat} {x1 : Int32} {S : kS} (m_x0 : x0 = gA) (hF : KO gA gB gC S0 S) (h : wT_X3_assigned_21 K x0 x1 S) : wT_X3_assigned_21 K' x0 x1 S := by
  unfold wT_X3_assigned_21 at h ⊢
  refine koT_X3_kind _ (by assumption) _ _ _ (CL3_k hC hF) (fun S5 r5 hG h => ?_) h
  replace hF := KO_t hF hG
  refine ⟨fun c => ?_, fun c => ?_⟩
  · replace h := h.1 c
    intro z7 ez7
    replace h := h z7 ez7
    have mz_z7 : ∀ b, z7 = some b → b = gB := fun b hb => mz15 hF hC (by assumption) ez7 hb
    obtain ⟨q8, eq8, h9⟩ := h
    replace h := h9
    clear h9
    refine ⟨q8, eq8, ?_⟩
    have m_q8 := mz_z7 q8 eq8
    refine koT_X5_newWait _ (by assumption) _ _ _ (CL3_5 hC hF) (fun S9 r9 hG h => ?_) h
    replace hF := KO_t hF hG
    refine ⟨fun c => ?_, fun c => ?_⟩
    · replace h := h.1 c
      refine koT_X3_step _ (by assumption) _ _ _ (CL3_k hC hF) (fun S11 hG h => ?_) h
      replace hF := KO_t hF hG
      intro z12 ez12
      replace h := h z12 ez12
      refine koT_X3_emit _ _ _ (by assumption) _ _ _ (CL3_k hC hF) (fun S13 r13 hG h => ?_) h
      replace hF := KO_t hF hG
      refine kxT_X3_waitFor _ _ (by assumption) _ _ _ (CL3_k hC hF) (fun S14 hG h => ?_) h
      replace hF := KO_t hF hG
      intro z15 ez15
      replace h := h z15 ez15
      have mz_z15 : ∀ b, z15 = some b → b = gB := fun b hb => mz15 hF hC (by assumption) ez15 hb
      intro z16 ez16
      replace h := h z16 ez16
      refine koT_X3_emit _ _ _ (by assumption) _ _ _ (CL3_k hC hF) (fun S17 r17 hG h => ?_) h
      replace hF := KO_t hF hG
      obtain ⟨q18, eq18, h9⟩ := h
      replace h := h9
      clear h9
      refine ⟨q18, eq18, ?_⟩
      have m_q18 := mz_z15 q18 eq18
      refine koT_X5_setStand _ _ _ (by assumption) _ _ _ (CL3_5 hC hF) (fun S19 hG h => ?_) h
      replace hF := KO_t hF hG
      exact koT_X3_assigned_94 hC hk (by first | assumption | exact fun b hb => (by cases hb; assumption)) hF h
    · replace h := h.2 c
      refine koT_X3_wrong _ _ (by assumption) _ _ _ (CL3_k hC hF) (fun S20 hG h => ?_) h
      replace hF := KO_t hF hG
      exact hk _ hF h
  · replace h := h.2 c
    refine kxT_X3_expression _ _ (by assumption) _ _ _ (CL3_k hC hF) (fun S21 hG h => ?_) h
    replace hF := KO_t hF hG
    exact koT_X3_assigned_94 hC hk (by first | assumption | exact fun b hb => (by cases hb; assumption)) hF h
theorem koT_X3_assigned {gA gB gC : Nat} (t0 : Nat) (m_t0 : t0 = gA) : Km3V gA gB gC (wT_X3_assigned t0) := by
  intro S0 K K' hC hk h
  have hF : KO gA gB gC S0 S0 := KO_rf
  unfold wT_X3_assigned at h ⊢
  refine koT_X3_kind _ (by assumption) _ _ _ (CL3_k hC hF) (fun S1 r1 hG h => ?_) h
  replace hF := KO_t hF hG
  refine ⟨fun c => ?_, fun c => ?_⟩
  · replace h := h.1 c
    exact koT_X3_assigned_21 hC hk (by first | assumption | exact fun b hb => (by cases hb; assumption)) hF h
  · replace h := h.2 c
    refine koT_X3_cellHere _ (by assumption) _ _ _ (CL3_k hC hF) (fun S3 r3 hG h => ?_) h
    replace hF := KO_t hF hG
    refine koT_X3_need _ _ (by assumption) _ _ _ (CL3_k hC hF) (fun S4 hG h => ?_) h
    replace hF := KO_t hF hG
    exact koT_X3_assigned_21 hC hk (by first | assumption | exact fun b hb => (by cases hb; assumption)) hF h
