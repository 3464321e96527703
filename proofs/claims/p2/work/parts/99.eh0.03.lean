
theorem kmT_X3_listed_114 {r_X3_waitFor : Nat → Int32 → kS → (kS → Prop) → Prop} (hr_X3_waitFor : ∀ t0 : Nat, ∀ a0 : Int32, KmV [6, 7, 11, 17] [] [17, 18, 19, 28, 29, 30, 35] [20, 39] [] (r_X3_waitFor t0 a0)) {K K' : kS → Int32 → Prop} {S0 : kS} (hk : ∀ S1 r1, KF [6, 7, 11, 17] [] [17, 18, 19, 28, 29, 30, 35] [20, 39] [] S0 S1 → K S1 r1 → K' S1 r1) {x0 : Nat} {x4 : Int32} {S : kS} (hF : KF [6, 7, 11, 17] [] [17, 18, 19, 28, 29, 30, 35] [20, 39] [] S0 S) (h : wT_X3_listed_114 r_X3_waitFor K x0 x4 S) : wT_X3_listed_114 r_X3_waitFor K' x0 x4 S := by
  unfold wT_X3_listed_114 at h ⊢
  refine kmT_X3_need _ _ _ _ _ (fun S20 hG h => ?_) h
  replace hF := KF_t hF hG (by decide) (by decide) (by decide) (by decide) (by decide) (by decide) (by decide) (by decide)
  exact hk _ _ hF h
theorem kmT_X3_listed_97 {r_X3_waitFor : Nat → Int32 → kS → (kS → Prop) → Prop} (hr_X3_waitFor : ∀ t0 : Nat, ∀ a0 : Int32, KmV [6, 7, 11, 17] [] [17, 18, 19, 28, 29, 30, 35] [20, 39] [] (r_X3_waitFor t0 a0)) {K K' : kS → Int32 → Prop} {k44 k44' : Nat × Int32 × Int32 × Int32 × Int32 × Int32 × kS → Prop} {S0 : kS} (hk : ∀ S1 r1, KF [6, 7, 11, 17] [] [17, 18, 19, 28, 29, 30, 35] [20, 39] [] S0 S1 → K S1 r1 → K' S1 r1) (hk44 : ∀ u : Nat × Int32 × Int32 × Int32 × Int32 × Int32 × kS, KF [6, 7, 11, 17] [] [17, 18, 19, 28, 29, 30, 35] [20, 39] [] S0 u.2.2.2.2.2.2 → k44 u → k44' u) {x0 : Nat} {x2 : Int32} {x3 : Int32} {x4 : Int32} {x6 : Int32} {S : kS} (hF : KF [6, 7, 11, 17] [] [17, 18, 19, 28, 29, 30, 35] [20, 39] [] S0 S) (h : wT_X3_listed_97 r_X3_waitFor K k44 x0 x2 x3 x4 x6 S) : wT_X3_listed_97 r_X3_waitFor K' k44' x0 x2 x3 x4 x6 S := by
  unfold wT_X3_listed_97 at h ⊢
  intro z15 ez15
  replace h := h z15 ez15
  refine kmT_X3_take _ _ _ _ _ (fun S16 r16 hG h => ?_) h
  replace hF := KF_t hF hG (by decide) (by decide) (by decide) (by decide) (by decide) (by decide) (by decide) (by decide)
  intro z17 ez17
  replace h := h z17 ez17
  exact hk44 _ hF h
theorem kmT_X3_listed_90 {r_X3_waitFor : Nat → Int32 → kS → (kS → Prop) → Prop} (hr_X3_waitFor : ∀ t0 : Nat, ∀ a0 : Int32, KmV [6, 7, 11, 17] [] [17, 18, 19, 28, 29, 30, 35] [20, 39] [] (r_X3_waitFor t0 a0)) {K K' : kS → Int32 → Prop} {k44 k44' : Nat × Int32 × Int32 × Int32 × Int32 × Int32 × kS → Prop} {S0 : kS} (hk : ∀ S1 r1, KF [6, 7, 11, 17] [] [17, 18, 19, 28, 29, 30, 35] [20, 39] [] S0 S1 → K S1 r1 → K' S1 r1) (hk44 : ∀ u : Nat × Int32 × Int32 × Int32 × Int32 × Int32 × kS, KF [6, 7, 11, 17] [] [17, 18, 19, 28, 29, 30, 35] [20, 39] [] S0 u.2.2.2.2.2.2 → k44 u → k44' u) {x0 : Nat} {x2 : Int32} {x3 : Int32} {x4 : Int32} {x6 : Int32} {S : kS} (hF : KF [6, 7, 11, 17] [] [17, 18, 19, 28, 29, 30, 35] [20, 39] [] S0 S) (h : wT_X3_listed_90 r_X3_waitFor K k44 x0 x2 x3 x4 x6 S) : wT_X3_listed_90 r_X3_waitFor K' k44' x0 x2 x3 x4 x6 S := by
  unfold wT_X3_listed_90 at h ⊢
  intro z18 ez18
  replace h := h z18 ez18
  refine hr_X3_waitFor _ _ _ _ _ (fun S19 hG h => ?_) h
  replace hF := KF_t hF hG (by decide) (by decide) (by decide) (by decide) (by decide) (by decide) (by decide) (by decide)
  exact kmT_X3_listed_97 hr_X3_waitFor hk hk44 hF h
theorem kmT_X3_listed_44 {r_X3_waitFor : Nat → Int32 → kS → (kS → Prop) → Prop} (hr_X3_waitFor : ∀ t0 : Nat, ∀ a0 : Int32, KmV [6, 7, 11, 17] [] [17, 18, 19, 28, 29, 30, 35] [20, 39] [] (r_X3_waitFor t0 a0)) {K K' : kS → Int32 → Prop} {k44 k44' : Nat × Int32 × Int32 × Int32 × Int32 × Int32 × kS → Prop} {S0 : kS} (hk : ∀ S1 r1, KF [6, 7, 11, 17] [] [17, 18, 19, 28, 29, 30, 35] [20, 39] [] S0 S1 → K S1 r1 → K' S1 r1) (hk44 : ∀ u : Nat × Int32 × Int32 × Int32 × Int32 × Int32 × kS, KF [6, 7, 11, 17] [] [17, 18, 19, 28, 29, 30, 35] [20, 39] [] S0 u.2.2.2.2.2.2 → k44 u → k44' u) {x0 : Nat} {x2 : Int32} {x3 : Int32} {x4 : Int32} {x5 : Int32} {x6 : Int32} {S : kS} (hF : KF [6, 7, 11, 17] [] [17, 18, 19, 28, 29, 30, 35] [20, 39] [] S0 S) (h : wT_X3_listed_44 r_X3_waitFor K k44 x0 x2 x3 x4 x5 x6 S) : wT_X3_listed_44 r_X3_waitFor K' k44' x0 x2 x3 x4 x5 x6 S := by
  unfold wT_X3_listed_44 at h ⊢
  refine ⟨fun c => ?_, fun c => ?_⟩
  · replace h := h.1 c
    exact kmT_X3_listed_114 hr_X3_waitFor hk hF h
  · replace h := h.2 c
    refine ⟨fun c => ?_, fun c => ?_⟩
    · replace h := h.1 c
      exact kmT_X3_listed_114 hr_X3_waitFor hk hF h
    · replace h := h.2 c
      refine ⟨fun c => ?_, fun c => ?_⟩
      · replace h := h.1 c
        refine ⟨fun c => ?_, fun c => ?_⟩
        · replace h := h.1 c
          exact kmT_X3_listed_90 hr_X3_waitFor hk hk44 hF h
        · replace h := h.2 c
          refine kmT_X3_kind _ _ _ _ (fun S10 r10 hG h => ?_) h
          replace hF := KF_t hF hG (by decide) (by decide) (by decide) (by decide) (by decide) (by decide) (by decide) (by decide)
          refine kmT_X3_startsWait _ _ _ _ (fun S11 r11 hG h => ?_) h
          replace hF := KF_t hF hG (by decide) (by decide) (by decide) (by decide) (by decide) (by decide) (by decide) (by decide)
          refine ⟨fun c => ?_, fun c => ?_⟩
          · replace h := h.1 c
            exact kmT_X3_listed_90 hr_X3_waitFor hk hk44 hF h
          · replace h := h.2 c
            refine kmT_X3_wrong _ _ _ _ _ (fun S13 hG h => ?_) h
            replace hF := KF_t hF hG (by decide) (by decide) (by decide) (by decide) (by decide) (by decide) (by decide) (by decide)
            exact kmT_X3_listed_90 hr_X3_waitFor hk hk44 hF h
      · replace h := h.2 c
        refine kqT_X3_expression _ _ _ _ _ (fun S14 hG h => ?_) h
        replace hF := KF_t hF hG (by decide) (by decide) (by decide) (by decide) (by decide) (by decide) (by decide) (by decide)
        exact kmT_X3_listed_97 hr_X3_waitFor hk hk44 hF h
theorem kmlT_X3_listed_44 {r_X3_waitFor : Nat → Int32 → kS → (kS → Prop) → Prop} (hr_X3_waitFor : ∀ t0 : Nat, ∀ a0 : Int32, KmV [6, 7, 11, 17] [] [17, 18, 19, 28, 29, 30, 35] [20, 39] [] (r_X3_waitFor t0 a0)) {K K' : kS → Int32 → Prop} {S0 : kS} (hk : ∀ S1 r1, KF [6, 7, 11, 17] [] [17, 18, 19, 28, 29, 30, 35] [20, 39] [] S0 S1 → K S1 r1 → K' S1 r1) : ∀ (n : Nat) (u : Nat × Int32 × Int32 × Int32 × Int32 × Int32 × kS), KF [6, 7, 11, 17] [] [17, 18, 19, 28, 29, 30, 35] [20, 39] [] S0 u.2.2.2.2.2.2 → it (lT_X3_listed_44 r_X3_waitFor K) n u → it (lT_X3_listed_44 r_X3_waitFor K') n u := by
  intro n
  induction n with
  | zero => exact fun _ _ h => h
  | succ n ih => exact fun u hF h => kmT_X3_listed_44 hr_X3_waitFor hk ih hF h
theorem kmT_X3_listed_39 {r_X3_waitFor : Nat → Int32 → kS → (kS → Prop) → Prop} (hr_X3_waitFor : ∀ t0 : Nat, ∀ a0 : Int32, KmV [6, 7, 11, 17] [] [17, 18, 19, 28, 29, 30, 35] [20, 39] [] (r_X3_waitFor t0 a0)) {K K' : kS → Int32 → Prop} {S0 : kS} (hk : ∀ S1 r1, KF [6, 7, 11, 17] [] [17, 18, 19, 28, 29, 30, 35] [20, 39] [] S0 S1 → K S1 r1 → K' S1 r1) {x0 : Nat} {x2 : Int32} {x3 : Int32} {x4 : Int32} {y0 : Int32} {S : kS} (hF : KF [6, 7, 11, 17] [] [17, 18, 19, 28, 29, 30, 35] [20, 39] [] S0 S) (h : wT_X3_listed_39 r_X3_waitFor K x0 x2 x3 x4 y0 S) : wT_X3_listed_39 r_X3_waitFor K' x0 x2 x3 x4 y0 S := by
  unfold wT_X3_listed_39 at h ⊢
  obtain ⟨n9, h⟩ := h
  exact ⟨n9, kmlT_X3_listed_44 hr_X3_waitFor hk n9 _ hF h⟩
theorem kmT_X3_listed_34 {r_X3_waitFor : Nat → Int32 → kS → (kS → Prop) → Prop} (hr_X3_waitFor : ∀ t0 : Nat, ∀ a0 : Int32, KmV [6, 7, 11, 17] [] [17, 18, 19, 28, 29, 30, 35] [20, 39] [] (r_X3_waitFor t0 a0)) {K K' : kS → Int32 → Prop} {S0 : kS} (hk : ∀ S1 r1, KF [6, 7, 11, 17] [] [17, 18, 19, 28, 29, 30, 35] [20, 39] [] S0 S1 → K S1 r1 → K' S1 r1) {x0 : Nat} {x2 : Int32} {x3 : Int32} {x4 : Int32} {S : kS} (hF : KF [6, 7, 11, 17] [] [17, 18, 19, 28, 29, 30, 35] [20, 39] [] S0 S) (h : wT_X3_listed_34 r_X3_waitFor K x0 x2 x3 x4 S) : wT_X3_listed_34 r_X3_waitFor K' x0 x2 x3 x4 S := by
  unfold wT_X3_listed_34 at h ⊢
  exact kmT_X3_listed_39 hr_X3_waitFor hk hF h
theorem kmT_X3_listed_11 {r_X3_waitFor : Nat → Int32 → kS → (kS → Prop) → Prop} (hr_X3_waitFor : ∀ t0 : Nat, ∀ a0 : Int32, KmV [6, 7, 11, 17] [] [17, 18, 19, 28, 29, 30, 35] [20, 39] [] (r_X3_waitFor t0 a0)) {K K' : kS → Int32 → Prop} {S0 : kS} (hk : ∀ S1 r1, KF [6, 7, 11, 17] [] [17, 18, 19, 28, 29, 30, 35] [20, 39] [] S0 S1 → K S1 r1 → K' S1 r1) {x0 : Nat} {x2 : Int32} {y0 : Int32} {S : kS} (hF : KF [6, 7, 11, 17] [] [17, 18, 19, 28, 29, 30, 35] [20, 39] [] S0 S) (h : wT_X3_listed_11 r_X3_waitFor K x0 x2 y0 S) : wT_X3_listed_11 r_X3_waitFor K' x0 x2 y0 S := by
  unfold wT_X3_listed_11 at h ⊢
  refine kmT_X3_need _ _ _ _ _ (fun S2 hG h => ?_) h
  replace hF := KF_t hF hG (by decide) (by decide) (by decide) (by decide) (by decide) (by decide) (by decide) (by decide)
  refine ⟨fun c => ?_, fun c => ?_⟩
  · replace h := h.1 c
    exact kmT_X3_listed_34 hr_X3_waitFor hk hF h
  · replace h := h.2 c
    refine kmT_X3_kind _ _ _ _ (fun S4 r4 hG h => ?_) h
    replace hF := KF_t hF hG (by decide) (by decide) (by decide) (by decide) (by decide) (by decide) (by decide) (by decide)
    refine ⟨fun c => ?_, fun c => ?_⟩
    · replace h := h.1 c
      exact kmT_X3_listed_39 hr_X3_waitFor hk hF h
    · replace h := h.2 c
      exact kmT_X3_listed_34 hr_X3_waitFor hk hF h
theorem kmT_X3_listed {r_X3_waitFor : Nat → Int32 → kS → (kS → Prop) → Prop} (hr_X3_waitFor : ∀ t0 : Nat, ∀ a0 : Int32, KmV [6, 7, 11, 17] [] [17, 18, 19, 28, 29, 30, 35] [20, 39] [] (r_X3_waitFor t0 a0)) (t0 : Nat) (a0 : Int32) (a1 : Int32) : KmI [6, 7, 11, 17] [] [17, 18, 19, 28, 29, 30, 35] [20, 39] [] (wT_X3_listed r_X3_waitFor t0 a0 a1) := by
  intro S0 K K' hk h
  have hF : KF [6, 7, 11, 17] [] [17, 18, 19, 28, 29, 30, 35] [20, 39] [] S0 S0 := KF_rf
  unfold wT_X3_listed at h ⊢
  refine ⟨fun c => ?_, fun c => ?_⟩
  · replace h := h.1 c
    exact kmT_X3_listed_11 hr_X3_waitFor hk hF h
  · replace h := h.2 c
    exact kmT_X3_listed_11 hr_X3_waitFor hk hF h
theorem kmT_X3_waitFor_225 {r_X3_waitFor : Nat → Int32 → kS → (kS → Prop) → Prop} (hr_X3_waitFor : ∀ t0 : Nat, ∀ a0 : Int32, KmV [6, 7, 11, 17] [] [17, 18, 19, 28, 29, 30, 35] [20, 39] [] (r_X3_waitFor t0 a0)) {K K' : kS → Prop} {S0 : kS} (hk : ∀ S1, KF [6, 7, 11, 17] [] [17, 18, 19, 28, 29, 30, 35] [20, 39] [] S0 S1 → K S1 → K' S1) {x0 : Nat} {x1 : Int32} {y0 : Int32} {S : kS} (hF : KF [6, 7, 11, 17] [] [17, 18, 19, 28, 29, 30, 35] [20, 39] [] S0 S) (h : wT_X3_waitFor_225 r_X3_waitFor K x0 x1 y0 S) : wT_X3_waitFor_225 r_X3_waitFor K' x0 x1 y0 S := by
  unfold wT_X3_waitFor_225 at h ⊢
  refine kmT_X3_emit _ _ _ _ _ _ (fun S36 r36 hG h => ?_) h
  replace hF := KF_t hF hG (by decide) (by decide) (by decide) (by decide) (by decide) (by decide) (by decide) (by decide)
  intro z37 ez37
  replace h := h z37 ez37
  obtain ⟨q38, eq38, h9⟩ := h
  replace h := h9
  clear h9
  refine ⟨q38, eq38, ?_⟩
  intro z39 ez39
  replace h := h z39 ez39
  have pz39 : ∃ o, S0.2.1 29 o = z39 := ⟨_, by rw [ez39, hF.2.1 29 (by decide)]⟩
  refine kmT_X3_listed hr_X3_waitFor _ _ _ _ _ _ (fun S40 r40 hG h => ?_) h
  replace hF := KF_t hF hG (by decide) (by decide) (by decide) (by decide) (by decide) (by decide) (by decide) (by decide)
  intro q41 eq41
  replace h := h q41 eq41
  refine ⟨h.1, ?_⟩
  replace h := h.2
  intro S42 eS42
  replace h := h S42 eS42
  replace hF := KF_a (fid := 29) hF eS42 (by decide) (by rw [← eq41]; exact pz39)
  refine kmT_X3_emit _ _ _ _ _ _ (fun S43 r43 hG h => ?_) h
  replace hF := KF_t hF hG (by decide) (by decide) (by decide) (by decide) (by decide) (by decide) (by decide) (by decide)
  exact hk _ hF h
theorem kmT_X3_waitFor {r_X3_waitFor : Nat → Int32 → kS → (kS → Prop) → Prop} (hr_X3_waitFor : ∀ t0 : Nat, ∀ a0 : Int32, KmV [6, 7, 11, 17] [] [17, 18, 19, 28, 29, 30, 35] [20, 39] [] (r_X3_waitFor t0 a0)) (t0 : Nat) (a0 : Int32) : KmV [6, 7, 11, 17] [] [17, 18, 19, 28, 29, 30, 35] [20, 39] [] (wT_X3_waitFor r_X3_waitFor t0 a0) := by
  intro S0 K K' hk h
  have hF : KF [6, 7, 11, 17] [] [17, 18, 19, 28, 29, 30, 35] [20, 39] [] S0 S0 := KF_rf
  unfold wT_X3_waitFor at h ⊢
  refine kmT_X3_kind _ _ _ _ (fun S1 r1 hG h => ?_) h
  replace hF := KF_t hF hG (by decide) (by decide) (by decide) (by decide) (by decide) (by decide) (by decide) (by decide)
  refine kmT_X3_startsWait _ _ _ _ (fun S2 r2 hG h => ?_) h
  replace hF := KF_t hF hG (by decide) (by decide) (by decide) (by decide) (by decide) (by decide) (by decide) (by decide)
  refine ⟨fun c => ?_, fun c => ?_⟩
  · replace h := h.1 c
    refine ⟨fun c => ?_, fun c => ?_⟩
    · replace h := h.1 c
      refine kmT_X3_step _ _ _ _ (fun S5 hG h => ?_) h
      replace hF := KF_t hF hG (by decide) (by decide) (by decide) (by decide) (by decide) (by decide) (by decide) (by decide)
      refine ⟨fun c => ?_, fun c => ?_⟩
      · replace h := h.1 c
        refine kmT_X3_numberOf _ _ _ _ _ _ (fun S7 r7 hG h => ?_) h
        replace hF := KF_t hF hG (by decide) (by decide) (by decide) (by decide) (by decide) (by decide) (by decide) (by decide)
        refine kmT_X3_emit _ _ _ _ _ _ (fun S8 r8 hG h => ?_) h
        replace hF := KF_t hF hG (by decide) (by decide) (by decide) (by decide) (by decide) (by decide) (by decide) (by decide)
        exact hk _ hF h
      · replace h := h.2 c
        refine ⟨fun c => ?_, fun c => ?_⟩
        · replace h := h.1 c
          refine kmT_X3_emit _ _ _ _ _ _ (fun S10 r10 hG h => ?_) h
          replace hF := KF_t hF hG (by decide) (by decide) (by decide) (by decide) (by decide) (by decide) (by decide) (by decide)
          refine kqT_X3_expression _ _ _ _ _ (fun S11 hG h => ?_) h
          replace hF := KF_t hF hG (by decide) (by decide) (by decide) (by decide) (by decide) (by decide) (by decide) (by decide)
          refine kmT_X3_emit _ _ _ _ _ _ (fun S12 r12 hG h => ?_) h
          replace hF := KF_t hF hG (by decide) (by decide) (by decide) (by decide) (by decide) (by decide) (by decide) (by decide)
          exact hk _ hF h
        · replace h := h.2 c
          refine ⟨fun c => ?_, fun c => ?_⟩
          · replace h := h.1 c
            refine kmT_X3_emit _ _ _ _ _ _ (fun S14 r14 hG h => ?_) h
            replace hF := KF_t hF hG (by decide) (by decide) (by decide) (by decide) (by decide) (by decide) (by decide) (by decide)
            exact hk _ hF h
          · replace h := h.2 c
            refine ⟨fun c => ?_, fun c => ?_⟩
            · replace h := h.1 c
              refine kmT_X3_emit _ _ _ _ _ _ (fun S16 r16 hG h => ?_) h
              replace hF := KF_t hF hG (by decide) (by decide) (by decide) (by decide) (by decide) (by decide) (by decide) (by decide)
              intro z17 ez17
              replace h := h z17 ez17
              refine kmT_X3_need _ _ _ _ _ (fun S18 hG h => ?_) h
              replace hF := KF_t hF hG (by decide) (by decide) (by decide) (by decide) (by decide) (by decide) (by decide) (by decide)
              refine kmT_X3_listed hr_X3_waitFor _ _ _ _ _ _ (fun S19 r19 hG h => ?_) h
              replace hF := KF_t hF hG (by decide) (by decide) (by decide) (by decide) (by decide) (by decide) (by decide) (by decide)
              refine kmT_X3_emit _ _ _ _ _ _ (fun S20 r20 hG h => ?_) h
              replace hF := KF_t hF hG (by decide) (by decide) (by decide) (by decide) (by decide) (by decide) (by decide) (by decide)
              refine kmT_X3_keepChild _ _ _ _ _ _ _ (fun S21 hG h => ?_) h
              replace hF := KF_t hF hG (by decide) (by decide) (by decide) (by decide) (by decide) (by decide) (by decide) (by decide)
              exact hk _ hF h
            · replace h := h.2 c
              refine ⟨fun c => ?_, fun c => ?_⟩
              · replace h := h.1 c
                refine ⟨fun c => ?_, fun c => ?_⟩
                · replace h := h.1 c
                  exact kmT_X3_waitFor_225 hr_X3_waitFor hk hF h
                · replace h := h.2 c
                  exact kmT_X3_waitFor_225 hr_X3_waitFor hk hF h
              · replace h := h.2 c
                refine ⟨fun c => ?_, fun c => ?_⟩
                · replace h := h.1 c
                  refine ⟨fun c => ?_, fun c => ?_⟩
                  · replace h := h.1 c
                    exact kmT_X3_waitFor_225 hr_X3_waitFor hk hF h
                  · replace h := h.2 c
                    exact kmT_X3_waitFor_225 hr_X3_waitFor hk hF h
                · replace h := h.2 c
                  refine ⟨fun c => ?_, fun c => ?_⟩
                  · replace h := h.1 c
                    refine kmT_X3_emit _ _ _ _ _ _ (fun S27 r27 hG h => ?_) h
                    replace hF := KF_t hF hG (by decide) (by decide) (by decide) (by decide) (by decide) (by decide) (by decide) (by decide)
                    refine kqT_X3_expression _ _ _ _ _ (fun S28 hG h => ?_) h
                    replace hF := KF_t hF hG (by decide) (by decide) (by decide) (by decide) (by decide) (by decide) (by decide) (by decide)
                    refine kmT_X3_emit _ _ _ _ _ _ (fun S29 r29 hG h => ?_) h
                    replace hF := KF_t hF hG (by decide) (by decide) (by decide) (by decide) (by decide) (by decide) (by decide) (by decide)
                    intro z30 ez30
                    replace h := h z30 ez30
                    refine hr_X3_waitFor _ _ _ _ _ (fun S31 hG h => ?_) h
                    replace hF := KF_t hF hG (by decide) (by decide) (by decide) (by decide) (by decide) (by decide) (by decide) (by decide)
                    refine kmT_X3_emit _ _ _ _ _ _ (fun S32 r32 hG h => ?_) h
                    replace hF := KF_t hF hG (by decide) (by decide) (by decide) (by decide) (by decide) (by decide) (by decide) (by decide)
                    exact hk _ hF h
                  · replace h := h.2 c
                    refine ⟨fun c => ?_, fun c => ?_⟩
                    · replace h := h.1 c
                      exact kmT_X3_waitFor_225 hr_X3_waitFor hk hF h
                    · replace h := h.2 c
                      exact kmT_X3_waitFor_225 hr_X3_waitFor hk hF h
    · replace h := h.2 c
      refine kmT_X3_wrong _ _ _ _ _ (fun S34 hG h => ?_) h
      replace hF := KF_t hF hG (by decide) (by decide) (by decide) (by decide) (by decide) (by decide) (by decide) (by decide)
      exact hk _ hF h
  · replace h := h.2 c
    refine kmT_X3_wrong _ _ _ _ _ (fun S35 hG h => ?_) h
    replace hF := KF_t hF hG (by decide) (by decide) (by decide) (by decide) (by decide) (by decide) (by decide) (by decide)
    exact hk _ hF h
theorem krT_X3_waitFor : ∀ n : Nat, ∀ t0 : Nat, ∀ a0 : Int32, KmV [6, 7, 11, 17] [] [17, 18, 19, 28, 29, 30, 35] [20, 39] [] (wV_X3_waitFor n t0 a0) := by
  intro n
  induction n with
  | zero => exact fun _ _ _ _ _ _ h => h
  | succ n ih => exact kmT_X3_waitFor ih
theorem kqT_X3_listed (t0 : Nat) (a0 : Int32) (a1 : Int32) : KmI [6, 7, 11, 17] [] [17, 18, 19, 28, 29, 30, 35] [20, 39] [] (wU_X3_listed t0 a0 a1) := kmT_X3_listed (krT_X3_waitFor 12) t0 a0 a1
theorem kqT_X3_waitFor (t0 : Nat) (a0 : Int32) : KmV [6, 7, 11, 17] [] [17, 18, 19, 28, 29, 30, 35] [20, 39] [] (wU_X3_waitFor t0 a0) := krT_X3_waitFor 12 t0 a0
theorem kmT_X5_newWait (t0 : Nat) : KmI [] [] [36] [] [] (wT_X5_newWait t0) := by
  intro S0 K K' hk h
  have hF : KF [] [] [36] [] [] S0 S0 := KF_rf
  unfold wT_X5_newWait at h ⊢
  intro z1 ez1
  replace h := h z1 ez1
  intro z2 ez2
  replace h := h z2 ez2
  refine ⟨fun c => ?_, fun c => ?_⟩
  · replace h := h.1 c
    exact hk _ _ hF h
  · replace h := h.2 c
    intro z4 ez4
    replace h := h z4 ez4
    intro q5 eq5
    replace h := h q5 eq5
    refine ⟨h.1, ?_⟩
    replace h := h.2
    intro z6 ez6
    replace h := h z6 ez6
    refine ⟨fun c => ?_, fun c => ?_⟩
    · replace h := h.1 c
      intro z8 ez8
      replace h := h z8 ez8
      have pz8 : ∃ o, S0.2.1 36 o = z8 := ⟨_, by rw [ez8, hF.2.1 36 (by decide)]⟩
      intro q9 eq9
      replace h := h q9 eq9
      refine ⟨h.1, ?_⟩
      replace h := h.2
      intro z10 ez10
      replace h := h z10 ez10
      intro z11 ez11
      replace h := h z11 ez11
      refine ⟨h.1, ?_⟩
      replace h := h.2
      intro S12 eS12
      replace h := h S12 eS12
      replace hF := KF_a (fid := 36) hF eS12 (by decide) (by rw [← eq9]; exact pz8)
      intro z13 ez13
      replace h := h z13 ez13
      intro q14 eq14
      replace h := h q14 eq14
      refine ⟨h.1, ?_⟩
      replace h := h.2
      intro z15 ez15
      replace h := h z15 ez15
      intro z16 ez16
      replace h := h z16 ez16
      exact hk _ _ hF h
    · replace h := h.2 c
      exact hk _ _ hF h
theorem kmT_X5_setStand (t0 : Nat) (a0 : Int32) (a1 : Int32) : KmV [] [] [37] [] [] (wT_X5_setStand t0 a0 a1) := by
  intro S0 K K' hk h
  have hF : KF [] [] [37] [] [] S0 S0 := KF_rf
  unfold wT_X5_setStand at h ⊢
  intro z1 ez1
  replace h := h z1 ez1
  refine ⟨fun c => ?_, fun c => ?_⟩
  · replace h := h.1 c
    exact hk _ hF h
  · replace h := h.2 c
    refine ⟨fun c => ?_, fun c => ?_⟩
    · replace h := h.1 c
      exact hk _ hF h
    · replace h := h.2 c
      refine ⟨fun c => ?_, fun c => ?_⟩
      · replace h := h.1 c
        exact hk _ hF h
      · replace h := h.2 c
        intro z5 ez5
        replace h := h z5 ez5
        have pz5 : ∃ o, S0.2.1 37 o = z5 := ⟨_, by rw [ez5, hF.2.1 37 (by decide)]⟩
        intro z6 ez6
        replace h := h z6 ez6
        intro z7 ez7
        replace h := h z7 ez7
        intro z8 ez8
        replace h := h z8 ez8
        intro z9 ez9
        replace h := h z9 ez9
        intro q10 eq10
        replace h := h q10 eq10
        refine ⟨h.1, ?_⟩
        replace h := h.2
        intro S11 eS11
        replace h := h S11 eS11
        replace hF := KF_a (fid := 37) hF eS11 (by decide) (by rw [← eq10]; exact pz5)
        exact hk _ hF h
theorem kmT_X3_assigned_94 {K K' : kS → Prop} {S0 : kS} (hk : ∀ S1, KF [6, 7, 11, 17] [] [17, 18, 19, 28, 29, 30, 35, 36, 37] [20, 39] [] S0 S1 → K S1 → K' S1) {x0 : Nat} {x1 : Int32} {S : kS} (hF : KF [6, 7, 11, 17] [] [17, 18, 19, 28, 29, 30, 35, 36, 37] [20, 39] [] S0 S) (h : wT_X3_assigned_94 K x0 x1 S) : wT_X3_assigned_94 K' x0 x1 S := by
  unfold wT_X3_assigned_94 at h ⊢
  refine ⟨fun c => ?_, fun c => ?_⟩
  · replace h := h.1 c
    exact hk _ hF h
  · replace h := h.2 c
    refine kmT_X3_emit _ _ _ _ _ _ (fun S23 r23 hG h => ?_) h
    replace hF := KF_t hF hG (by decide) (by decide) (by decide) (by decide) (by decide) (by decide) (by decide) (by decide)
    exact hk _ hF h
theorem kmT_X3_assigned_21 {K K' : kS → Prop} {S0 : kS} (hk : ∀ S1, KF [6, 7, 11, 17] [] [17, 18, 19, 28, 29, 30, 35, 36, 37] [20, 39] [] S0 S1 → K S1 → K' S1) {x0 : Nat} {x1 : Int32} {S : kS} (hF : KF [6, 7, 11, 17] [] [17, 18, 19, 28, 29, 30, 35, 36, 37] [20, 39] [] S0 S) (h : wT_X3_assigned_21 K x0 x1 S) : wT_X3_assigned_21 K' x0 x1 S := by
  unfold wT_X3_assigned_21 at h ⊢
  refine kmT_X3_kind _ _ _ _ (fun S5 r5 hG h => ?_) h
  replace hF := KF_t hF hG (by decide) (by decide) (by decide) (by decide) (by decide) (by decide) (by decide) (by decide)
  refine ⟨fun c => ?_, fun c => ?_⟩
  · replace h := h.1 c
    intro z7 ez7
    replace h := h z7 ez7
    obtain ⟨q8, eq8, h9⟩ := h
    replace h := h9
    clear h9
    refine ⟨q8, eq8, ?_⟩
    refine kmT_X5_newWait _ _ _ _ (fun S9 r9 hG h => ?_) h
    replace hF := KF_t hF hG (by decide) (by decide) (by decide) (by decide) (by decide) (by decide) (by decide) (by decide)
    refine ⟨fun c => ?_, fun c => ?_⟩
    · replace h := h.1 c
      refine kmT_X3_step _ _ _ _ (fun S11 hG h => ?_) h
      replace hF := KF_t hF hG (by decide) (by decide) (by decide) (by decide) (by decide) (by decide) (by decide) (by decide)
      intro z12 ez12
      replace h := h z12 ez12
      refine kmT_X3_emit _ _ _ _ _ _ (fun S13 r13 hG h => ?_) h
      replace hF := KF_t hF hG (by decide) (by decide) (by decide) (by decide) (by decide) (by decide) (by decide) (by decide)
      refine kqT_X3_waitFor _ _ _ _ _ (fun S14 hG h => ?_) h
      replace hF := KF_t hF hG (by decide) (by decide) (by decide) (by decide) (by decide) (by decide) (by decide) (by decide)
      intro z15 ez15
      replace h := h z15 ez15
      intro z16 ez16
      replace h := h z16 ez16
      refine kmT_X3_emit _ _ _ _ _ _ (fun S17 r17 hG h => ?_) h
      replace hF := KF_t hF hG (by decide) (by decide) (by decide) (by decide) (by decide) (by decide) (by decide) (by decide)
      obtain ⟨q18, eq18, h9⟩ := h
      replace h := h9
      clear h9
      refine ⟨q18, eq18, ?_⟩
      refine kmT_X5_setStand _ _ _ _ _ _ (fun S19 hG h => ?_) h
      replace hF := KF_t hF hG (by decide) (by decide) (by decide) (by decide) (by decide) (by decide) (by decide) (by decide)
      exact kmT_X3_assigned_94 hk hF h
    · replace h := h.2 c
      refine kmT_X3_wrong _ _ _ _ _ (fun S20 hG h => ?_) h
      replace hF := KF_t hF hG (by decide) (by decide) (by decide) (by decide) (by decide) (by decide) (by decide) (by decide)
      exact hk _ hF h
  · replace h := h.2 c
    refine kqT_X3_expression _ _ _ _ _ (fun S21 hG h => ?_) h
    replace hF := KF_t hF hG (by decide) (by decide) (by decide) (by decide) (by decide) (by decide) (by decide) (by decide)
    exact kmT_X3_assigned_94 hk hF h
theorem kmT_X3_assigned (t0 : Nat) : KmV [6, 7, 11, 17] [] [17, 18, 19, 28, 29, 30, 35, 36, 37] [20, 39] [] (wT_X3_assigned t0) := by
  intro S0 K K' hk h
  have hF : KF [6, 7, 11, 17] [] [17, 18, 19, 28, 29, 30, 35, 36, 37] [20, 39] [] S0 S0 := KF_rf
  unfold wT_X3_assigned at h ⊢
  refine kmT_X3_kind _ _ _ _ (fun S1 r1 hG h => ?_) h
  replace hF := KF_t hF hG (by decide) (by decide) (by decide) (by decide) (by decide) (by decide) (by decide) (by decide)
  refine ⟨fun c => ?_, fun c => ?_⟩
  · replace h := h.1 c
    exact kmT_X3_assigned_21 hk hF h
  · replace h := h.2 c
    refine kmT_X3_cellHere _ _ _ _ (fun S3 r3 hG h => ?_) h
    replace hF := KF_t hF hG (by decide) (by decide) (by decide) (by decide) (by decide) (by decide) (by decide) (by decide)
    refine kmT_X3_need _ _ _ _ _ (fun S4 hG h => ?_) h
    replace hF := KF_t hF hG (by decide) (by decide) (by decide) (by decide) (by decide) (by decide) (by decide) (by decide)
    exact kmT_X3_assigned_21 hk hF h
theorem kmT_X3_startsStatement (a0 : Int32) : KmI [] [] [] [] [] (wT_X3_startsStatement a0) := by
  intro S0 K K' hk h
  have hF : KF [] [] [] [] [] S0 S0 := KF_rf
  unfold wT_X3_startsStatement at h ⊢
  refine ⟨fun c => ?_, fun c => ?_⟩
  · replace h := h.1 c
    exact hk _ _ hF h
  · replace h := h.2 c
    refine ⟨fun c => ?_, fun c => ?_⟩
    · replace h := h.1 c
      exact hk _ _ hF h
    · replace h := h.2 c
      refine ⟨fun c => ?_, fun c => ?_⟩
      · replace h := h.1 c
        exact hk _ _ hF h
      · replace h := h.2 c
        refine ⟨fun c => ?_, fun c => ?_⟩
        · replace h := h.1 c
          exact hk _ _ hF h
        · replace h := h.2 c
          exact hk _ _ hF h
theorem kmT_X7_markOutward_6 {K K' : kS → Prop} {k6 k6' : Nat × Int32 × Int32 × Int32 × Int32 × kS → Prop} {S0 : kS} (hk : ∀ S1, KF [] [] [49] [] [] S0 S1 → K S1 → K' S1) (hk6 : ∀ u : Nat × Int32 × Int32 × Int32 × Int32 × kS, KF [] [] [49] [] [] S0 u.2.2.2.2.2 → k6 u → k6' u) {x0 : Nat} {x2 : Int32} {x3 : Int32} {x4 : Int32} {x5 : Int32} {S : kS} (hF : KF [] [] [49] [] [] S0 S) (h : wT_X7_markOutward_6 K k6 x0 x2 x3 x4 x5 S) : wT_X7_markOutward_6 K' k6' x0 x2 x3 x4 x5 S := by
  unfold wT_X7_markOutward_6 at h ⊢
  refine ⟨fun c => ?_, fun c => ?_⟩
  · replace h := h.1 c
    exact hk _ hF h
  · replace h := h.2 c
    refine ⟨fun c => ?_, fun c => ?_⟩
    · replace h := h.1 c
      exact hk _ hF h
    · replace h := h.2 c
      refine ⟨fun c => ?_, fun c => ?_⟩
      · replace h := h.1 c
        exact hk _ hF h
      · replace h := h.2 c
        intro z4 ez4
        replace h := h z4 ez4
        have pz4 : ∃ o, S0.2.1 49 o = z4 := ⟨_, by rw [ez4, hF.2.1 49 (by decide)]⟩
        refine ⟨h.1, ?_⟩
        replace h := h.2
        intro z5 ez5
        replace h := h z5 ez5
        intro q6 eq6
        replace h := h q6 eq6
        refine ⟨h.1, ?_⟩
        replace h := h.2
        intro z7 ez7
        replace h := h z7 ez7
        intro z8 ez8
        replace h := h z8 ez8
        refine ⟨h.1, ?_⟩
        replace h := h.2
        intro S9 eS9
        replace h := h S9 eS9
        replace hF := KF_a (fid := 49) hF eS9 (by decide) (by rw [← eq6]; exact pz4)
        intro z10 ez10
        replace h := h z10 ez10
        refine ⟨h.1, ?_⟩
        replace h := h.2
        intro z11 ez11
        replace h := h z11 ez11
        intro q12 eq12
        replace h := h q12 eq12
        refine ⟨h.1, ?_⟩
        replace h := h.2
        intro z13 ez13
        replace h := h z13 ez13
        intro z14 ez14
        replace h := h z14 ez14
        exact hk6 _ hF h
theorem kmlT_X7_markOutward_6 {K K' : kS → Prop} {S0 : kS} (hk : ∀ S1, KF [] [] [49] [] [] S0 S1 → K S1 → K' S1) : ∀ (n : Nat) (u : Nat × Int32 × Int32 × Int32 × Int32 × kS), KF [] [] [49] [] [] S0 u.2.2.2.2.2 → it (lT_X7_markOutward_6 K) n u → it (lT_X7_markOutward_6 K') n u := by
  intro n
  induction n with
  | zero => exact fun _ _ h => h
  | succ n ih => exact fun u hF h => kmT_X7_markOutward_6 hk ih hF h
theorem kmT_X7_markOutward (t0 : Nat) (a0 : Int32) (a1 : Int32) (a2 : Int32) : KmV [] [] [49] [] [] (wT_X7_markOutward t0 a0 a1 a2) := by
  intro S0 K K' hk h
  have hF : KF [] [] [49] [] [] S0 S0 := KF_rf
  unfold wT_X7_markOutward at h ⊢
  obtain ⟨n9, h⟩ := h
  exact ⟨n9, kmlT_X7_markOutward_6 hk n9 _ hF h⟩
theorem kmT_X3_leftLoop_83 {K K' : kS → Prop} {S0 : kS} (hk : ∀ S1, KF [6, 7, 17] [] [28, 29, 30, 49] [] [] S0 S1 → K S1 → K' S1) {y0 : Option Nat} {y1 : Int32} {y2 : Int32} {y3 : Int32} {S : kS} (hF : KF [6, 7, 17] [] [28, 29, 30, 49] [] [] S0 S) (h : wT_X3_leftLoop_83 K y0 y1 y2 y3 S) : wT_X3_leftLoop_83 K' y0 y1 y2 y3 S := by
  unfold wT_X3_leftLoop_83 at h ⊢
  obtain ⟨q19, eq19, h9⟩ := h
  replace h := h9
  clear h9
  refine ⟨q19, eq19, ?_⟩
  refine kmT_X7_markOutward _ _ _ _ _ _ _ (fun S20 hG h => ?_) h
  replace hF := KF_t hF hG (by decide) (by decide) (by decide) (by decide) (by decide) (by decide) (by decide) (by decide)
  exact hk _ hF h
theorem kmT_X3_leftLoop_45 {K K' : kS → Prop} {S0 : kS} (hk : ∀ S1, KF [6, 7, 17] [] [28, 29, 30, 49] [] [] S0 S1 → K S1 → K' S1) {x0 : Nat} {x1 : Int32} {y0 : Nat} {y1 : Int32} {S : kS} (hF : KF [6, 7, 17] [] [28, 29, 30, 49] [] [] S0 S) (h : wT_X3_leftLoop_45 K x0 x1 y0 y1 S) : wT_X3_leftLoop_45 K' x0 x1 y0 y1 S := by
  unfold wT_X3_leftLoop_45 at h ⊢
  intro z8 ez8
  replace h := h z8 ez8
  refine kmT_X3_emit _ _ _ _ _ _ (fun S9 r9 hG h => ?_) h
  replace hF := KF_t hF hG (by decide) (by decide) (by decide) (by decide) (by decide) (by decide) (by decide) (by decide)
  intro z10 ez10
  replace h := h z10 ez10
  intro z11 ez11
  replace h := h z11 ez11
  intro z12 ez12
  replace h := h z12 ez12
  obtain ⟨q13, eq13, h9⟩ := h
  replace h := h9
  clear h9
  refine ⟨q13, eq13, ?_⟩
  intro z14 ez14
  replace h := h z14 ez14
  intro z15 ez15
  replace h := h z15 ez15
  intro q16 eq16
  replace h := h q16 eq16
  refine ⟨h.1, ?_⟩
  replace h := h.2
  intro z17 ez17
  replace h := h z17 ez17
  refine ⟨fun c => ?_, fun c => ?_⟩
  · replace h := h.1 c
    exact kmT_X3_leftLoop_83 hk hF h
  · replace h := h.2 c
    exact kmT_X3_leftLoop_83 hk hF h
theorem kmT_X3_leftLoop_15 {K K' : kS → Prop} {S0 : kS} (hk : ∀ S1, KF [6, 7, 17] [] [28, 29, 30, 49] [] [] S0 S1 → K S1 → K' S1) {x0 : Nat} {y0 : Int32} {S : kS} (hF : KF [6, 7, 17] [] [28, 29, 30, 49] [] [] S0 S) (h : wT_X3_leftLoop_15 K x0 y0 S) : wT_X3_leftLoop_15 K' x0 y0 S := by
  unfold wT_X3_leftLoop_15 at h ⊢
  intro z3 ez3
  replace h := h z3 ez3
  refine ⟨fun c => ?_, fun c => ?_⟩
  · replace h := h.1 c
    refine kmT_X3_step _ _ _ _ (fun S5 hG h => ?_) h
    replace hF := KF_t hF hG (by decide) (by decide) (by decide) (by decide) (by decide) (by decide) (by decide) (by decide)
    refine ⟨fun c => ?_, fun c => ?_⟩
    · replace h := h.1 c
      exact kmT_X3_leftLoop_45 hk hF h
    · replace h := h.2 c
      exact kmT_X3_leftLoop_45 hk hF h
  · replace h := h.2 c
    refine kmT_X3_wrong _ _ _ _ _ (fun S7 hG h => ?_) h
    replace hF := KF_t hF hG (by decide) (by decide) (by decide) (by decide) (by decide) (by decide) (by decide) (by decide)
    exact hk _ hF h
theorem kmT_X3_leftLoop (t0 : Nat) : KmV [6, 7, 17] [] [28, 29, 30, 49] [] [] (wT_X3_leftLoop t0) := by
  intro S0 K K' hk h
  have hF : KF [6, 7, 17] [] [28, 29, 30, 49] [] [] S0 S0 := KF_rf
  unfold wT_X3_leftLoop at h ⊢
  refine kmT_X3_kind _ _ _ _ (fun S1 r1 hG h => ?_) h
  replace hF := KF_t hF hG (by decide) (by decide) (by decide) (by decide) (by decide) (by decide) (by decide) (by decide)
  refine ⟨fun c => ?_, fun c => ?_⟩
  · replace h := h.1 c
    exact kmT_X3_leftLoop_15 hk hF h
  · replace h := h.2 c
    exact kmT_X3_leftLoop_15 hk hF h
theorem kmT_X7_newLoop (t0 : Nat) (a0 : Int32) (a1 : Int32) : KmI [25] [] [50, 51] [] [] (wT_X7_newLoop t0 a0 a1) := by
  intro S0 K K' hk h
  have hF : KF [25] [] [50, 51] [] [] S0 S0 := KF_rf
  unfold wT_X7_newLoop at h ⊢
  intro z1 ez1
  replace h := h z1 ez1
  refine ⟨fun c => ?_, fun c => ?_⟩
  · replace h := h.1 c
    intro z3 ez3
    replace h := h z3 ez3
    have pz3 : ∃ o, S0.2.1 50 o = z3 := ⟨_, by rw [ez3, hF.2.1 50 (by decide)]⟩
    intro z4 ez4
    replace h := h z4 ez4
    intro q5 eq5
    replace h := h q5 eq5
    refine ⟨h.1, ?_⟩
    replace h := h.2
    intro S6 eS6
    replace h := h S6 eS6
    replace hF := KF_a (fid := 50) hF eS6 (by decide) (by rw [← eq5]; exact pz3)
    intro z7 ez7
    replace h := h z7 ez7
    have pz7 : ∃ o, S0.2.1 51 o = z7 := ⟨_, by rw [ez7, hF.2.1 51 (by decide)]⟩
    intro z8 ez8
    replace h := h z8 ez8
    intro q9 eq9
    replace h := h q9 eq9
    refine ⟨h.1, ?_⟩
    replace h := h.2
    intro S10 eS10
    replace h := h S10 eS10
    replace hF := KF_a (fid := 51) hF eS10 (by decide) (by rw [← eq9]; exact pz7)
    intro z11 ez11
    replace h := h z11 ez11
    intro z12 ez12
    replace h := h z12 ez12
    intro S13 eS13
    replace h := h S13 eS13
    replace hF := KF_i hF eS13 (by decide)
    intro z14 ez14
    replace h := h z14 ez14
    intro z15 ez15
    replace h := h z15 ez15
    exact hk _ _ hF h
  · replace h := h.2 c
    exact hk _ _ hF h
theorem kmT_X3_returned_12 {K K' : kS → Prop} {S0 : kS} (hk : ∀ S1, KF [6, 7, 17] [] [28, 29, 30, 35] [39] [] S0 S1 → K S1 → K' S1) {x0 : Nat} {S : kS} (hF : KF [6, 7, 17] [] [28, 29, 30, 35] [39] [] S0 S) (h : wT_X3_returned_12 K x0 S) : wT_X3_returned_12 K' x0 S := by
  unfold wT_X3_returned_12 at h ⊢
  refine kmT_X3_step _ _ _ _ (fun S4 hG h => ?_) h
  replace hF := KF_t hF hG (by decide) (by decide) (by decide) (by decide) (by decide) (by decide) (by decide) (by decide)
  refine kqT_X3_expression _ _ _ _ _ (fun S5 hG h => ?_) h
  replace hF := KF_t hF hG (by decide) (by decide) (by decide) (by decide) (by decide) (by decide) (by decide) (by decide)
  intro z6 ez6
  replace h := h z6 ez6
  obtain ⟨q7, eq7, h9⟩ := h
  replace h := h9
  clear h9
  refine ⟨q7, eq7, ?_⟩
  intro z8 ez8
  replace h := h z8 ez8
  intro z9 ez9
  replace h := h z9 ez9
  refine kmT_X3_emit _ _ _ _ _ _ (fun S10 r10 hG h => ?_) h
  replace hF := KF_t hF hG (by decide) (by decide) (by decide) (by decide) (by decide) (by decide) (by decide) (by decide)
  exact hk _ hF h
theorem kmT_X3_returned (t0 : Nat) : KmV [6, 7, 17] [] [28, 29, 30, 35] [39] [] (wT_X3_returned t0) := by
  intro S0 K K' hk h
  have hF : KF [6, 7, 17] [] [28, 29, 30, 35] [39] [] S0 S0 := KF_rf
  unfold wT_X3_returned at h ⊢
  intro z1 ez1
  replace h := h z1 ez1
  refine ⟨fun c => ?_, fun c => ?_⟩
  · replace h := h.1 c
    exact kmT_X3_returned_12 hk hF h
  · replace h := h.2 c
    refine kmT_X3_wrong _ _ _ _ _ (fun S3 hG h => ?_) h
    replace hF := KF_t hF hG (by decide) (by decide) (by decide) (by decide) (by decide) (by decide) (by decide) (by decide)
    exact kmT_X3_returned_12 hk hF h
theorem kmT_X7_mark (t0 : Nat) (a0 : Int32) (a1 : Int32) : KmV [] [] [49] [] [] (wT_X7_mark t0 a0 a1) := by
  intro S0 K K' hk h
  have hF : KF [] [] [49] [] [] S0 S0 := KF_rf
  unfold wT_X7_mark at h ⊢
  intro z1 ez1
  replace h := h z1 ez1
  have pz1 : ∃ o, S0.2.1 49 o = z1 := ⟨_, by rw [ez1, hF.2.1 49 (by decide)]⟩
  intro q2 eq2
  replace h := h q2 eq2
  refine ⟨h.1, ?_⟩
  replace h := h.2
  intro z3 ez3
  replace h := h z3 ez3
  intro z4 ez4
  replace h := h z4 ez4
  refine ⟨h.1, ?_⟩
  replace h := h.2
  intro S5 eS5
  replace h := h S5 eS5
  replace hF := KF_a (fid := 49) hF eS5 (by decide) (by rw [← eq2]; exact pz1)
  exact hk _ hF h
theorem kmT_X7_newTry_48 {K K' : kS → Int32 → Prop} {S0 : kS} (hk : ∀ S1 r1, KF [24] [] [43, 44, 45, 49] [] [] S0 S1 → K S1 r1 → K' S1 r1) {x0 : Nat} {x2 : Int32} {y0 : Option Nat} {y1 : Int32} {y2 : Int32} {S : kS} (py0 : ∃ o, S0.2.1 44 o = y0) (hF : KF [24] [] [43, 44, 45, 49] [] [] S0 S) (h : wT_X7_newTry_48 K x0 x2 y0 y1 y2 S) : wT_X7_newTry_48 K' x0 x2 y0 y1 y2 S := by
  unfold wT_X7_newTry_48 at h ⊢
  intro q15 eq15
  replace h := h q15 eq15
  refine ⟨h.1, ?_⟩
  replace h := h.2
  intro S16 eS16
  replace h := h S16 eS16
  replace hF := KF_a (fid := 44) hF eS16 (by decide) (by rw [← eq15]; exact py0)
  intro z17 ez17
  replace h := h z17 ez17
  have pz17 : ∃ o, S0.2.1 45 o = z17 := ⟨_, by rw [ez17, hF.2.1 45 (by decide)]⟩
  intro z18 ez18
  replace h := h z18 ez18
  intro q19 eq19
  replace h := h q19 eq19
  refine ⟨h.1, ?_⟩
  replace h := h.2
  intro S20 eS20
  replace h := h S20 eS20
  replace hF := KF_a (fid := 45) hF eS20 (by decide) (by rw [← eq19]; exact pz17)
  intro z21 ez21
  replace h := h z21 ez21
  have pz21 : ∃ o, S0.2.1 49 o = z21 := ⟨_, by rw [ez21, hF.2.1 49 (by decide)]⟩
  intro z22 ez22
  replace h := h z22 ez22
  intro q23 eq23
  replace h := h q23 eq23
  refine ⟨h.1, ?_⟩
  replace h := h.2
  intro S24 eS24
  replace h := h S24 eS24
  replace hF := KF_a (fid := 49) hF eS24 (by decide) (by rw [← eq23]; exact pz21)
  intro z25 ez25
  replace h := h z25 ez25
  intro z26 ez26
  replace h := h z26 ez26
  intro S27 eS27
  replace h := h S27 eS27
  replace hF := KF_i hF eS27 (by decide)
  intro z28 ez28
  replace h := h z28 ez28
  intro z29 ez29
  replace h := h z29 ez29
  exact hk _ _ hF h
theorem kmT_X7_newTry (t0 : Nat) (a0 : Int32) (a1 : Int32) : KmI [24] [] [43, 44, 45, 49] [] [] (wT_X7_newTry t0 a0 a1) := by
  intro S0 K K' hk h
  have hF : KF [24] [] [43, 44, 45, 49] [] [] S0 S0 := KF_rf
  unfold wT_X7_newTry at h ⊢
  intro z1 ez1
  replace h := h z1 ez1
  refine ⟨fun c => ?_, fun c => ?_⟩
  · replace h := h.1 c
    intro z3 ez3
    replace h := h z3 ez3
    have pz3 : ∃ o, S0.2.1 43 o = z3 := ⟨_, by rw [ez3, hF.2.1 43 (by decide)]⟩
    intro z4 ez4
    replace h := h z4 ez4
    intro q5 eq5
    replace h := h q5 eq5
    refine ⟨h.1, ?_⟩
    replace h := h.2
    intro S6 eS6
    replace h := h S6 eS6
    replace hF := KF_a (fid := 43) hF eS6 (by decide) (by rw [← eq5]; exact pz3)
    intro z7 ez7
    replace h := h z7 ez7
    have pz7 : ∃ o, S0.2.1 44 o = z7 := ⟨_, by rw [ez7, hF.2.1 44 (by decide)]⟩
    intro z8 ez8
    replace h := h z8 ez8
    refine ⟨fun c => ?_, fun c => ?_⟩
    · replace h := h.1 c
      intro z10 ez10
      replace h := h z10 ez10
      have pz10 : ∃ o, S0.2.1 44 o = z10 := ⟨_, by rw [ez10, hF.2.1 44 (by decide)]⟩
      refine ⟨h.1, ?_⟩
      replace h := h.2
      intro z11 ez11
      replace h := h z11 ez11
      intro q12 eq12
      replace h := h q12 eq12
      refine ⟨h.1, ?_⟩
      replace h := h.2
      intro z13 ez13
      replace h := h z13 ez13
      intro z14 ez14
      replace h := h z14 ez14
      exact kmT_X7_newTry_48 hk pz7 hF h
    · replace h := h.2 c
      exact kmT_X7_newTry_48 hk pz7 hF h
  · replace h := h.2 c
    exact hk _ _ hF h
theorem kmT_X3_finished {r_X3_block : Nat → Int32 → kS → (kS → Prop) → Prop} (hr_X3_block : ∀ t0 : Nat, ∀ a0 : Int32, KmV [6, 7, 8, 9, 10, 11, 17, 24, 25] [] [17, 18, 19, 28, 29, 30, 35, 36, 37, 43, 44, 45, 46, 47, 48, 49, 50, 51, 52] [20, 39] [] (r_X3_block t0 a0)) (t0 : Nat) (a0 : Int32) (a1 : Int32) : KmV [6, 7, 8, 9, 10, 11, 17, 24, 25] [] [17, 18, 19, 28, 29, 30, 35, 36, 37, 43, 44, 45, 46, 47, 48, 49, 50, 51, 52] [20, 39] [] (wT_X3_finished r_X3_block t0 a0 a1) := by
  intro S0 K K' hk h
  have hF : KF [6, 7, 8, 9, 10, 11, 17, 24, 25] [] [17, 18, 19, 28, 29, 30, 35, 36, 37, 43, 44, 45, 46, 47, 48, 49, 50, 51, 52] [20, 39] [] S0 S0 := KF_rf
  unfold wT_X3_finished at h ⊢
  intro z1 ez1
  replace h := h z1 ez1
  intro S2 eS2
  replace h := h S2 eS2
  replace hF := KF_i hF eS2 (by decide)
  intro z3 ez3
  replace h := h z3 ez3
  intro z4 ez4
  replace h := h z4 ez4
  intro S5 eS5
  replace h := h S5 eS5
  replace hF := KF_i hF eS5 (by decide)
  intro z6 ez6
  replace h := h z6 ez6
  obtain ⟨q7, eq7, h9⟩ := h
  replace h := h9
  clear h9
  refine ⟨q7, eq7, ?_⟩
  intro z8 ez8
  replace h := h z8 ez8
  have pz8 : ∃ o, S0.2.1 47 o = z8 := ⟨_, by rw [ez8, hF.2.1 47 (by decide)]⟩
  intro z9 ez9
  replace h := h z9 ez9
  obtain ⟨q10, eq10, h9⟩ := h
  replace h := h9
  clear h9
  refine ⟨q10, eq10, ?_⟩
  intro z11 ez11
  replace h := h z11 ez11
  intro q12 eq12
  replace h := h q12 eq12
  refine ⟨h.1, ?_⟩
  replace h := h.2
  intro S13 eS13
  replace h := h S13 eS13
  replace hF := KF_a (fid := 47) hF eS13 (by decide) (by rw [← eq12]; exact pz8)
  refine hr_X3_block _ _ _ _ _ (fun S14 hG h => ?_) h
  replace hF := KF_t hF hG (by decide) (by decide) (by decide) (by decide) (by decide) (by decide) (by decide) (by decide)
  refine kmT_X3_emit _ _ _ _ _ _ (fun S15 r15 hG h => ?_) h
  replace hF := KF_t hF hG (by decide) (by decide) (by decide) (by decide) (by decide) (by decide) (by decide) (by decide)
  intro z16 ez16
  replace h := h z16 ez16
  intro z17 ez17
  replace h := h z17 ez17
  intro S18 eS18
  replace h := h S18 eS18
  replace hF := KF_i hF eS18 (by decide)
  intro S19 eS19
  replace h := h S19 eS19
  replace hF := KF_i hF eS19 (by decide)
  exact hk _ hF h
theorem kmT_X3_tried_170 {r_X3_block : Nat → Int32 → kS → (kS → Prop) → Prop} (hr_X3_block : ∀ t0 : Nat, ∀ a0 : Int32, KmV [6, 7, 8, 9, 10, 11, 17, 24, 25] [] [17, 18, 19, 28, 29, 30, 35, 36, 37, 43, 44, 45, 46, 47, 48, 49, 50, 51, 52] [20, 39] [] (r_X3_block t0 a0)) {K K' : kS → Prop} {S0 : kS} (hk : ∀ S1, KF [6, 7, 8, 9, 10, 11, 17, 24, 25] [] [17, 18, 19, 28, 29, 30, 35, 36, 37, 43, 44, 45, 46, 47, 48, 49, 50, 51, 52] [20, 39] [] S0 S1 → K S1 → K' S1) {x0 : Nat} {x2 : Int32} {x3 : Int32} {S : kS} (hF : KF [6, 7, 8, 9, 10, 11, 17, 24, 25] [] [17, 18, 19, 28, 29, 30, 35, 36, 37, 43, 44, 45, 46, 47, 48, 49, 50, 51, 52] [20, 39] [] S0 S) (h : wT_X3_tried_170 r_X3_block K x0 x2 x3 S) : wT_X3_tried_170 r_X3_block K' x0 x2 x3 S := by
  unfold wT_X3_tried_170 at h ⊢
  intro z44 ez44
  replace h := h z44 ez44
  obtain ⟨q45, eq45, h9⟩ := h
  replace h := h9
  clear h9
  refine ⟨q45, eq45, ?_⟩
  intro z46 ez46
  replace h := h z46 ez46
  have pz46 : ∃ o, S0.2.1 48 o = z46 := ⟨_, by rw [ez46, hF.2.1 48 (by decide)]⟩
  intro z47 ez47
  replace h := h z47 ez47
  obtain ⟨q48, eq48, h9⟩ := h
  replace h := h9
  clear h9
  refine ⟨q48, eq48, ?_⟩
  intro z49 ez49
  replace h := h z49 ez49
  intro q50 eq50
  replace h := h q50 eq50
  refine ⟨h.1, ?_⟩
  replace h := h.2
  intro S51 eS51
  replace h := h S51 eS51
  replace hF := KF_a (fid := 48) hF eS51 (by decide) (by rw [← eq50]; exact pz46)
  intro S52 eS52
  replace h := h S52 eS52
  replace hF := KF_i hF eS52 (by decide)
  exact hk _ hF h
theorem kmT_X3_tried_136 {r_X3_block : Nat → Int32 → kS → (kS → Prop) → Prop} (hr_X3_block : ∀ t0 : Nat, ∀ a0 : Int32, KmV [6, 7, 8, 9, 10, 11, 17, 24, 25] [] [17, 18, 19, 28, 29, 30, 35, 36, 37, 43, 44, 45, 46, 47, 48, 49, 50, 51, 52] [20, 39] [] (r_X3_block t0 a0)) {K K' : kS → Prop} {S0 : kS} (hk : ∀ S1, KF [6, 7, 8, 9, 10, 11, 17, 24, 25] [] [17, 18, 19, 28, 29, 30, 35, 36, 37, 43, 44, 45, 46, 47, 48, 49, 50, 51, 52] [20, 39] [] S0 S1 → K S1 → K' S1) {x0 : Nat} {x1 : Int32} {x2 : Int32} {x3 : Int32} {S : kS} (hF : KF [6, 7, 8, 9, 10, 11, 17, 24, 25] [] [17, 18, 19, 28, 29, 30, 35, 36, 37, 43, 44, 45, 46, 47, 48, 49, 50, 51, 52] [20, 39] [] S0 S) (h : wT_X3_tried_136 r_X3_block K x0 x1 x2 x3 S) : wT_X3_tried_136 r_X3_block K' x0 x1 x2 x3 S := by
  unfold wT_X3_tried_136 at h ⊢
  refine kmT_X3_take _ _ _ _ _ (fun S35 r35 hG h => ?_) h
  replace hF := KF_t hF hG (by decide) (by decide) (by decide) (by decide) (by decide) (by decide) (by decide) (by decide)
  refine ⟨fun c => ?_, fun c => ?_⟩
  · replace h := h.1 c
    exact kmT_X3_tried_170 hr_X3_block hk hF h
  · replace h := h.2 c
    intro z37 ez37
    replace h := h z37 ez37
    intro z38 ez38
    replace h := h z38 ez38
    intro S39 eS39
    replace h := h S39 eS39
    replace hF := KF_i hF eS39 (by decide)
    intro z40 ez40
    replace h := h z40 ez40
    obtain ⟨q41, eq41, h9⟩ := h
    replace h := h9
    clear h9
    refine ⟨q41, eq41, ?_⟩
    refine kmT_X7_mark _ _ _ _ _ _ (fun S42 hG h => ?_) h
    replace hF := KF_t hF hG (by decide) (by decide) (by decide) (by decide) (by decide) (by decide) (by decide) (by decide)
    refine kmT_X3_finished hr_X3_block _ _ _ _ _ _ (fun S43 hG h => ?_) h
    replace hF := KF_t hF hG (by decide) (by decide) (by decide) (by decide) (by decide) (by decide) (by decide) (by decide)
    exact kmT_X3_tried_170 hr_X3_block hk hF h
theorem kmT_X3_tried_76 {r_X3_block : Nat → Int32 → kS → (kS → Prop) → Prop} (hr_X3_block : ∀ t0 : Nat, ∀ a0 : Int32, KmV [6, 7, 8, 9, 10, 11, 17, 24, 25] [] [17, 18, 19, 28, 29, 30, 35, 36, 37, 43, 44, 45, 46, 47, 48, 49, 50, 51, 52] [20, 39] [] (r_X3_block t0 a0)) {K K' : kS → Prop} {S0 : kS} (hk : ∀ S1, KF [6, 7, 8, 9, 10, 11, 17, 24, 25] [] [17, 18, 19, 28, 29, 30, 35, 36, 37, 43, 44, 45, 46, 47, 48, 49, 50, 51, 52] [20, 39] [] S0 S1 → K S1 → K' S1) {x0 : Nat} {x1 : Int32} {x2 : Int32} {x3 : Int32} {S : kS} (hF : KF [6, 7, 8, 9, 10, 11, 17, 24, 25] [] [17, 18, 19, 28, 29, 30, 35, 36, 37, 43, 44, 45, 46, 47, 48, 49, 50, 51, 52] [20, 39] [] S0 S) (h : wT_X3_tried_76 r_X3_block K x0 x1 x2 x3 S) : wT_X3_tried_76 r_X3_block K' x0 x1 x2 x3 S := by
  unfold wT_X3_tried_76 at h ⊢
  refine kmT_X3_take _ _ _ _ _ (fun S18 r18 hG h => ?_) h
  replace hF := KF_t hF hG (by decide) (by decide) (by decide) (by decide) (by decide) (by decide) (by decide) (by decide)
  refine ⟨fun c => ?_, fun c => ?_⟩
  · replace h := h.1 c
    exact kmT_X3_tried_136 hr_X3_block hk hF h
  · replace h := h.2 c
    intro z20 ez20
    replace h := h z20 ez20
    intro z21 ez21
    replace h := h z21 ez21
    intro S22 eS22
    replace h := h S22 eS22
    replace hF := KF_i hF eS22 (by decide)
    intro z23 ez23
    replace h := h z23 ez23
    obtain ⟨q24, eq24, h9⟩ := h
    replace h := h9
    clear h9
    refine ⟨q24, eq24, ?_⟩
    refine kmT_X7_mark _ _ _ _ _ _ (fun S25 hG h => ?_) h
    replace hF := KF_t hF hG (by decide) (by decide) (by decide) (by decide) (by decide) (by decide) (by decide) (by decide)
    intro z26 ez26
    replace h := h z26 ez26
    obtain ⟨q27, eq27, h9⟩ := h
    replace h := h9
    clear h9
    refine ⟨q27, eq27, ?_⟩
    intro z28 ez28
    replace h := h z28 ez28
    have pz28 : ∃ o, S0.2.1 46 o = z28 := ⟨_, by rw [ez28, hF.2.1 46 (by decide)]⟩
    refine kmT_X3_cellHere _ _ _ _ (fun S29 r29 hG h => ?_) h
    replace hF := KF_t hF hG (by decide) (by decide) (by decide) (by decide) (by decide) (by decide) (by decide) (by decide)
    refine kmT_X3_emit _ _ _ _ _ _ (fun S30 r30 hG h => ?_) h
    replace hF := KF_t hF hG (by decide) (by decide) (by decide) (by decide) (by decide) (by decide) (by decide) (by decide)
    intro q31 eq31
    replace h := h q31 eq31
    refine ⟨h.1, ?_⟩
    replace h := h.2
    intro S32 eS32
    replace h := h S32 eS32
    replace hF := KF_a (fid := 46) hF eS32 (by decide) (by rw [← eq31]; exact pz28)
    refine hr_X3_block _ _ _ _ _ (fun S33 hG h => ?_) h
    replace hF := KF_t hF hG (by decide) (by decide) (by decide) (by decide) (by decide) (by decide) (by decide) (by decide)
    refine kmT_X3_emit _ _ _ _ _ _ (fun S34 r34 hG h => ?_) h
    replace hF := KF_t hF hG (by decide) (by decide) (by decide) (by decide) (by decide) (by decide) (by decide) (by decide)
    exact kmT_X3_tried_136 hr_X3_block hk hF h
theorem kmT_X3_tried {r_X3_block : Nat → Int32 → kS → (kS → Prop) → Prop} (hr_X3_block : ∀ t0 : Nat, ∀ a0 : Int32, KmV [6, 7, 8, 9, 10, 11, 17, 24, 25] [] [17, 18, 19, 28, 29, 30, 35, 36, 37, 43, 44, 45, 46, 47, 48, 49, 50, 51, 52] [20, 39] [] (r_X3_block t0 a0)) (t0 : Nat) (a0 : Int32) : KmV [6, 7, 8, 9, 10, 11, 17, 24, 25] [] [17, 18, 19, 28, 29, 30, 35, 36, 37, 43, 44, 45, 46, 47, 48, 49, 50, 51, 52] [20, 39] [] (wT_X3_tried r_X3_block t0 a0) := by
  intro S0 K K' hk h
  have hF : KF [6, 7, 8, 9, 10, 11, 17, 24, 25] [] [17, 18, 19, 28, 29, 30, 35, 36, 37, 43, 44, 45, 46, 47, 48, 49, 50, 51, 52] [20, 39] [] S0 S0 := KF_rf
  unfold wT_X3_tried at h ⊢
  intro z1 ez1
  replace h := h z1 ez1
  intro z2 ez2
  replace h := h z2 ez2
  intro z3 ez3
  replace h := h z3 ez3
  obtain ⟨q4, eq4, h9⟩ := h
  replace h := h9
  clear h9
  refine ⟨q4, eq4, ?_⟩
  refine kmT_X7_newTry _ _ _ _ _ _ (fun S5 r5 hG h => ?_) h
  replace hF := KF_t hF hG (by decide) (by decide) (by decide) (by decide) (by decide) (by decide) (by decide) (by decide)
  refine ⟨fun c => ?_, fun c => ?_⟩
  · replace h := h.1 c
    intro z7 ez7
    replace h := h z7 ez7
    intro z8 ez8
    replace h := h z8 ez8
    intro S9 eS9
    replace h := h S9 eS9
    replace hF := KF_i hF eS9 (by decide)
    refine hr_X3_block _ _ _ _ _ (fun S10 hG h => ?_) h
    replace hF := KF_t hF hG (by decide) (by decide) (by decide) (by decide) (by decide) (by decide) (by decide) (by decide)
    refine kmT_X3_emit _ _ _ _ _ _ (fun S11 r11 hG h => ?_) h
    replace hF := KF_t hF hG (by decide) (by decide) (by decide) (by decide) (by decide) (by decide) (by decide) (by decide)
    refine kmT_X3_kind _ _ _ _ (fun S12 r12 hG h => ?_) h
    replace hF := KF_t hF hG (by decide) (by decide) (by decide) (by decide) (by decide) (by decide) (by decide) (by decide)
    refine ⟨fun c => ?_, fun c => ?_⟩
    · replace h := h.1 c
      exact kmT_X3_tried_76 hr_X3_block hk hF h
    · replace h := h.2 c
      refine kmT_X3_kind _ _ _ _ (fun S14 r14 hG h => ?_) h
      replace hF := KF_t hF hG (by decide) (by decide) (by decide) (by decide) (by decide) (by decide) (by decide) (by decide)
      refine ⟨fun c => ?_, fun c => ?_⟩
      · replace h := h.1 c
        exact kmT_X3_tried_76 hr_X3_block hk hF h
      · replace h := h.2 c
        refine kmT_X3_wrong _ _ _ _ _ (fun S16 hG h => ?_) h
        replace hF := KF_t hF hG (by decide) (by decide) (by decide) (by decide) (by decide) (by decide) (by decide) (by decide)
        exact kmT_X3_tried_76 hr_X3_block hk hF h
  · replace h := h.2 c
    refine kmT_X3_wrong _ _ _ _ _ (fun S17 hG h => ?_) h
    replace hF := KF_t hF hG (by decide) (by decide) (by decide) (by decide) (by decide) (by decide) (by decide) (by decide)
    exact hk _ hF h
theorem kmT_X3_repeated {r_X3_block : Nat → Int32 → kS → (kS → Prop) → Prop} (hr_X3_block : ∀ t0 : Nat, ∀ a0 : Int32, KmV [6, 7, 8, 9, 10, 11, 17, 24, 25] [] [17, 18, 19, 28, 29, 30, 35, 36, 37, 43, 44, 45, 46, 47, 48, 49, 50, 51, 52] [20, 39] [] (r_X3_block t0 a0)) (t0 : Nat) (a0 : Int32) (a1 : Int32) : KmV [6, 7, 8, 9, 10, 11, 17, 24, 25] [] [17, 18, 19, 28, 29, 30, 35, 36, 37, 43, 44, 45, 46, 47, 48, 49, 50, 51, 52] [20, 39] [] (wT_X3_repeated r_X3_block t0 a0 a1) := by
  intro S0 K K' hk h
  have hF : KF [6, 7, 8, 9, 10, 11, 17, 24, 25] [] [17, 18, 19, 28, 29, 30, 35, 36, 37, 43, 44, 45, 46, 47, 48, 49, 50, 51, 52] [20, 39] [] S0 S0 := KF_rf
  unfold wT_X3_repeated at h ⊢
  intro z1 ez1
  replace h := h z1 ez1
  intro z2 ez2
  replace h := h z2 ez2
  intro z3 ez3
  replace h := h z3 ez3
  obtain ⟨q4, eq4, h9⟩ := h
  replace h := h9
  clear h9
  refine ⟨q4, eq4, ?_⟩
  refine kmT_X7_newLoop _ _ _ _ _ _ (fun S5 r5 hG h => ?_) h
  replace hF := KF_t hF hG (by decide) (by decide) (by decide) (by decide) (by decide) (by decide) (by decide) (by decide)
  refine ⟨fun c => ?_, fun c => ?_⟩
  · replace h := h.1 c
    refine kqT_X3_expression _ _ _ _ _ (fun S7 hG h => ?_) h
    replace hF := KF_t hF hG (by decide) (by decide) (by decide) (by decide) (by decide) (by decide) (by decide) (by decide)
    refine kmT_X3_emit _ _ _ _ _ _ (fun S8 r8 hG h => ?_) h
    replace hF := KF_t hF hG (by decide) (by decide) (by decide) (by decide) (by decide) (by decide) (by decide) (by decide)
    intro S9 eS9
    replace h := h S9 eS9
    replace hF := KF_i hF eS9 (by decide)
    refine hr_X3_block _ _ _ _ _ (fun S10 hG h => ?_) h
    replace hF := KF_t hF hG (by decide) (by decide) (by decide) (by decide) (by decide) (by decide) (by decide) (by decide)
    intro S11 eS11
    replace h := h S11 eS11
    replace hF := KF_i hF eS11 (by decide)
    refine kmT_X3_emit _ _ _ _ _ _ (fun S12 r12 hG h => ?_) h
    replace hF := KF_t hF hG (by decide) (by decide) (by decide) (by decide) (by decide) (by decide) (by decide) (by decide)
    intro z13 ez13
    replace h := h z13 ez13
    obtain ⟨q14, eq14, h9⟩ := h
    replace h := h9
    clear h9
    refine ⟨q14, eq14, ?_⟩
    intro z15 ez15
    replace h := h z15 ez15
    have pz15 : ∃ o, S0.2.1 29 o = z15 := ⟨_, by rw [ez15, hF.2.1 29 (by decide)]⟩
    intro z16 ez16
    replace h := h z16 ez16
    obtain ⟨q17, eq17, h9⟩ := h
    replace h := h9
    clear h9
    refine ⟨q17, eq17, ?_⟩
    intro z18 ez18
    replace h := h z18 ez18
    intro q19 eq19
    replace h := h q19 eq19
    refine ⟨h.1, ?_⟩
    replace h := h.2
    intro S20 eS20
    replace h := h S20 eS20
    replace hF := KF_a (fid := 29) hF eS20 (by decide) (by rw [← eq19]; exact pz15)
    intro z21 ez21
    replace h := h z21 ez21
    obtain ⟨q22, eq22, h9⟩ := h
    replace h := h9
    clear h9
    refine ⟨q22, eq22, ?_⟩
    intro z23 ez23
    replace h := h z23 ez23
    have pz23 : ∃ o, S0.2.1 52 o = z23 := ⟨_, by rw [ez23, hF.2.1 52 (by decide)]⟩
    intro z24 ez24
    replace h := h z24 ez24
    obtain ⟨q25, eq25, h9⟩ := h
    replace h := h9
    clear h9
    refine ⟨q25, eq25, ?_⟩
    intro z26 ez26
    replace h := h z26 ez26
    intro q27 eq27
    replace h := h q27 eq27
    refine ⟨h.1, ?_⟩
    replace h := h.2
    intro S28 eS28
    replace h := h S28 eS28
    replace hF := KF_a (fid := 52) hF eS28 (by decide) (by rw [← eq27]; exact pz23)
    exact hk _ hF h
  · replace h := h.2 c
    refine kmT_X3_wrong _ _ _ _ _ (fun S29 hG h => ?_) h
    replace hF := KF_t hF hG (by decide) (by decide) (by decide) (by decide) (by decide) (by decide) (by decide) (by decide)
    exact hk _ hF h
theorem kmT_X3_choice {r_X3_block : Nat → Int32 → kS → (kS → Prop) → Prop} (hr_X3_block : ∀ t0 : Nat, ∀ a0 : Int32, KmV [6, 7, 8, 9, 10, 11, 17, 24, 25] [] [17, 18, 19, 28, 29, 30, 35, 36, 37, 43, 44, 45, 46, 47, 48, 49, 50, 51, 52] [20, 39] [] (r_X3_block t0 a0)) (t0 : Nat) (a0 : Int32) : KmV [6, 7, 8, 9, 10, 11, 17, 24, 25] [] [17, 18, 19, 28, 29, 30, 35, 36, 37, 43, 44, 45, 46, 47, 48, 49, 50, 51, 52] [20, 39] [] (wT_X3_choice r_X3_block t0 a0) := by
  intro S0 K K' hk h
  have hF : KF [6, 7, 8, 9, 10, 11, 17, 24, 25] [] [17, 18, 19, 28, 29, 30, 35, 36, 37, 43, 44, 45, 46, 47, 48, 49, 50, 51, 52] [20, 39] [] S0 S0 := KF_rf
  unfold wT_X3_choice at h ⊢
  refine kqT_X3_expression _ _ _ _ _ (fun S1 hG h => ?_) h
  replace hF := KF_t hF hG (by decide) (by decide) (by decide) (by decide) (by decide) (by decide) (by decide) (by decide)
  refine kmT_X3_emit _ _ _ _ _ _ (fun S2 r2 hG h => ?_) h
  replace hF := KF_t hF hG (by decide) (by decide) (by decide) (by decide) (by decide) (by decide) (by decide) (by decide)
  refine hr_X3_block _ _ _ _ _ (fun S3 hG h => ?_) h
  replace hF := KF_t hF hG (by decide) (by decide) (by decide) (by decide) (by decide) (by decide) (by decide) (by decide)
  refine kmT_X3_take _ _ _ _ _ (fun S4 r4 hG h => ?_) h
  replace hF := KF_t hF hG (by decide) (by decide) (by decide) (by decide) (by decide) (by decide) (by decide) (by decide)
  refine ⟨fun c => ?_, fun c => ?_⟩
  · replace h := h.1 c
    intro z6 ez6
    replace h := h z6 ez6
    obtain ⟨q7, eq7, h9⟩ := h
    replace h := h9
    clear h9
    refine ⟨q7, eq7, ?_⟩
    intro z8 ez8
    replace h := h z8 ez8
    have pz8 : ∃ o, S0.2.1 29 o = z8 := ⟨_, by rw [ez8, hF.2.1 29 (by decide)]⟩
    intro z9 ez9
    replace h := h z9 ez9
    obtain ⟨q10, eq10, h9⟩ := h
    replace h := h9
    clear h9
    refine ⟨q10, eq10, ?_⟩
    intro z11 ez11
    replace h := h z11 ez11
    intro q12 eq12
    replace h := h q12 eq12
    refine ⟨h.1, ?_⟩
    replace h := h.2
    intro S13 eS13
    replace h := h S13 eS13
    replace hF := KF_a (fid := 29) hF eS13 (by decide) (by rw [← eq12]; exact pz8)
    exact hk _ hF h
  · replace h := h.2 c
    refine kmT_X3_emit _ _ _ _ _ _ (fun S14 r14 hG h => ?_) h
    replace hF := KF_t hF hG (by decide) (by decide) (by decide) (by decide) (by decide) (by decide) (by decide) (by decide)
    intro z15 ez15
    replace h := h z15 ez15
    obtain ⟨q16, eq16, h9⟩ := h
    replace h := h9
    clear h9
    refine ⟨q16, eq16, ?_⟩
    intro z17 ez17
    replace h := h z17 ez17
    have pz17 : ∃ o, S0.2.1 29 o = z17 := ⟨_, by rw [ez17, hF.2.1 29 (by decide)]⟩
    intro z18 ez18
    replace h := h z18 ez18
    obtain ⟨q19, eq19, h9⟩ := h
    replace h := h9
    clear h9
    refine ⟨q19, eq19, ?_⟩
    intro z20 ez20
    replace h := h z20 ez20
    intro q21 eq21
    replace h := h q21 eq21
    refine ⟨h.1, ?_⟩
    replace h := h.2
    intro S22 eS22
    replace h := h S22 eS22
    replace hF := KF_a (fid := 29) hF eS22 (by decide) (by rw [← eq21]; exact pz17)
    refine hr_X3_block _ _ _ _ _ (fun S23 hG h => ?_) h
    replace hF := KF_t hF hG (by decide) (by decide) (by decide) (by decide) (by decide) (by decide) (by decide) (by decide)
    intro z24 ez24
    replace h := h z24 ez24
    obtain ⟨q25, eq25, h9⟩ := h
    replace h := h9
    clear h9
    refine ⟨q25, eq25, ?_⟩
    intro z26 ez26
    replace h := h z26 ez26
    have pz26 : ∃ o, S0.2.1 29 o = z26 := ⟨_, by rw [ez26, hF.2.1 29 (by decide)]⟩
    intro z27 ez27
    replace h := h z27 ez27
    obtain ⟨q28, eq28, h9⟩ := h
    replace h := h9
    clear h9
    refine ⟨q28, eq28, ?_⟩
    intro z29 ez29
    replace h := h z29 ez29
    intro q30 eq30
    replace h := h q30 eq30
    refine ⟨h.1, ?_⟩
    replace h := h.2
    intro S31 eS31
    replace h := h S31 eS31
    replace hF := KF_a (fid := 29) hF eS31 (by decide) (by rw [← eq30]; exact pz26)
    exact hk _ hF h
theorem kmT_X3_statement_174 {r_X3_block : Nat → Int32 → kS → (kS → Prop) → Prop} (hr_X3_block : ∀ t0 : Nat, ∀ a0 : Int32, KmV [6, 7, 8, 9, 10, 11, 17, 24, 25] [] [17, 18, 19, 28, 29, 30, 35, 36, 37, 43, 44, 45, 46, 47, 48, 49, 50, 51, 52] [20, 39] [] (r_X3_block t0 a0)) {K K' : kS → Prop} {S0 : kS} (hk : ∀ S1, KF [6, 7, 8, 9, 10, 11, 17, 24, 25] [] [17, 18, 19, 28, 29, 30, 35, 36, 37, 43, 44, 45, 46, 47, 48, 49, 50, 51, 52] [20, 39] [] S0 S1 → K S1 → K' S1) {x0 : Nat} {S : kS} (hF : KF [6, 7, 8, 9, 10, 11, 17, 24, 25] [] [17, 18, 19, 28, 29, 30, 35, 36, 37, 43, 44, 45, 46, 47, 48, 49, 50, 51, 52] [20, 39] [] S0 S) (h : wT_X3_statement_174 r_X3_block K x0 S) : wT_X3_statement_174 r_X3_block K' x0 S := by
  unfold wT_X3_statement_174 at h ⊢
  refine kmT_X3_need _ _ _ _ _ (fun S27 hG h => ?_) h
  replace hF := KF_t hF hG (by decide) (by decide) (by decide) (by decide) (by decide) (by decide) (by decide) (by decide)
  exact hk _ hF h
theorem kmT_X3_statement {r_X3_block : Nat → Int32 → kS → (kS → Prop) → Prop} (hr_X3_block : ∀ t0 : Nat, ∀ a0 : Int32, KmV [6, 7, 8, 9, 10, 11, 17, 24, 25] [] [17, 18, 19, 28, 29, 30, 35, 36, 37, 43, 44, 45, 46, 47, 48, 49, 50, 51, 52] [20, 39] [] (r_X3_block t0 a0)) (t0 : Nat) (a0 : Int32) : KmV [6, 7, 8, 9, 10, 11, 17, 24, 25] [] [17, 18, 19, 28, 29, 30, 35, 36, 37, 43, 44, 45, 46, 47, 48, 49, 50, 51, 52] [20, 39] [] (wT_X3_statement r_X3_block t0 a0) := by
  intro S0 K K' hk h
  have hF : KF [6, 7, 8, 9, 10, 11, 17, 24, 25] [] [17, 18, 19, 28, 29, 30, 35, 36, 37, 43, 44, 45, 46, 47, 48, 49, 50, 51, 52] [20, 39] [] S0 S0 := KF_rf
  unfold wT_X3_statement at h ⊢
  refine kmT_X3_emit _ _ _ _ _ _ (fun S1 r1 hG h => ?_) h
  replace hF := KF_t hF hG (by decide) (by decide) (by decide) (by decide) (by decide) (by decide) (by decide) (by decide)
  refine kmT_X3_kind _ _ _ _ (fun S2 r2 hG h => ?_) h
  replace hF := KF_t hF hG (by decide) (by decide) (by decide) (by decide) (by decide) (by decide) (by decide) (by decide)
  refine ⟨fun c => ?_, fun c => ?_⟩
  · replace h := h.1 c
    refine kmT_X3_assigned _ _ _ _ (fun S4 hG h => ?_) h
    replace hF := KF_t hF hG (by decide) (by decide) (by decide) (by decide) (by decide) (by decide) (by decide) (by decide)
    exact kmT_X3_statement_174 hr_X3_block hk hF h
  · replace h := h.2 c
    refine ⟨fun c => ?_, fun c => ?_⟩
    · replace h := h.1 c
      refine kmT_X3_assigned _ _ _ _ (fun S6 hG h => ?_) h
      replace hF := KF_t hF hG (by decide) (by decide) (by decide) (by decide) (by decide) (by decide) (by decide) (by decide)
      exact kmT_X3_statement_174 hr_X3_block hk hF h
    · replace h := h.2 c
      refine ⟨fun c => ?_, fun c => ?_⟩
      · replace h := h.1 c
        refine kmT_X3_step _ _ _ _ (fun S8 hG h => ?_) h
        replace hF := KF_t hF hG (by decide) (by decide) (by decide) (by decide) (by decide) (by decide) (by decide) (by decide)
        refine kqT_X3_expression _ _ _ _ _ (fun S9 hG h => ?_) h
        replace hF := KF_t hF hG (by decide) (by decide) (by decide) (by decide) (by decide) (by decide) (by decide) (by decide)
        refine kmT_X3_emit _ _ _ _ _ _ (fun S10 r10 hG h => ?_) h
        replace hF := KF_t hF hG (by decide) (by decide) (by decide) (by decide) (by decide) (by decide) (by decide) (by decide)
        exact kmT_X3_statement_174 hr_X3_block hk hF h
      · replace h := h.2 c
        refine ⟨fun c => ?_, fun c => ?_⟩
        · replace h := h.1 c
          refine kmT_X3_step _ _ _ _ (fun S12 hG h => ?_) h
          replace hF := KF_t hF hG (by decide) (by decide) (by decide) (by decide) (by decide) (by decide) (by decide) (by decide)
          refine kmT_X3_choice hr_X3_block _ _ _ _ _ (fun S13 hG h => ?_) h
          replace hF := KF_t hF hG (by decide) (by decide) (by decide) (by decide) (by decide) (by decide) (by decide) (by decide)
          exact hk _ hF h
        · replace h := h.2 c
          refine ⟨fun c => ?_, fun c => ?_⟩
          · replace h := h.1 c
            refine kmT_X3_step _ _ _ _ (fun S15 hG h => ?_) h
            replace hF := KF_t hF hG (by decide) (by decide) (by decide) (by decide) (by decide) (by decide) (by decide) (by decide)
            refine kmT_X3_repeated hr_X3_block _ _ _ _ _ _ (fun S16 hG h => ?_) h
            replace hF := KF_t hF hG (by decide) (by decide) (by decide) (by decide) (by decide) (by decide) (by decide) (by decide)
            exact hk _ hF h
          · replace h := h.2 c
            refine ⟨fun c => ?_, fun c => ?_⟩
            · replace h := h.1 c
              refine kmT_X3_returned _ _ _ _ (fun S18 hG h => ?_) h
              replace hF := KF_t hF hG (by decide) (by decide) (by decide) (by decide) (by decide) (by decide) (by decide) (by decide)
              exact kmT_X3_statement_174 hr_X3_block hk hF h
            · replace h := h.2 c
              refine ⟨fun c => ?_, fun c => ?_⟩
              · replace h := h.1 c
                refine kmT_X3_step _ _ _ _ (fun S20 hG h => ?_) h
                replace hF := KF_t hF hG (by decide) (by decide) (by decide) (by decide) (by decide) (by decide) (by decide) (by decide)
                refine kmT_X3_numberOf _ _ _ _ _ _ (fun S21 r21 hG h => ?_) h
                replace hF := KF_t hF hG (by decide) (by decide) (by decide) (by decide) (by decide) (by decide) (by decide) (by decide)
                refine kmT_X3_emit _ _ _ _ _ _ (fun S22 r22 hG h => ?_) h
                replace hF := KF_t hF hG (by decide) (by decide) (by decide) (by decide) (by decide) (by decide) (by decide) (by decide)
                exact kmT_X3_statement_174 hr_X3_block hk hF h
              · replace h := h.2 c
                refine ⟨fun c => ?_, fun c => ?_⟩
                · replace h := h.1 c
                  refine kmT_X3_step _ _ _ _ (fun S24 hG h => ?_) h
                  replace hF := KF_t hF hG (by decide) (by decide) (by decide) (by decide) (by decide) (by decide) (by decide) (by decide)
                  refine kmT_X3_tried hr_X3_block _ _ _ _ _ (fun S25 hG h => ?_) h
                  replace hF := KF_t hF hG (by decide) (by decide) (by decide) (by decide) (by decide) (by decide) (by decide) (by decide)
                  exact hk _ hF h
                · replace h := h.2 c
                  refine kmT_X3_leftLoop _ _ _ _ (fun S26 hG h => ?_) h
                  replace hF := KF_t hF hG (by decide) (by decide) (by decide) (by decide) (by decide) (by decide) (by decide) (by decide)
                  exact kmT_X3_statement_174 hr_X3_block hk hF h
theorem kmT_X3_block_67 {r_X3_block : Nat → Int32 → kS → (kS → Prop) → Prop} (hr_X3_block : ∀ t0 : Nat, ∀ a0 : Int32, KmV [6, 7, 8, 9, 10, 11, 17, 24, 25] [] [17, 18, 19, 28, 29, 30, 35, 36, 37, 43, 44, 45, 46, 47, 48, 49, 50, 51, 52] [20, 39] [] (r_X3_block t0 a0)) {K K' : kS → Prop} {S0 : kS} (hk : ∀ S1, KF [6, 7, 8, 9, 10, 11, 17, 24, 25] [] [17, 18, 19, 28, 29, 30, 35, 36, 37, 43, 44, 45, 46, 47, 48, 49, 50, 51, 52] [20, 39] [] S0 S1 → K S1 → K' S1) {x0 : Nat} {S : kS} (hF : KF [6, 7, 8, 9, 10, 11, 17, 24, 25] [] [17, 18, 19, 28, 29, 30, 35, 36, 37, 43, 44, 45, 46, 47, 48, 49, 50, 51, 52] [20, 39] [] S0 S) (h : wT_X3_block_67 r_X3_block K x0 S) : wT_X3_block_67 r_X3_block K' x0 S := by
  unfold wT_X3_block_67 at h ⊢
  refine kmT_X3_need _ _ _ _ _ (fun S14 hG h => ?_) h
  replace hF := KF_t hF hG (by decide) (by decide) (by decide) (by decide) (by decide) (by decide) (by decide) (by decide)
  exact hk _ hF h
theorem kmT_X3_block_37 {r_X3_block : Nat → Int32 → kS → (kS → Prop) → Prop} (hr_X3_block : ∀ t0 : Nat, ∀ a0 : Int32, KmV [6, 7, 8, 9, 10, 11, 17, 24, 25] [] [17, 18, 19, 28, 29, 30, 35, 36, 37, 43, 44, 45, 46, 47, 48, 49, 50, 51, 52] [20, 39] [] (r_X3_block t0 a0)) {K K' : kS → Prop} {k37 k37' : Nat × Int32 × Int32 × kS → Prop} {S0 : kS} (hk : ∀ S1, KF [6, 7, 8, 9, 10, 11, 17, 24, 25] [] [17, 18, 19, 28, 29, 30, 35, 36, 37, 43, 44, 45, 46, 47, 48, 49, 50, 51, 52] [20, 39] [] S0 S1 → K S1 → K' S1) (hk37 : ∀ u : Nat × Int32 × Int32 × kS, KF [6, 7, 8, 9, 10, 11, 17, 24, 25] [] [17, 18, 19, 28, 29, 30, 35, 36, 37, 43, 44, 45, 46, 47, 48, 49, 50, 51, 52] [20, 39] [] S0 u.2.2.2 → k37 u → k37' u) {x0 : Nat} {x1 : Int32} {x2 : Int32} {S : kS} (hF : KF [6, 7, 8, 9, 10, 11, 17, 24, 25] [] [17, 18, 19, 28, 29, 30, 35, 36, 37, 43, 44, 45, 46, 47, 48, 49, 50, 51, 52] [20, 39] [] S0 S) (h : wT_X3_block_37 r_X3_block K k37 x0 x1 x2 S) : wT_X3_block_37 r_X3_block K' k37' x0 x1 x2 S := by
  unfold wT_X3_block_37 at h ⊢
  refine ⟨fun c => ?_, fun c => ?_⟩
  · replace h := h.1 c
    exact kmT_X3_block_67 hr_X3_block hk hF h
  · replace h := h.2 c
    refine kmT_X3_kind _ _ _ _ (fun S8 r8 hG h => ?_) h
    replace hF := KF_t hF hG (by decide) (by decide) (by decide) (by decide) (by decide) (by decide) (by decide) (by decide)
    refine kmT_X3_startsStatement _ _ _ _ (fun S9 r9 hG h => ?_) h
    replace hF := KF_t hF hG (by decide) (by decide) (by decide) (by decide) (by decide) (by decide) (by decide) (by decide)
    refine ⟨fun c => ?_, fun c => ?_⟩
    · replace h := h.1 c
      exact kmT_X3_block_67 hr_X3_block hk hF h
    · replace h := h.2 c
      intro z11 ez11
      replace h := h z11 ez11
      refine kmT_X3_statement hr_X3_block _ _ _ _ _ (fun S12 hG h => ?_) h
      replace hF := KF_t hF hG (by decide) (by decide) (by decide) (by decide) (by decide) (by decide) (by decide) (by decide)
      intro z13 ez13
      replace h := h z13 ez13
      exact hk37 _ hF h
theorem kmlT_X3_block_37 {r_X3_block : Nat → Int32 → kS → (kS → Prop) → Prop} (hr_X3_block : ∀ t0 : Nat, ∀ a0 : Int32, KmV [6, 7, 8, 9, 10, 11, 17, 24, 25] [] [17, 18, 19, 28, 29, 30, 35, 36, 37, 43, 44, 45, 46, 47, 48, 49, 50, 51, 52] [20, 39] [] (r_X3_block t0 a0)) {K K' : kS → Prop} {S0 : kS} (hk : ∀ S1, KF [6, 7, 8, 9, 10, 11, 17, 24, 25] [] [17, 18, 19, 28, 29, 30, 35, 36, 37, 43, 44, 45, 46, 47, 48, 49, 50, 51, 52] [20, 39] [] S0 S1 → K S1 → K' S1) : ∀ (n : Nat) (u : Nat × Int32 × Int32 × kS), KF [6, 7, 8, 9, 10, 11, 17, 24, 25] [] [17, 18, 19, 28, 29, 30, 35, 36, 37, 43, 44, 45, 46, 47, 48, 49, 50, 51, 52] [20, 39] [] S0 u.2.2.2 → it (lT_X3_block_37 r_X3_block K) n u → it (lT_X3_block_37 r_X3_block K') n u := by
  intro n
  induction n with
  | zero => exact fun _ _ h => h
  | succ n ih => exact fun u hF h => kmT_X3_block_37 hr_X3_block hk ih hF h
theorem kmT_X3_block {r_X3_block : Nat → Int32 → kS → (kS → Prop) → Prop} (hr_X3_block : ∀ t0 : Nat, ∀ a0 : Int32, KmV [6, 7, 8, 9, 10, 11, 17, 24, 25] [] [17, 18, 19, 28, 29, 30, 35, 36, 37, 43, 44, 45, 46, 47, 48, 49, 50, 51, 52] [20, 39] [] (r_X3_block t0 a0)) (t0 : Nat) (a0 : Int32) : KmV [6, 7, 8, 9, 10, 11, 17, 24, 25] [] [17, 18, 19, 28, 29, 30, 35, 36, 37, 43, 44, 45, 46, 47, 48, 49, 50, 51, 52] [20, 39] [] (wT_X3_block r_X3_block t0 a0) := by
  intro S0 K K' hk h
  have hF : KF [6, 7, 8, 9, 10, 11, 17, 24, 25] [] [17, 18, 19, 28, 29, 30, 35, 36, 37, 43, 44, 45, 46, 47, 48, 49, 50, 51, 52] [20, 39] [] S0 S0 := KF_rf
  unfold wT_X3_block at h ⊢
  refine kmT_X3_kind _ _ _ _ (fun S1 r1 hG h => ?_) h
  replace hF := KF_t hF hG (by decide) (by decide) (by decide) (by decide) (by decide) (by decide) (by decide) (by decide)
  refine ⟨fun c => ?_, fun c => ?_⟩
  · replace h := h.1 c
    refine ⟨fun c => ?_, fun c => ?_⟩
    · replace h := h.1 c
      refine kmT_X3_step _ _ _ _ (fun S4 hG h => ?_) h
      replace hF := KF_t hF hG (by decide) (by decide) (by decide) (by decide) (by decide) (by decide) (by decide) (by decide)
      obtain ⟨n9, h⟩ := h
      exact ⟨n9, kmlT_X3_block_37 hr_X3_block hk n9 _ hF h⟩
    · replace h := h.2 c
      refine kmT_X3_wrong _ _ _ _ _ (fun S5 hG h => ?_) h
      replace hF := KF_t hF hG (by decide) (by decide) (by decide) (by decide) (by decide) (by decide) (by decide) (by decide)
      exact hk _ hF h
  · replace h := h.2 c
    refine kmT_X3_wrong _ _ _ _ _ (fun S6 hG h => ?_) h
    replace hF := KF_t hF hG (by decide) (by decide) (by decide) (by decide) (by decide) (by decide) (by decide) (by decide)
    exact hk _ hF h
