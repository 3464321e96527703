
theorem km_X3_statement_174 {r_X3_block : Nat → Int32 → kS → (kS → Prop) → Prop} (hr_X3_block : ∀ t0 : Nat, ∀ a0 : Int32, KmV [6, 7, 8, 9, 10, 11, 17, 24, 25] [] [17, 18, 19, 28, 29, 30, 35, 36, 37, 43, 44, 45, 46, 47, 48, 49, 50, 51, 52] [20, 39] [] (r_X3_block t0 a0)) {K K' : kS → Prop} {S0 : kS} (hk : ∀ S1, KF [6, 7, 8, 9, 10, 11, 17, 24, 25] [] [17, 18, 19, 28, 29, 30, 35, 36, 37, 43, 44, 45, 46, 47, 48, 49, 50, 51, 52] [20, 39] [] S0 S1 → K S1 → K' S1) {x0 : Nat} {S : kS} (hF : KF [6, 7, 8, 9, 10, 11, 17, 24, 25] [] [17, 18, 19, 28, 29, 30, 35, 36, 37, 43, 44, 45, 46, 47, 48, 49, 50, 51, 52] [20, 39] [] S0 S) (h : wp_X3_statement_174 r_X3_block K x0 S) : wp_X3_statement_174 r_X3_block K' x0 S := by
  unfold wp_X3_statement_174 at h ⊢
  refine ⟨h.1, ?_⟩
  replace h := h.2
  refine km_X3_need _ _ _ _ _ (fun S27 hG h => ?_) h
  replace hF := KF_t hF hG (by decide) (by decide) (by decide) (by decide) (by decide) (by decide) (by decide) (by decide)
  exact hk _ hF h
theorem km_X3_statement {r_X3_block : Nat → Int32 → kS → (kS → Prop) → Prop} (hr_X3_block : ∀ t0 : Nat, ∀ a0 : Int32, KmV [6, 7, 8, 9, 10, 11, 17, 24, 25] [] [17, 18, 19, 28, 29, 30, 35, 36, 37, 43, 44, 45, 46, 47, 48, 49, 50, 51, 52] [20, 39] [] (r_X3_block t0 a0)) (t0 : Nat) (a0 : Int32) : KmV [6, 7, 8, 9, 10, 11, 17, 24, 25] [] [17, 18, 19, 28, 29, 30, 35, 36, 37, 43, 44, 45, 46, 47, 48, 49, 50, 51, 52] [20, 39] [] (wp_X3_statement r_X3_block t0 a0) := by
  intro S0 K K' hk h
  have hF : KF [6, 7, 8, 9, 10, 11, 17, 24, 25] [] [17, 18, 19, 28, 29, 30, 35, 36, 37, 43, 44, 45, 46, 47, 48, 49, 50, 51, 52] [20, 39] [] S0 S0 := KF_rf
  unfold wp_X3_statement at h ⊢
  refine ⟨h.1, ?_⟩
  replace h := h.2
  refine km_X3_emit _ _ _ _ _ _ (fun S1 r1 hG h => ?_) h
  replace hF := KF_t hF hG (by decide) (by decide) (by decide) (by decide) (by decide) (by decide) (by decide) (by decide)
  refine ⟨h.1, ?_⟩
  replace h := h.2
  refine km_X3_kind _ _ _ _ (fun S2 r2 hG h => ?_) h
  replace hF := KF_t hF hG (by decide) (by decide) (by decide) (by decide) (by decide) (by decide) (by decide) (by decide)
  refine ⟨fun c => ?_, fun c => ?_⟩
  · replace h := h.1 c
    refine ⟨h.1, ?_⟩
    replace h := h.2
    refine km_X3_assigned _ _ _ _ (fun S4 hG h => ?_) h
    replace hF := KF_t hF hG (by decide) (by decide) (by decide) (by decide) (by decide) (by decide) (by decide) (by decide)
    exact km_X3_statement_174 hr_X3_block hk hF h
  · replace h := h.2 c
    refine ⟨fun c => ?_, fun c => ?_⟩
    · replace h := h.1 c
      refine ⟨h.1, ?_⟩
      replace h := h.2
      refine km_X3_assigned _ _ _ _ (fun S6 hG h => ?_) h
      replace hF := KF_t hF hG (by decide) (by decide) (by decide) (by decide) (by decide) (by decide) (by decide) (by decide)
      exact km_X3_statement_174 hr_X3_block hk hF h
    · replace h := h.2 c
      refine ⟨fun c => ?_, fun c => ?_⟩
      · replace h := h.1 c
        refine ⟨h.1, ?_⟩
        replace h := h.2
        refine km_X3_step _ _ _ _ (fun S8 hG h => ?_) h
        replace hF := KF_t hF hG (by decide) (by decide) (by decide) (by decide) (by decide) (by decide) (by decide) (by decide)
        refine ⟨h.1, ?_⟩
        replace h := h.2
        refine kq_X3_expression _ _ _ _ _ (fun S9 hG h => ?_) h
        replace hF := KF_t hF hG (by decide) (by decide) (by decide) (by decide) (by decide) (by decide) (by decide) (by decide)
        refine ⟨h.1, ?_⟩
        replace h := h.2
        refine km_X3_emit _ _ _ _ _ _ (fun S10 r10 hG h => ?_) h
        replace hF := KF_t hF hG (by decide) (by decide) (by decide) (by decide) (by decide) (by decide) (by decide) (by decide)
        exact km_X3_statement_174 hr_X3_block hk hF h
      · replace h := h.2 c
        refine ⟨fun c => ?_, fun c => ?_⟩
        · replace h := h.1 c
          refine ⟨h.1, ?_⟩
          replace h := h.2
          refine km_X3_step _ _ _ _ (fun S12 hG h => ?_) h
          replace hF := KF_t hF hG (by decide) (by decide) (by decide) (by decide) (by decide) (by decide) (by decide) (by decide)
          refine ⟨h.1, ?_⟩
          replace h := h.2
          refine km_X3_choice hr_X3_block _ _ _ _ _ (fun S13 hG h => ?_) h
          replace hF := KF_t hF hG (by decide) (by decide) (by decide) (by decide) (by decide) (by decide) (by decide) (by decide)
          exact hk _ hF h
        · replace h := h.2 c
          refine ⟨fun c => ?_, fun c => ?_⟩
          · replace h := h.1 c
            refine ⟨h.1, ?_⟩
            replace h := h.2
            refine km_X3_step _ _ _ _ (fun S15 hG h => ?_) h
            replace hF := KF_t hF hG (by decide) (by decide) (by decide) (by decide) (by decide) (by decide) (by decide) (by decide)
            refine ⟨h.1, ?_⟩
            replace h := h.2
            refine km_X3_repeated hr_X3_block _ _ _ _ _ _ (fun S16 hG h => ?_) h
            replace hF := KF_t hF hG (by decide) (by decide) (by decide) (by decide) (by decide) (by decide) (by decide) (by decide)
            exact hk _ hF h
          · replace h := h.2 c
            refine ⟨fun c => ?_, fun c => ?_⟩
            · replace h := h.1 c
              refine ⟨h.1, ?_⟩
              replace h := h.2
              refine km_X3_returned _ _ _ _ (fun S18 hG h => ?_) h
              replace hF := KF_t hF hG (by decide) (by decide) (by decide) (by decide) (by decide) (by decide) (by decide) (by decide)
              exact km_X3_statement_174 hr_X3_block hk hF h
            · replace h := h.2 c
              refine ⟨fun c => ?_, fun c => ?_⟩
              · replace h := h.1 c
                refine ⟨h.1, ?_⟩
                replace h := h.2
                refine km_X3_step _ _ _ _ (fun S20 hG h => ?_) h
                replace hF := KF_t hF hG (by decide) (by decide) (by decide) (by decide) (by decide) (by decide) (by decide) (by decide)
                refine ⟨h.1, ?_⟩
                replace h := h.2
                refine km_X3_numberOf _ _ _ _ _ _ (fun S21 r21 hG h => ?_) h
                replace hF := KF_t hF hG (by decide) (by decide) (by decide) (by decide) (by decide) (by decide) (by decide) (by decide)
                refine ⟨h.1, ?_⟩
                replace h := h.2
                refine km_X3_emit _ _ _ _ _ _ (fun S22 r22 hG h => ?_) h
                replace hF := KF_t hF hG (by decide) (by decide) (by decide) (by decide) (by decide) (by decide) (by decide) (by decide)
                exact km_X3_statement_174 hr_X3_block hk hF h
              · replace h := h.2 c
                refine ⟨fun c => ?_, fun c => ?_⟩
                · replace h := h.1 c
                  refine ⟨h.1, ?_⟩
                  replace h := h.2
                  refine km_X3_step _ _ _ _ (fun S24 hG h => ?_) h
                  replace hF := KF_t hF hG (by decide) (by decide) (by decide) (by decide) (by decide) (by decide) (by decide) (by decide)
                  refine ⟨h.1, ?_⟩
                  replace h := h.2
                  refine km_X3_tried hr_X3_block _ _ _ _ _ (fun S25 hG h => ?_) h
                  replace hF := KF_t hF hG (by decide) (by decide) (by decide) (by decide) (by decide) (by decide) (by decide) (by decide)
                  exact hk _ hF h
                · replace h := h.2 c
                  refine ⟨h.1, ?_⟩
                  replace h := h.2
                  refine km_X3_leftLoop _ _ _ _ (fun S26 hG h => ?_) h
                  replace hF := KF_t hF hG (by decide) (by decide) (by decide) (by decide) (by decide) (by decide) (by decide) (by decide)
                  exact km_X3_statement_174 hr_X3_block hk hF h
theorem km_X3_block_67 {r_X3_block : Nat → Int32 → kS → (kS → Prop) → Prop} (hr_X3_block : ∀ t0 : Nat, ∀ a0 : Int32, KmV [6, 7, 8, 9, 10, 11, 17, 24, 25] [] [17, 18, 19, 28, 29, 30, 35, 36, 37, 43, 44, 45, 46, 47, 48, 49, 50, 51, 52] [20, 39] [] (r_X3_block t0 a0)) {K K' : kS → Prop} {S0 : kS} (hk : ∀ S1, KF [6, 7, 8, 9, 10, 11, 17, 24, 25] [] [17, 18, 19, 28, 29, 30, 35, 36, 37, 43, 44, 45, 46, 47, 48, 49, 50, 51, 52] [20, 39] [] S0 S1 → K S1 → K' S1) {x0 : Nat} {S : kS} (hF : KF [6, 7, 8, 9, 10, 11, 17, 24, 25] [] [17, 18, 19, 28, 29, 30, 35, 36, 37, 43, 44, 45, 46, 47, 48, 49, 50, 51, 52] [20, 39] [] S0 S) (h : wp_X3_block_67 r_X3_block K x0 S) : wp_X3_block_67 r_X3_block K' x0 S := by
  unfold wp_X3_block_67 at h ⊢
  refine ⟨h.1, ?_⟩
  replace h := h.2
  refine km_X3_need _ _ _ _ _ (fun S14 hG h => ?_) h
  replace hF := KF_t hF hG (by decide) (by decide) (by decide) (by decide) (by decide) (by decide) (by decide) (by decide)
  exact hk _ hF h
theorem km_X3_block_37 {r_X3_block : Nat → Int32 → kS → (kS → Prop) → Prop} (hr_X3_block : ∀ t0 : Nat, ∀ a0 : Int32, KmV [6, 7, 8, 9, 10, 11, 17, 24, 25] [] [17, 18, 19, 28, 29, 30, 35, 36, 37, 43, 44, 45, 46, 47, 48, 49, 50, 51, 52] [20, 39] [] (r_X3_block t0 a0)) {K K' : kS → Prop} {k37 k37' : Nat × Int32 × Int32 × kS → Prop} {S0 : kS} (hk : ∀ S1, KF [6, 7, 8, 9, 10, 11, 17, 24, 25] [] [17, 18, 19, 28, 29, 30, 35, 36, 37, 43, 44, 45, 46, 47, 48, 49, 50, 51, 52] [20, 39] [] S0 S1 → K S1 → K' S1) (hk37 : ∀ u : Nat × Int32 × Int32 × kS, KF [6, 7, 8, 9, 10, 11, 17, 24, 25] [] [17, 18, 19, 28, 29, 30, 35, 36, 37, 43, 44, 45, 46, 47, 48, 49, 50, 51, 52] [20, 39] [] S0 u.2.2.2 → k37 u → k37' u) {x0 : Nat} {x1 : Int32} {x2 : Int32} {S : kS} (hF : KF [6, 7, 8, 9, 10, 11, 17, 24, 25] [] [17, 18, 19, 28, 29, 30, 35, 36, 37, 43, 44, 45, 46, 47, 48, 49, 50, 51, 52] [20, 39] [] S0 S) (h : wp_X3_block_37 r_X3_block K k37 x0 x1 x2 S) : wp_X3_block_37 r_X3_block K' k37' x0 x1 x2 S := by
  unfold wp_X3_block_37 at h ⊢
  refine ⟨fun c => ?_, fun c => ?_⟩
  · replace h := h.1 c
    exact km_X3_block_67 hr_X3_block hk hF h
  · replace h := h.2 c
    refine ⟨h.1, ?_⟩
    replace h := h.2
    refine km_X3_kind _ _ _ _ (fun S8 r8 hG h => ?_) h
    replace hF := KF_t hF hG (by decide) (by decide) (by decide) (by decide) (by decide) (by decide) (by decide) (by decide)
    refine km_X3_startsStatement _ _ _ _ (fun S9 r9 hG h => ?_) h
    replace hF := KF_t hF hG (by decide) (by decide) (by decide) (by decide) (by decide) (by decide) (by decide) (by decide)
    refine ⟨fun c => ?_, fun c => ?_⟩
    · replace h := h.1 c
      exact km_X3_block_67 hr_X3_block hk hF h
    · replace h := h.2 c
      intro z11 ez11
      replace h := h z11 ez11
      refine ⟨h.1, ?_⟩
      replace h := h.2
      refine km_X3_statement hr_X3_block _ _ _ _ _ (fun S12 hG h => ?_) h
      replace hF := KF_t hF hG (by decide) (by decide) (by decide) (by decide) (by decide) (by decide) (by decide) (by decide)
      intro z13 ez13
      replace h := h z13 ez13
      exact hk37 _ hF h
theorem kml_X3_block_37 {r_X3_block : Nat → Int32 → kS → (kS → Prop) → Prop} (hr_X3_block : ∀ t0 : Nat, ∀ a0 : Int32, KmV [6, 7, 8, 9, 10, 11, 17, 24, 25] [] [17, 18, 19, 28, 29, 30, 35, 36, 37, 43, 44, 45, 46, 47, 48, 49, 50, 51, 52] [20, 39] [] (r_X3_block t0 a0)) {K K' : kS → Prop} {S0 : kS} (hk : ∀ S1, KF [6, 7, 8, 9, 10, 11, 17, 24, 25] [] [17, 18, 19, 28, 29, 30, 35, 36, 37, 43, 44, 45, 46, 47, 48, 49, 50, 51, 52] [20, 39] [] S0 S1 → K S1 → K' S1) : ∀ (n : Nat) (u : Nat × Int32 × Int32 × kS), KF [6, 7, 8, 9, 10, 11, 17, 24, 25] [] [17, 18, 19, 28, 29, 30, 35, 36, 37, 43, 44, 45, 46, 47, 48, 49, 50, 51, 52] [20, 39] [] S0 u.2.2.2 → it (ls_X3_block_37 r_X3_block K) n u → it (ls_X3_block_37 r_X3_block K') n u := by
  intro n
  induction n with
  | zero => exact fun _ _ h => h
  | succ n ih => exact fun u hF h => km_X3_block_37 hr_X3_block hk ih hF h
theorem km_X3_block {r_X3_block : Nat → Int32 → kS → (kS → Prop) → Prop} (hr_X3_block : ∀ t0 : Nat, ∀ a0 : Int32, KmV [6, 7, 8, 9, 10, 11, 17, 24, 25] [] [17, 18, 19, 28, 29, 30, 35, 36, 37, 43, 44, 45, 46, 47, 48, 49, 50, 51, 52] [20, 39] [] (r_X3_block t0 a0)) (t0 : Nat) (a0 : Int32) : KmV [6, 7, 8, 9, 10, 11, 17, 24, 25] [] [17, 18, 19, 28, 29, 30, 35, 36, 37, 43, 44, 45, 46, 47, 48, 49, 50, 51, 52] [20, 39] [] (wp_X3_block r_X3_block t0 a0) := by
  intro S0 K K' hk h
  have hF : KF [6, 7, 8, 9, 10, 11, 17, 24, 25] [] [17, 18, 19, 28, 29, 30, 35, 36, 37, 43, 44, 45, 46, 47, 48, 49, 50, 51, 52] [20, 39] [] S0 S0 := KF_rf
  unfold wp_X3_block at h ⊢
  refine ⟨h.1, ?_⟩
  replace h := h.2
  refine km_X3_kind _ _ _ _ (fun S1 r1 hG h => ?_) h
  replace hF := KF_t hF hG (by decide) (by decide) (by decide) (by decide) (by decide) (by decide) (by decide) (by decide)
  refine ⟨fun c => ?_, fun c => ?_⟩
  · replace h := h.1 c
    refine ⟨fun c => ?_, fun c => ?_⟩
    · replace h := h.1 c
      refine ⟨h.1, ?_⟩
      replace h := h.2
      refine km_X3_step _ _ _ _ (fun S4 hG h => ?_) h
      replace hF := KF_t hF hG (by decide) (by decide) (by decide) (by decide) (by decide) (by decide) (by decide) (by decide)
      obtain ⟨n9, h⟩ := h
      exact ⟨n9, kml_X3_block_37 hr_X3_block hk n9 _ hF h⟩
    · replace h := h.2 c
      refine ⟨h.1, ?_⟩
      replace h := h.2
      refine km_X3_wrong _ _ _ _ _ (fun S5 hG h => ?_) h
      replace hF := KF_t hF hG (by decide) (by decide) (by decide) (by decide) (by decide) (by decide) (by decide) (by decide)
      exact hk _ hF h
  · replace h := h.2 c
    refine ⟨h.1, ?_⟩
    replace h := h.2
    refine km_X3_wrong _ _ _ _ _ (fun S6 hG h => ?_) h
    replace hF := KF_t hF hG (by decide) (by decide) (by decide) (by decide) (by decide) (by decide) (by decide) (by decide)
    exact hk _ hF h
theorem kr_X3_block : ∀ n : Nat, ∀ t0 : Nat, ∀ a0 : Int32, KmV [6, 7, 8, 9, 10, 11, 17, 24, 25] [] [17, 18, 19, 28, 29, 30, 35, 36, 37, 43, 44, 45, 46, 47, 48, 49, 50, 51, 52] [20, 39] [] (wr_X3_block n t0 a0) := by
  intro n
  induction n with
  | zero => exact fun _ _ _ _ _ _ h => h
  | succ n ih => exact km_X3_block ih
theorem kq_X3_finished (t0 : Nat) (a0 : Int32) (a1 : Int32) : KmV [6, 7, 8, 9, 10, 11, 17, 24, 25] [] [17, 18, 19, 28, 29, 30, 35, 36, 37, 43, 44, 45, 46, 47, 48, 49, 50, 51, 52] [20, 39] [] (wq_X3_finished t0 a0 a1) := km_X3_finished (kr_X3_block 12) t0 a0 a1
theorem kq_X3_tried (t0 : Nat) (a0 : Int32) : KmV [6, 7, 8, 9, 10, 11, 17, 24, 25] [] [17, 18, 19, 28, 29, 30, 35, 36, 37, 43, 44, 45, 46, 47, 48, 49, 50, 51, 52] [20, 39] [] (wq_X3_tried t0 a0) := km_X3_tried (kr_X3_block 12) t0 a0
theorem kq_X3_repeated (t0 : Nat) (a0 : Int32) (a1 : Int32) : KmV [6, 7, 8, 9, 10, 11, 17, 24, 25] [] [17, 18, 19, 28, 29, 30, 35, 36, 37, 43, 44, 45, 46, 47, 48, 49, 50, 51, 52] [20, 39] [] (wq_X3_repeated t0 a0 a1) := km_X3_repeated (kr_X3_block 12) t0 a0 a1
theorem kq_X3_choice (t0 : Nat) (a0 : Int32) : KmV [6, 7, 8, 9, 10, 11, 17, 24, 25] [] [17, 18, 19, 28, 29, 30, 35, 36, 37, 43, 44, 45, 46, 47, 48, 49, 50, 51, 52] [20, 39] [] (wq_X3_choice t0 a0) := km_X3_choice (kr_X3_block 12) t0 a0
theorem kq_X3_statement (t0 : Nat) (a0 : Int32) : KmV [6, 7, 8, 9, 10, 11, 17, 24, 25] [] [17, 18, 19, 28, 29, 30, 35, 36, 37, 43, 44, 45, 46, 47, 48, 49, 50, 51, 52] [20, 39] [] (wq_X3_statement t0 a0) := km_X3_statement (kr_X3_block 12) t0 a0
theorem kq_X3_block (t0 : Nat) (a0 : Int32) : KmV [6, 7, 8, 9, 10, 11, 17, 24, 25] [] [17, 18, 19, 28, 29, 30, 35, 36, 37, 43, 44, 45, 46, 47, 48, 49, 50, 51, 52] [20, 39] [] (wq_X3_block t0 a0) := kr_X3_block 12 t0 a0
theorem km_X5_routineNamed_2 {K K' : kS → Int32 → Prop} {k2 k2' : Nat × Int64 × Int32 × kS → Prop} {S0 : kS} (hk : ∀ S1 r1, KF [] [] [] [] [] S0 S1 → K S1 r1 → K' S1 r1) (hk2 : ∀ u : Nat × Int64 × Int32 × kS, KF [] [] [] [] [] S0 u.2.2.2 → k2 u → k2' u) {x0 : Nat} {x1 : Int64} {x3 : Int32} {S : kS} (hF : KF [] [] [] [] [] S0 S) (h : wp_X5_routineNamed_2 K k2 x0 x1 x3 S) : wp_X5_routineNamed_2 K' k2' x0 x1 x3 S := by
  unfold wp_X5_routineNamed_2 at h ⊢
  refine ⟨h.1, ?_⟩
  replace h := h.2
  intro z1 ez1
  replace h := h z1 ez1
  refine ⟨fun c => ?_, fun c => ?_⟩
  · replace h := h.1 c
    exact hk _ _ hF h
  · replace h := h.2 c
    refine ⟨h.1, ?_⟩
    replace h := h.2
    intro z3 ez3
    replace h := h z3 ez3
    obtain ⟨q4, eq4, h9⟩ := h
    replace h := h9
    clear h9
    refine ⟨q4, eq4, ?_⟩
    refine ⟨h.1, ?_⟩
    replace h := h.2
    refine ⟨h.1, ?_⟩
    replace h := h.2
    intro z5 ez5
    replace h := h z5 ez5
    intro z6 ez6
    replace h := h z6 ez6
    refine ⟨fun c => ?_, fun c => ?_⟩
    · replace h := h.1 c
      intro z8 ez8
      replace h := h z8 ez8
      exact hk2 _ hF h
    · replace h := h.2 c
      exact hk _ _ hF h
theorem kml_X5_routineNamed_2 {K K' : kS → Int32 → Prop} {S0 : kS} (hk : ∀ S1 r1, KF [] [] [] [] [] S0 S1 → K S1 r1 → K' S1 r1) : ∀ (n : Nat) (u : Nat × Int64 × Int32 × kS), KF [] [] [] [] [] S0 u.2.2.2 → it (ls_X5_routineNamed_2 K) n u → it (ls_X5_routineNamed_2 K') n u := by
  intro n
  induction n with
  | zero => exact fun _ _ h => h
  | succ n ih => exact fun u hF h => km_X5_routineNamed_2 hk ih hF h
theorem km_X5_routineNamed (t0 : Nat) (a0 : Int64) : KmI [] [] [] [] [] (wp_X5_routineNamed t0 a0) := by
  intro S0 K K' hk h
  have hF : KF [] [] [] [] [] S0 S0 := KF_rf
  unfold wp_X5_routineNamed at h ⊢
  obtain ⟨n9, h⟩ := h
  exact ⟨n9, kml_X5_routineNamed_2 hk n9 _ hF h⟩
theorem km_X3_findChildren_106 {K K' : kS → Prop} {k2 k2' : Nat × Int32 × kS → Prop} {S0 : kS} (hk : ∀ S1, KF [7] [] [29] [] [] S0 S1 → K S1 → K' S1) (hk2 : ∀ u : Nat × Int32 × kS, KF [7] [] [29] [] [] S0 u.2.2 → k2 u → k2' u) {x0 : Nat} {x1 : Int32} {S : kS} (hF : KF [7] [] [29] [] [] S0 S) (h : wp_X3_findChildren_106 K k2 x0 x1 S) : wp_X3_findChildren_106 K' k2' x0 x1 S := by
  unfold wp_X3_findChildren_106 at h ⊢
  intro z41 ez41
  replace h := h z41 ez41
  exact hk2 _ hF h
theorem km_X3_findChildren_2 {K K' : kS → Prop} {k2 k2' : Nat × Int32 × kS → Prop} {S0 : kS} (hk : ∀ S1, KF [7] [] [29] [] [] S0 S1 → K S1 → K' S1) (hk2 : ∀ u : Nat × Int32 × kS, KF [7] [] [29] [] [] S0 u.2.2 → k2 u → k2' u) {x0 : Nat} {x1 : Int32} {S : kS} (hF : KF [7] [] [29] [] [] S0 S) (h : wp_X3_findChildren_2 K k2 x0 x1 S) : wp_X3_findChildren_2 K' k2' x0 x1 S := by
  unfold wp_X3_findChildren_2 at h ⊢
  refine ⟨h.1, ?_⟩
  replace h := h.2
  intro z1 ez1
  replace h := h z1 ez1
  refine ⟨fun c => ?_, fun c => ?_⟩
  · replace h := h.1 c
    exact hk _ hF h
  · replace h := h.2 c
    refine ⟨h.1, ?_⟩
    replace h := h.2
    intro z3 ez3
    replace h := h z3 ez3
    refine ⟨fun c => ?_, fun c => ?_⟩
    · replace h := h.1 c
      exact hk _ hF h
    · replace h := h.2 c
      refine ⟨h.1, ?_⟩
      replace h := h.2
      intro z5 ez5
      replace h := h z5 ez5
      refine ⟨h.1, ?_⟩
      replace h := h.2
      intro z6 ez6
      replace h := h z6 ez6
      obtain ⟨q7, eq7, h9⟩ := h
      replace h := h9
      clear h9
      refine ⟨q7, eq7, ?_⟩
      refine ⟨h.1, ?_⟩
      replace h := h.2
      refine ⟨h.1, ?_⟩
      replace h := h.2
      intro z8 ez8
      replace h := h z8 ez8
      obtain ⟨q9, eq9, h9⟩ := h
      replace h := h9
      clear h9
      refine ⟨q9, eq9, ?_⟩
      refine ⟨h.1, ?_⟩
      replace h := h.2
      refine km_X5_routineNamed _ _ _ _ _ (fun S10 r10 hG h => ?_) h
      replace hF := KF_t hF hG (by decide) (by decide) (by decide) (by decide) (by decide) (by decide) (by decide) (by decide)
      refine ⟨fun c => ?_, fun c => ?_⟩
      · replace h := h.1 c
        refine ⟨h.1, ?_⟩
        replace h := h.2
        intro z12 ez12
        replace h := h z12 ez12
        obtain ⟨q13, eq13, h9⟩ := h
        replace h := h9
        clear h9
        refine ⟨q13, eq13, ?_⟩
        refine ⟨h.1, ?_⟩
        replace h := h.2
        intro z14 ez14
        replace h := h z14 ez14
        obtain ⟨q15, eq15, h9⟩ := h
        replace h := h9
        clear h9
        refine ⟨q15, eq15, ?_⟩
        refine ⟨h.1, ?_⟩
        replace h := h.2
        refine ⟨h.1, ?_⟩
        replace h := h.2
        intro z16 ez16
        replace h := h z16 ez16
        refine ⟨h.1, ?_⟩
        replace h := h.2
        intro z17 ez17
        replace h := h z17 ez17
        obtain ⟨q18, eq18, h9⟩ := h
        replace h := h9
        clear h9
        refine ⟨q18, eq18, ?_⟩
        refine ⟨h.1, ?_⟩
        replace h := h.2
        refine ⟨h.1, ?_⟩
        replace h := h.2
        intro z19 ez19
        replace h := h z19 ez19
        refine ⟨fun c => ?_, fun c => ?_⟩
        · replace h := h.1 c
          refine ⟨h.1, ?_⟩
          replace h := h.2
          intro z21 ez21
          replace h := h z21 ez21
          obtain ⟨q22, eq22, h9⟩ := h
          replace h := h9
          clear h9
          refine ⟨q22, eq22, ?_⟩
          refine ⟨h.1, ?_⟩
          replace h := h.2
          intro z23 ez23
          replace h := h z23 ez23
          have pz23 : ∃ o, S0.2.1 29 o = z23 := ⟨_, by rw [ez23, hF.2.1 29 (by decide)]⟩
          refine ⟨h.1, ?_⟩
          replace h := h.2
          intro z24 ez24
          replace h := h z24 ez24
          obtain ⟨q25, eq25, h9⟩ := h
          replace h := h9
          clear h9
          refine ⟨q25, eq25, ?_⟩
          refine ⟨h.1, ?_⟩
          replace h := h.2
          refine ⟨h.1, ?_⟩
          replace h := h.2
          intro z26 ez26
          replace h := h z26 ez26
          obtain ⟨q27, eq27, h9⟩ := h
          replace h := h9
          clear h9
          refine ⟨q27, eq27, ?_⟩
          refine ⟨h.1, ?_⟩
          replace h := h.2
          refine ⟨h.1, ?_⟩
          replace h := h.2
          intro S28 eS28
          replace h := h S28 eS28
          replace hF := KF_a (fid := 29) hF eS28 (by decide) (by rw [← eq27]; exact pz23)
          exact km_X3_findChildren_106 hk hk2 hF h
        · replace h := h.2 c
          refine ⟨h.1, ?_⟩
          replace h := h.2
          intro z29 ez29
          replace h := h z29 ez29
          obtain ⟨q30, eq30, h9⟩ := h
          replace h := h9
          clear h9
          refine ⟨q30, eq30, ?_⟩
          refine ⟨h.1, ?_⟩
          replace h := h.2
          refine ⟨h.1, ?_⟩
          replace h := h.2
          intro z31 ez31
          replace h := h z31 ez31
          intro z32 ez32
          replace h := h z32 ez32
          intro z33 ez33
          replace h := h z33 ez33
          refine ⟨h.1, ?_⟩
          replace h := h.2
          intro S34 eS34
          replace h := h S34 eS34
          replace hF := KF_i hF eS34 (by decide)
          exact km_X3_findChildren_106 hk hk2 hF h
      · replace h := h.2 c
        refine ⟨h.1, ?_⟩
        replace h := h.2
        intro z35 ez35
        replace h := h z35 ez35
        obtain ⟨q36, eq36, h9⟩ := h
        replace h := h9
        clear h9
        refine ⟨q36, eq36, ?_⟩
        refine ⟨h.1, ?_⟩
        replace h := h.2
        refine ⟨h.1, ?_⟩
        replace h := h.2
        intro z37 ez37
        replace h := h z37 ez37
        intro z38 ez38
        replace h := h z38 ez38
        intro z39 ez39
        replace h := h z39 ez39
        refine ⟨h.1, ?_⟩
        replace h := h.2
        intro S40 eS40
        replace h := h S40 eS40
        replace hF := KF_i hF eS40 (by decide)
        exact km_X3_findChildren_106 hk hk2 hF h
theorem kml_X3_findChildren_2 {K K' : kS → Prop} {S0 : kS} (hk : ∀ S1, KF [7] [] [29] [] [] S0 S1 → K S1 → K' S1) : ∀ (n : Nat) (u : Nat × Int32 × kS), KF [7] [] [29] [] [] S0 u.2.2 → it (ls_X3_findChildren_2 K) n u → it (ls_X3_findChildren_2 K') n u := by
  intro n
  induction n with
  | zero => exact fun _ _ h => h
  | succ n ih => exact fun u hF h => km_X3_findChildren_2 hk ih hF h
theorem km_X3_findChildren (t0 : Nat) : KmV [7] [] [29] [] [] (wp_X3_findChildren t0) := by
  intro S0 K K' hk h
  have hF : KF [7] [] [29] [] [] S0 S0 := KF_rf
  unfold wp_X3_findChildren at h ⊢
  obtain ⟨n9, h⟩ := h
  exact ⟨n9, kml_X3_findChildren_2 hk n9 _ hF h⟩
theorem km_X5_cellNamed_23 {K K' : kS → Int32 → Prop} {k23 k23' : Nat × Int32 × Int64 × Int32 × Int32 × kS → Prop} {S0 : kS} (hk : ∀ S1 r1, KF [] [] [] [] [] S0 S1 → K S1 r1 → K' S1 r1) (hk23 : ∀ u : Nat × Int32 × Int64 × Int32 × Int32 × kS, KF [] [] [] [] [] S0 u.2.2.2.2.2 → k23 u → k23' u) {x0 : Nat} {x1 : Int32} {x2 : Int64} {x4 : Int32} {x5 : Int32} {S : kS} (hF : KF [] [] [] [] [] S0 S) (h : wp_X5_cellNamed_23 K k23 x0 x1 x2 x4 x5 S) : wp_X5_cellNamed_23 K' k23' x0 x1 x2 x4 x5 S := by
  unfold wp_X5_cellNamed_23 at h ⊢
  refine ⟨fun c => ?_, fun c => ?_⟩
  · replace h := h.1 c
    exact hk _ _ hF h
  · replace h := h.2 c
    refine ⟨h.1, ?_⟩
    replace h := h.2
    intro z7 ez7
    replace h := h z7 ez7
    intro z8 ez8
    replace h := h z8 ez8
    intro z9 ez9
    replace h := h z9 ez9
    obtain ⟨q10, eq10, h9⟩ := h
    replace h := h9
    clear h9
    refine ⟨q10, eq10, ?_⟩
    refine ⟨h.1, ?_⟩
    replace h := h.2
    refine ⟨h.1, ?_⟩
    replace h := h.2
    intro z11 ez11
    replace h := h z11 ez11
    intro z12 ez12
    replace h := h z12 ez12
    refine ⟨fun c => ?_, fun c => ?_⟩
    · replace h := h.1 c
      intro z14 ez14
      replace h := h z14 ez14
      exact hk23 _ hF h
    · replace h := h.2 c
      exact hk _ _ hF h
theorem kml_X5_cellNamed_23 {K K' : kS → Int32 → Prop} {S0 : kS} (hk : ∀ S1 r1, KF [] [] [] [] [] S0 S1 → K S1 r1 → K' S1 r1) : ∀ (n : Nat) (u : Nat × Int32 × Int64 × Int32 × Int32 × kS), KF [] [] [] [] [] S0 u.2.2.2.2.2 → it (ls_X5_cellNamed_23 K) n u → it (ls_X5_cellNamed_23 K') n u := by
  intro n
  induction n with
  | zero => exact fun _ _ h => h
  | succ n ih => exact fun u hF h => km_X5_cellNamed_23 hk ih hF h
theorem km_X5_cellNamed_18 {K K' : kS → Int32 → Prop} {S0 : kS} (hk : ∀ S1 r1, KF [] [] [] [] [] S0 S1 → K S1 r1 → K' S1 r1) {x0 : Nat} {x1 : Int32} {x2 : Int64} {y0 : Int32} {S : kS} (hF : KF [] [] [] [] [] S0 S) (h : wp_X5_cellNamed_18 K x0 x1 x2 y0 S) : wp_X5_cellNamed_18 K' x0 x1 x2 y0 S := by
  unfold wp_X5_cellNamed_18 at h ⊢
  obtain ⟨n9, h⟩ := h
  exact ⟨n9, kml_X5_cellNamed_23 hk n9 _ hF h⟩
theorem km_X5_cellNamed (t0 : Nat) (a0 : Int32) (a1 : Int64) : KmI [] [] [] [] [] (wp_X5_cellNamed t0 a0 a1) := by
  intro S0 K K' hk h
  have hF : KF [] [] [] [] [] S0 S0 := KF_rf
  unfold wp_X5_cellNamed at h ⊢
  refine ⟨h.1, ?_⟩
  replace h := h.2
  refine km_X5_has _ _ _ _ _ (fun S1 r1 hG h => ?_) h
  replace hF := KF_t hF hG (by decide) (by decide) (by decide) (by decide) (by decide) (by decide) (by decide) (by decide)
  refine ⟨fun c => ?_, fun c => ?_⟩
  · replace h := h.1 c
    exact km_X5_cellNamed_18 hk hF h
  · replace h := h.2 c
    refine ⟨h.1, ?_⟩
    replace h := h.2
    intro z3 ez3
    replace h := h z3 ez3
    obtain ⟨q4, eq4, h9⟩ := h
    replace h := h9
    clear h9
    refine ⟨q4, eq4, ?_⟩
    refine ⟨h.1, ?_⟩
    replace h := h.2
    refine ⟨h.1, ?_⟩
    replace h := h.2
    intro z5 ez5
    replace h := h z5 ez5
    exact km_X5_cellNamed_18 hk hF h
theorem km_X3_givenCell (t0 : Nat) : KmV [6, 7] [] [34, 35] [39] [] (wp_X3_givenCell t0) := by
  intro S0 K K' hk h
  have hF : KF [6, 7] [] [34, 35] [39] [] S0 S0 := KF_rf
  unfold wp_X3_givenCell at h ⊢
  refine ⟨h.1, ?_⟩
  replace h := h.2
  intro z1 ez1
  replace h := h z1 ez1
  obtain ⟨q2, eq2, h9⟩ := h
  replace h := h9
  clear h9
  refine ⟨q2, eq2, ?_⟩
  refine ⟨h.1, ?_⟩
  replace h := h.2
  intro z3 ez3
  replace h := h z3 ez3
  intro z4 ez4
  replace h := h z4 ez4
  refine ⟨h.1, ?_⟩
  replace h := h.2
  refine km_X3_kind _ _ _ _ (fun S5 r5 hG h => ?_) h
  replace hF := KF_t hF hG (by decide) (by decide) (by decide) (by decide) (by decide) (by decide) (by decide) (by decide)
  refine ⟨fun c => ?_, fun c => ?_⟩
  · replace h := h.1 c
    refine ⟨h.1, ?_⟩
    replace h := h.2
    intro z7 ez7
    replace h := h z7 ez7
    refine ⟨h.1, ?_⟩
    replace h := h.2
    intro z8 ez8
    replace h := h z8 ez8
    obtain ⟨q9, eq9, h9⟩ := h
    replace h := h9
    clear h9
    refine ⟨q9, eq9, ?_⟩
    refine ⟨h.1, ?_⟩
    replace h := h.2
    intro z10 ez10
    replace h := h z10 ez10
    refine ⟨h.1, ?_⟩
    replace h := h.2
    intro z11 ez11
    replace h := h z11 ez11
    obtain ⟨q12, eq12, h9⟩ := h
    replace h := h9
    clear h9
    refine ⟨q12, eq12, ?_⟩
    refine ⟨h.1, ?_⟩
    replace h := h.2
    refine ⟨h.1, ?_⟩
    replace h := h.2
    intro z13 ez13
    replace h := h z13 ez13
    obtain ⟨q14, eq14, h9⟩ := h
    replace h := h9
    clear h9
    refine ⟨q14, eq14, ?_⟩
    refine ⟨h.1, ?_⟩
    replace h := h.2
    refine km_X5_cellNamed _ _ _ _ _ _ (fun S15 r15 hG h => ?_) h
    replace hF := KF_t hF hG (by decide) (by decide) (by decide) (by decide) (by decide) (by decide) (by decide) (by decide)
    refine ⟨fun c => ?_, fun c => ?_⟩
    · replace h := h.1 c
      refine ⟨h.1, ?_⟩
      replace h := h.2
      intro z17 ez17
      replace h := h z17 ez17
      refine ⟨h.1, ?_⟩
      replace h := h.2
      intro z18 ez18
      replace h := h z18 ez18
      obtain ⟨q19, eq19, h9⟩ := h
      replace h := h9
      clear h9
      refine ⟨q19, eq19, ?_⟩
      refine ⟨h.1, ?_⟩
      replace h := h.2
      intro z20 ez20
      replace h := h z20 ez20
      refine ⟨h.1, ?_⟩
      replace h := h.2
      intro z21 ez21
      replace h := h z21 ez21
      obtain ⟨q22, eq22, h9⟩ := h
      replace h := h9
      clear h9
      refine ⟨q22, eq22, ?_⟩
      refine ⟨h.1, ?_⟩
      replace h := h.2
      refine ⟨h.1, ?_⟩
      replace h := h.2
      intro z23 ez23
      replace h := h z23 ez23
      obtain ⟨q24, eq24, h9⟩ := h
      replace h := h9
      clear h9
      refine ⟨q24, eq24, ?_⟩
      refine ⟨h.1, ?_⟩
      replace h := h.2
      refine km_X5_cellOf _ _ _ _ _ (fun S25 r25 hG h => ?_) h
      replace hF := KF_t hF hG (by decide) (by decide) (by decide) (by decide) (by decide) (by decide) (by decide) (by decide)
      refine ⟨fun c => ?_, fun c => ?_⟩
      · replace h := h.1 c
        refine ⟨h.1, ?_⟩
        replace h := h.2
        intro z27 ez27
        replace h := h z27 ez27
        obtain ⟨q28, eq28, h9⟩ := h
        replace h := h9
        clear h9
        refine ⟨q28, eq28, ?_⟩
        refine ⟨h.1, ?_⟩
        replace h := h.2
        intro z29 ez29
        replace h := h z29 ez29
        have pz29 : ∃ o, S0.2.1 34 o = z29 := ⟨_, by rw [ez29, hF.2.1 34 (by decide)]⟩
        obtain ⟨q30, eq30, h9⟩ := h
        replace h := h9
        clear h9
        refine ⟨q30, eq30, ?_⟩
        refine ⟨h.1, ?_⟩
        replace h := h.2
        refine ⟨h.1, ?_⟩
        replace h := h.2
        intro z31 ez31
        replace h := h z31 ez31
        intro z32 ez32
        replace h := h z32 ez32
        refine ⟨h.1, ?_⟩
        replace h := h.2
        refine ⟨h.1, ?_⟩
        replace h := h.2
        intro S33 eS33
        replace h := h S33 eS33
        replace hF := KF_a (fid := 34) hF eS33 (by decide) (by rw [← eq30]; exact pz29)
        refine ⟨h.1, ?_⟩
        replace h := h.2
        refine km_X3_step _ _ _ _ (fun S34 hG h => ?_) h
        replace hF := KF_t hF hG (by decide) (by decide) (by decide) (by decide) (by decide) (by decide) (by decide) (by decide)
        exact hk _ hF h
      · replace h := h.2 c
        refine ⟨h.1, ?_⟩
        replace h := h.2
        refine km_X3_wrong _ _ _ _ _ (fun S35 hG h => ?_) h
        replace hF := KF_t hF hG (by decide) (by decide) (by decide) (by decide) (by decide) (by decide) (by decide) (by decide)
        exact hk _ hF h
    · replace h := h.2 c
      refine ⟨h.1, ?_⟩
      replace h := h.2
      refine km_X3_wrong _ _ _ _ _ (fun S36 hG h => ?_) h
      replace hF := KF_t hF hG (by decide) (by decide) (by decide) (by decide) (by decide) (by decide) (by decide) (by decide)
      exact hk _ hF h
  · replace h := h.2 c
    refine ⟨h.1, ?_⟩
    replace h := h.2
    refine km_X3_wrong _ _ _ _ _ (fun S37 hG h => ?_) h
    replace hF := KF_t hF hG (by decide) (by decide) (by decide) (by decide) (by decide) (by decide) (by decide) (by decide)
    exact hk _ hF h
theorem km_X5_openRoutine (t0 : Nat) (a0 : Int64) : KmV [18] [] [32, 34, 35, 36] [38] [] (wp_X5_openRoutine t0 a0) := by
  intro S0 K K' hk h
  have hF : KF [18] [] [32, 34, 35, 36] [38] [] S0 S0 := KF_rf
  unfold wp_X5_openRoutine at h ⊢
  refine ⟨h.1, ?_⟩
  replace h := h.2
  intro z1 ez1
  replace h := h z1 ez1
  refine ⟨fun c => ?_, fun c => ?_⟩
  · replace h := h.1 c
    exact hk _ hF h
  · replace h := h.2 c
    refine ⟨h.1, ?_⟩
    replace h := h.2
    intro z3 ez3
    replace h := h z3 ez3
    have pz3 : ∃ o, S0.2.1 38 o = z3 := ⟨_, by rw [ez3, hF.2.1 38 (by decide)]⟩
    refine ⟨h.1, ?_⟩
    replace h := h.2
    intro z4 ez4
    replace h := h z4 ez4
    obtain ⟨q5, eq5, h9⟩ := h
    replace h := h9
    clear h9
    refine ⟨q5, eq5, ?_⟩
    refine ⟨h.1, ?_⟩
    replace h := h.2
    refine ⟨h.1, ?_⟩
    replace h := h.2
    intro S6 eS6
    replace h := h S6 eS6
    replace hF := KF_l (fid := 38) hF eS6 (by decide) (by rw [← eq5]; exact pz3)
    refine ⟨h.1, ?_⟩
    replace h := h.2
    intro z7 ez7
    replace h := h z7 ez7
    have pz7 : ∃ o, S0.2.1 32 o = z7 := ⟨_, by rw [ez7, hF.2.1 32 (by decide)]⟩
    refine ⟨h.1, ?_⟩
    replace h := h.2
    intro z8 ez8
    replace h := h z8 ez8
    refine ⟨h.1, ?_⟩
    replace h := h.2
    intro z9 ez9
    replace h := h z9 ez9
    obtain ⟨q10, eq10, h9⟩ := h
    replace h := h9
    clear h9
    refine ⟨q10, eq10, ?_⟩
    refine ⟨h.1, ?_⟩
    replace h := h.2
    refine ⟨h.1, ?_⟩
    replace h := h.2
    intro S11 eS11
    replace h := h S11 eS11
    replace hF := KF_a (fid := 32) hF eS11 (by decide) (by rw [← eq10]; exact pz7)
    refine ⟨h.1, ?_⟩
    replace h := h.2
    intro z12 ez12
    replace h := h z12 ez12
    have pz12 : ∃ o, S0.2.1 34 o = z12 := ⟨_, by rw [ez12, hF.2.1 34 (by decide)]⟩
    refine ⟨h.1, ?_⟩
    replace h := h.2
    intro z13 ez13
    replace h := h z13 ez13
    obtain ⟨q14, eq14, h9⟩ := h
    replace h := h9
    clear h9
    refine ⟨q14, eq14, ?_⟩
    refine ⟨h.1, ?_⟩
    replace h := h.2
    refine ⟨h.1, ?_⟩
    replace h := h.2
    intro S15 eS15
    replace h := h S15 eS15
    replace hF := KF_a (fid := 34) hF eS15 (by decide) (by rw [← eq14]; exact pz12)
    refine ⟨h.1, ?_⟩
    replace h := h.2
    intro z16 ez16
    replace h := h z16 ez16
    have pz16 : ∃ o, S0.2.1 35 o = z16 := ⟨_, by rw [ez16, hF.2.1 35 (by decide)]⟩
    refine ⟨h.1, ?_⟩
    replace h := h.2
    intro z17 ez17
    replace h := h z17 ez17
    obtain ⟨q18, eq18, h9⟩ := h
    replace h := h9
    clear h9
    refine ⟨q18, eq18, ?_⟩
    refine ⟨h.1, ?_⟩
    replace h := h.2
    refine ⟨h.1, ?_⟩
    replace h := h.2
    intro S19 eS19
    replace h := h S19 eS19
    replace hF := KF_a (fid := 35) hF eS19 (by decide) (by rw [← eq18]; exact pz16)
    refine ⟨h.1, ?_⟩
    replace h := h.2
    intro z20 ez20
    replace h := h z20 ez20
    have pz20 : ∃ o, S0.2.1 36 o = z20 := ⟨_, by rw [ez20, hF.2.1 36 (by decide)]⟩
    refine ⟨h.1, ?_⟩
    replace h := h.2
    intro z21 ez21
    replace h := h z21 ez21
    obtain ⟨q22, eq22, h9⟩ := h
    replace h := h9
    clear h9
    refine ⟨q22, eq22, ?_⟩
    refine ⟨h.1, ?_⟩
    replace h := h.2
    refine ⟨h.1, ?_⟩
    replace h := h.2
    intro S23 eS23
    replace h := h S23 eS23
    replace hF := KF_a (fid := 36) hF eS23 (by decide) (by rw [← eq22]; exact pz20)
    refine ⟨h.1, ?_⟩
    replace h := h.2
    intro z24 ez24
    replace h := h z24 ez24
    intro z25 ez25
    replace h := h z25 ez25
    refine ⟨h.1, ?_⟩
    replace h := h.2
    intro S26 eS26
    replace h := h S26 eS26
    replace hF := KF_i hF eS26 (by decide)
    exact hk _ hF h
theorem km_X3_header_137 {K K' : kS → Prop} {S0 : kS} (hk : ∀ S1, KF [6, 7, 18] [] [32, 34, 35, 36] [38, 39] [] S0 S1 → K S1 → K' S1) {x0 : Nat} {S : kS} (hF : KF [6, 7, 18] [] [32, 34, 35, 36] [38, 39] [] S0 S) (h : wp_X3_header_137 K x0 S) : wp_X3_header_137 K' x0 S := by
  unfold wp_X3_header_137 at h ⊢
  refine ⟨h.1, ?_⟩
  replace h := h.2
  refine km_X3_need _ _ _ _ _ (fun S40 hG h => ?_) h
  replace hF := KF_t hF hG (by decide) (by decide) (by decide) (by decide) (by decide) (by decide) (by decide) (by decide)
  exact hk _ hF h
theorem km_X3_header_111 {K K' : kS → Prop} {k111 k111' : Nat × Int32 × kS → Prop} {S0 : kS} (hk : ∀ S1, KF [6, 7, 18] [] [32, 34, 35, 36] [38, 39] [] S0 S1 → K S1 → K' S1) (hk111 : ∀ u : Nat × Int32 × kS, KF [6, 7, 18] [] [32, 34, 35, 36] [38, 39] [] S0 u.2.2 → k111 u → k111' u) {x0 : Nat} {x1 : Int32} {S : kS} (hF : KF [6, 7, 18] [] [32, 34, 35, 36] [38, 39] [] S0 S) (h : wp_X3_header_111 K k111 x0 x1 S) : wp_X3_header_111 K' k111' x0 x1 S := by
  unfold wp_X3_header_111 at h ⊢
  refine ⟨fun c => ?_, fun c => ?_⟩
  · replace h := h.1 c
    exact km_X3_header_137 hk hF h
  · replace h := h.2 c
    refine ⟨h.1, ?_⟩
    replace h := h.2
    refine km_X3_take _ _ _ _ _ (fun S36 r36 hG h => ?_) h
    replace hF := KF_t hF hG (by decide) (by decide) (by decide) (by decide) (by decide) (by decide) (by decide) (by decide)
    refine ⟨fun c => ?_, fun c => ?_⟩
    · replace h := h.1 c
      exact km_X3_header_137 hk hF h
    · replace h := h.2 c
      refine ⟨h.1, ?_⟩
      replace h := h.2
      refine km_X3_givenCell _ _ _ _ (fun S38 hG h => ?_) h
      replace hF := KF_t hF hG (by decide) (by decide) (by decide) (by decide) (by decide) (by decide) (by decide) (by decide)
      intro z39 ez39
      replace h := h z39 ez39
      exact hk111 _ hF h
theorem kml_X3_header_111 {K K' : kS → Prop} {S0 : kS} (hk : ∀ S1, KF [6, 7, 18] [] [32, 34, 35, 36] [38, 39] [] S0 S1 → K S1 → K' S1) : ∀ (n : Nat) (u : Nat × Int32 × kS), KF [6, 7, 18] [] [32, 34, 35, 36] [38, 39] [] S0 u.2.2 → it (ls_X3_header_111 K) n u → it (ls_X3_header_111 K') n u := by
  intro n
  induction n with
  | zero => exact fun _ _ h => h
  | succ n ih => exact fun u hF h => km_X3_header_111 hk ih hF h
theorem km_X3_header_91 {K K' : kS → Prop} {S0 : kS} (hk : ∀ S1, KF [6, 7, 18] [] [32, 34, 35, 36] [38, 39] [] S0 S1 → K S1 → K' S1) {x0 : Nat} {S : kS} (hF : KF [6, 7, 18] [] [32, 34, 35, 36] [38, 39] [] S0 S) (h : wp_X3_header_91 K x0 S) : wp_X3_header_91 K' x0 S := by
  unfold wp_X3_header_91 at h ⊢
  refine ⟨h.1, ?_⟩
  replace h := h.2
  refine km_X3_need _ _ _ _ _ (fun S31 hG h => ?_) h
  replace hF := KF_t hF hG (by decide) (by decide) (by decide) (by decide) (by decide) (by decide) (by decide) (by decide)
  refine ⟨h.1, ?_⟩
  replace h := h.2
  refine km_X3_kind _ _ _ _ (fun S32 r32 hG h => ?_) h
  replace hF := KF_t hF hG (by decide) (by decide) (by decide) (by decide) (by decide) (by decide) (by decide) (by decide)
  refine ⟨fun c => ?_, fun c => ?_⟩
  · replace h := h.1 c
    exact km_X3_header_137 hk hF h
  · replace h := h.2 c
    refine ⟨h.1, ?_⟩
    replace h := h.2
    refine km_X3_givenCell _ _ _ _ (fun S34 hG h => ?_) h
    replace hF := KF_t hF hG (by decide) (by decide) (by decide) (by decide) (by decide) (by decide) (by decide) (by decide)
    obtain ⟨n9, h⟩ := h
    exact ⟨n9, kml_X3_header_111 hk n9 _ hF h⟩
theorem km_X3_header_17 {K K' : kS → Prop} {S0 : kS} (hk : ∀ S1, KF [6, 7, 18] [] [32, 34, 35, 36] [38, 39] [] S0 S1 → K S1 → K' S1) {x0 : Nat} {S : kS} (hF : KF [6, 7, 18] [] [32, 34, 35, 36] [38, 39] [] S0 S) (h : wp_X3_header_17 K x0 S) : wp_X3_header_17 K' x0 S := by
  unfold wp_X3_header_17 at h ⊢
  refine ⟨h.1, ?_⟩
  replace h := h.2
  refine km_X3_step _ _ _ _ (fun S6 hG h => ?_) h
  replace hF := KF_t hF hG (by decide) (by decide) (by decide) (by decide) (by decide) (by decide) (by decide) (by decide)
  refine ⟨h.1, ?_⟩
  replace h := h.2
  refine km_X3_kind _ _ _ _ (fun S7 r7 hG h => ?_) h
  replace hF := KF_t hF hG (by decide) (by decide) (by decide) (by decide) (by decide) (by decide) (by decide) (by decide)
  refine ⟨fun c => ?_, fun c => ?_⟩
  · replace h := h.1 c
    refine ⟨h.1, ?_⟩
    replace h := h.2
    intro z9 ez9
    replace h := h z9 ez9
    refine ⟨h.1, ?_⟩
    replace h := h.2
    intro z10 ez10
    replace h := h z10 ez10
    obtain ⟨q11, eq11, h9⟩ := h
    replace h := h9
    clear h9
    refine ⟨q11, eq11, ?_⟩
    refine ⟨h.1, ?_⟩
    replace h := h.2
    intro z12 ez12
    replace h := h z12 ez12
    refine ⟨h.1, ?_⟩
    replace h := h.2
    intro z13 ez13
    replace h := h z13 ez13
    obtain ⟨q14, eq14, h9⟩ := h
    replace h := h9
    clear h9
    refine ⟨q14, eq14, ?_⟩
    refine ⟨h.1, ?_⟩
    replace h := h.2
    refine ⟨h.1, ?_⟩
    replace h := h.2
    intro z15 ez15
    replace h := h z15 ez15
    obtain ⟨q16, eq16, h9⟩ := h
    replace h := h9
    clear h9
    refine ⟨q16, eq16, ?_⟩
    refine ⟨h.1, ?_⟩
    replace h := h.2
    refine km_X5_routineNamed _ _ _ _ _ (fun S17 r17 hG h => ?_) h
    replace hF := KF_t hF hG (by decide) (by decide) (by decide) (by decide) (by decide) (by decide) (by decide) (by decide)
    refine ⟨fun c => ?_, fun c => ?_⟩
    · replace h := h.1 c
      refine ⟨h.1, ?_⟩
      replace h := h.2
      intro z19 ez19
      replace h := h z19 ez19
      refine ⟨h.1, ?_⟩
      replace h := h.2
      intro z20 ez20
      replace h := h z20 ez20
      obtain ⟨q21, eq21, h9⟩ := h
      replace h := h9
      clear h9
      refine ⟨q21, eq21, ?_⟩
      refine ⟨h.1, ?_⟩
      replace h := h.2
      intro z22 ez22
      replace h := h z22 ez22
      refine ⟨h.1, ?_⟩
      replace h := h.2
      intro z23 ez23
      replace h := h z23 ez23
      obtain ⟨q24, eq24, h9⟩ := h
      replace h := h9
      clear h9
      refine ⟨q24, eq24, ?_⟩
      refine ⟨h.1, ?_⟩
      replace h := h.2
      refine ⟨h.1, ?_⟩
      replace h := h.2
      intro z25 ez25
      replace h := h z25 ez25
      obtain ⟨q26, eq26, h9⟩ := h
      replace h := h9
      clear h9
      refine ⟨q26, eq26, ?_⟩
      refine ⟨h.1, ?_⟩
      replace h := h.2
      refine km_X5_openRoutine _ _ _ _ _ (fun S27 hG h => ?_) h
      replace hF := KF_t hF hG (by decide) (by decide) (by decide) (by decide) (by decide) (by decide) (by decide) (by decide)
      refine ⟨h.1, ?_⟩
      replace h := h.2
      refine km_X3_step _ _ _ _ (fun S28 hG h => ?_) h
      replace hF := KF_t hF hG (by decide) (by decide) (by decide) (by decide) (by decide) (by decide) (by decide) (by decide)
      exact km_X3_header_91 hk hF h
    · replace h := h.2 c
      refine ⟨h.1, ?_⟩
      replace h := h.2
      refine km_X3_wrong _ _ _ _ _ (fun S29 hG h => ?_) h
      replace hF := KF_t hF hG (by decide) (by decide) (by decide) (by decide) (by decide) (by decide) (by decide) (by decide)
      exact km_X3_header_91 hk hF h
  · replace h := h.2 c
    refine ⟨h.1, ?_⟩
    replace h := h.2
    refine km_X3_wrong _ _ _ _ _ (fun S30 hG h => ?_) h
    replace hF := KF_t hF hG (by decide) (by decide) (by decide) (by decide) (by decide) (by decide) (by decide) (by decide)
    exact km_X3_header_91 hk hF h
theorem km_X3_header (t0 : Nat) : KmV [6, 7, 18] [] [32, 34, 35, 36] [38, 39] [] (wp_X3_header t0) := by
  intro S0 K K' hk h
  have hF : KF [6, 7, 18] [] [32, 34, 35, 36] [38, 39] [] S0 S0 := KF_rf
  unfold wp_X3_header at h ⊢
  refine ⟨h.1, ?_⟩
  replace h := h.2
  intro z1 ez1
  replace h := h z1 ez1
  obtain ⟨q2, eq2, h9⟩ := h
  replace h := h9
  clear h9
  refine ⟨q2, eq2, ?_⟩
  refine ⟨h.1, ?_⟩
  replace h := h.2
  intro z3 ez3
  replace h := h z3 ez3
  refine ⟨fun c => ?_, fun c => ?_⟩
  · replace h := h.1 c
    exact km_X3_header_17 hk hF h
  · replace h := h.2 c
    refine ⟨h.1, ?_⟩
    replace h := h.2
    refine km_X3_wrong _ _ _ _ _ (fun S5 hG h => ?_) h
    replace hF := KF_t hF hG (by decide) (by decide) (by decide) (by decide) (by decide) (by decide) (by decide) (by decide)
    exact km_X3_header_17 hk hF h
theorem km_X7_clear (t0 : Nat) : KmV [24, 25] [] [] [] [] (wp_X7_clear t0) := by
  intro S0 K K' hk h
  have hF : KF [24, 25] [] [] [] [] S0 S0 := KF_rf
  unfold wp_X7_clear at h ⊢
  refine ⟨h.1, ?_⟩
  replace h := h.2
  intro S1 eS1
  replace h := h S1 eS1
  replace hF := KF_i hF eS1 (by decide)
  refine ⟨h.1, ?_⟩
  replace h := h.2
  intro S2 eS2
  replace h := h S2 eS2
  replace hF := KF_i hF eS2 (by decide)
  exact hk _ hF h
theorem km_X5_clear (t0 : Nat) : KmV [17, 18, 24, 25] [] [] [] [] (wp_X5_clear t0) := by
  intro S0 K K' hk h
  have hF : KF [17, 18, 24, 25] [] [] [] [] S0 S0 := KF_rf
  unfold wp_X5_clear at h ⊢
  refine ⟨h.1, ?_⟩
  replace h := h.2
  intro S1 eS1
  replace h := h S1 eS1
  replace hF := KF_i hF eS1 (by decide)
  refine ⟨h.1, ?_⟩
  replace h := h.2
  intro S2 eS2
  replace h := h S2 eS2
  replace hF := KF_i hF eS2 (by decide)
  refine ⟨h.1, ?_⟩
  replace h := h.2
  intro z3 ez3
  replace h := h z3 ez3
  obtain ⟨q4, eq4, h9⟩ := h
  replace h := h9
  clear h9
  refine ⟨q4, eq4, ?_⟩
  refine ⟨h.1, ?_⟩
  replace h := h.2
  refine km_X7_clear _ _ _ _ (fun S5 hG h => ?_) h
  replace hF := KF_t hF hG (by decide) (by decide) (by decide) (by decide) (by decide) (by decide) (by decide) (by decide)
  exact hk _ hF h
theorem km_X5_closeRoutine (t0 : Nat) : KmV [17] [] [28, 29, 30, 33] [] [] (wp_X5_closeRoutine t0) := by
  intro S0 K K' hk h
  have hF : KF [17] [] [28, 29, 30, 33] [] [] S0 S0 := KF_rf
  unfold wp_X5_closeRoutine at h ⊢
  refine ⟨h.1, ?_⟩
  replace h := h.2
  intro z1 ez1
  replace h := h z1 ez1
  refine ⟨fun c => ?_, fun c => ?_⟩
  · replace h := h.1 c
    exact hk _ hF h
  · replace h := h.2 c
    refine ⟨h.1, ?_⟩
    replace h := h.2
    intro z3 ez3
    replace h := h z3 ez3
    have pz3 : ∃ o, S0.2.1 33 o = z3 := ⟨_, by rw [ez3, hF.2.1 33 (by decide)]⟩
    refine ⟨h.1, ?_⟩
    replace h := h.2
    intro z4 ez4
    replace h := h z4 ez4
    intro z5 ez5
    replace h := h z5 ez5
    refine ⟨h.1, ?_⟩
    replace h := h.2
    refine km_X5_emit _ _ _ _ _ _ _ (fun S6 r6 hG h => ?_) h
    replace hF := KF_t hF hG (by decide) (by decide) (by decide) (by decide) (by decide) (by decide) (by decide) (by decide)
    obtain ⟨q7, eq7, h9⟩ := h
    replace h := h9
    clear h9
    refine ⟨q7, eq7, ?_⟩
    refine ⟨h.1, ?_⟩
    replace h := h.2
    refine ⟨h.1, ?_⟩
    replace h := h.2
    intro S8 eS8
    replace h := h S8 eS8
    replace hF := KF_a (fid := 33) hF eS8 (by decide) (by rw [← eq7]; exact pz3)
    exact hk _ hF h
theorem km_X3_read_105 {K K' : kS → Int32 → Prop} {S0 : kS} (hk : ∀ S1 r1, KF [6, 7, 8, 9, 10, 11, 17, 18, 24, 25] [15, 16] [17, 18, 19, 28, 29, 30, 32, 33, 34, 35, 36, 37, 43, 44, 45, 46, 47, 48, 49, 50, 51, 52] [20, 38, 39] [] S0 S1 → K S1 r1 → K' S1 r1) {x0 : Nat} {S : kS} (hF : KF [6, 7, 8, 9, 10, 11, 17, 18, 24, 25] [15, 16] [17, 18, 19, 28, 29, 30, 32, 33, 34, 35, 36, 37, 43, 44, 45, 46, 47, 48, 49, 50, 51, 52] [20, 38, 39] [] S0 S) (h : wp_X3_read_105 K x0 S) : wp_X3_read_105 K' x0 S := by
  unfold wp_X3_read_105 at h ⊢
  refine ⟨h.1, ?_⟩
  replace h := h.2
  refine km_X3_findChildren _ _ _ _ (fun S27 hG h => ?_) h
  replace hF := KF_t hF hG (by decide) (by decide) (by decide) (by decide) (by decide) (by decide) (by decide) (by decide)
  refine ⟨h.1, ?_⟩
  replace h := h.2
  intro z28 ez28
  replace h := h z28 ez28
  exact hk _ _ hF h
theorem km_X3_read_93 {K K' : kS → Int32 → Prop} {S0 : kS} (hk : ∀ S1 r1, KF [6, 7, 8, 9, 10, 11, 17, 18, 24, 25] [15, 16] [17, 18, 19, 28, 29, 30, 32, 33, 34, 35, 36, 37, 43, 44, 45, 46, 47, 48, 49, 50, 51, 52] [20, 38, 39] [] S0 S1 → K S1 r1 → K' S1 r1) {x0 : Nat} {S : kS} (hF : KF [6, 7, 8, 9, 10, 11, 17, 18, 24, 25] [15, 16] [17, 18, 19, 28, 29, 30, 32, 33, 34, 35, 36, 37, 43, 44, 45, 46, 47, 48, 49, 50, 51, 52] [20, 38, 39] [] S0 S) (h : wp_X3_read_93 K x0 S) : wp_X3_read_93 K' x0 S := by
  unfold wp_X3_read_93 at h ⊢
  refine ⟨h.1, ?_⟩
  replace h := h.2
  refine km_X3_kind _ _ _ _ (fun S24 r24 hG h => ?_) h
  replace hF := KF_t hF hG (by decide) (by decide) (by decide) (by decide) (by decide) (by decide) (by decide) (by decide)
  refine ⟨fun c => ?_, fun c => ?_⟩
  · replace h := h.1 c
    exact km_X3_read_105 hk hF h
  · replace h := h.2 c
    refine ⟨h.1, ?_⟩
    replace h := h.2
    refine km_X3_wrong _ _ _ _ _ (fun S26 hG h => ?_) h
    replace hF := KF_t hF hG (by decide) (by decide) (by decide) (by decide) (by decide) (by decide) (by decide) (by decide)
    exact km_X3_read_105 hk hF h
theorem km_X3_read_55 {K K' : kS → Int32 → Prop} {k55 k55' : Nat × Int32 × kS → Prop} {S0 : kS} (hk : ∀ S1 r1, KF [6, 7, 8, 9, 10, 11, 17, 18, 24, 25] [15, 16] [17, 18, 19, 28, 29, 30, 32, 33, 34, 35, 36, 37, 43, 44, 45, 46, 47, 48, 49, 50, 51, 52] [20, 38, 39] [] S0 S1 → K S1 r1 → K' S1 r1) (hk55 : ∀ u : Nat × Int32 × kS, KF [6, 7, 8, 9, 10, 11, 17, 18, 24, 25] [15, 16] [17, 18, 19, 28, 29, 30, 32, 33, 34, 35, 36, 37, 43, 44, 45, 46, 47, 48, 49, 50, 51, 52] [20, 38, 39] [] S0 u.2.2 → k55 u → k55' u) {x0 : Nat} {x2 : Int32} {S : kS} (hF : KF [6, 7, 8, 9, 10, 11, 17, 18, 24, 25] [15, 16] [17, 18, 19, 28, 29, 30, 32, 33, 34, 35, 36, 37, 43, 44, 45, 46, 47, 48, 49, 50, 51, 52] [20, 38, 39] [] S0 S) (h : wp_X3_read_55 K k55 x0 x2 S) : wp_X3_read_55 K' k55' x0 x2 S := by
  unfold wp_X3_read_55 at h ⊢
  refine ⟨fun c => ?_, fun c => ?_⟩
  · replace h := h.1 c
    exact km_X3_read_93 hk hF h
  · replace h := h.2 c
    refine ⟨h.1, ?_⟩
    replace h := h.2
    refine km_X3_kind _ _ _ _ (fun S16 r16 hG h => ?_) h
    replace hF := KF_t hF hG (by decide) (by decide) (by decide) (by decide) (by decide) (by decide) (by decide) (by decide)
    refine ⟨fun c => ?_, fun c => ?_⟩
    · replace h := h.1 c
      exact km_X3_read_93 hk hF h
    · replace h := h.2 c
      refine ⟨h.1, ?_⟩
      replace h := h.2
      refine km_X3_header _ _ _ _ (fun S18 hG h => ?_) h
      replace hF := KF_t hF hG (by decide) (by decide) (by decide) (by decide) (by decide) (by decide) (by decide) (by decide)
      refine ⟨h.1, ?_⟩
      replace h := h.2
      refine kq_X3_block _ _ _ _ _ (fun S19 hG h => ?_) h
      replace hF := KF_t hF hG (by decide) (by decide) (by decide) (by decide) (by decide) (by decide) (by decide) (by decide)
      refine ⟨h.1, ?_⟩
      replace h := h.2
      intro z20 ez20
      replace h := h z20 ez20
      obtain ⟨q21, eq21, h9⟩ := h
      replace h := h9
      clear h9
      refine ⟨q21, eq21, ?_⟩
      refine ⟨h.1, ?_⟩
      replace h := h.2
      refine km_X5_closeRoutine _ _ _ _ (fun S22 hG h => ?_) h
      replace hF := KF_t hF hG (by decide) (by decide) (by decide) (by decide) (by decide) (by decide) (by decide) (by decide)
      intro z23 ez23
      replace h := h z23 ez23
      exact hk55 _ hF h
theorem kml_X3_read_55 {K K' : kS → Int32 → Prop} {S0 : kS} (hk : ∀ S1 r1, KF [6, 7, 8, 9, 10, 11, 17, 18, 24, 25] [15, 16] [17, 18, 19, 28, 29, 30, 32, 33, 34, 35, 36, 37, 43, 44, 45, 46, 47, 48, 49, 50, 51, 52] [20, 38, 39] [] S0 S1 → K S1 r1 → K' S1 r1) : ∀ (n : Nat) (u : Nat × Int32 × kS), KF [6, 7, 8, 9, 10, 11, 17, 18, 24, 25] [15, 16] [17, 18, 19, 28, 29, 30, 32, 33, 34, 35, 36, 37, 43, 44, 45, 46, 47, 48, 49, 50, 51, 52] [20, 38, 39] [] S0 u.2.2 → it (ls_X3_read_55 K) n u → it (ls_X3_read_55 K') n u := by
  intro n
  induction n with
  | zero => exact fun _ _ h => h
  | succ n ih => exact fun u hF h => km_X3_read_55 hk ih hF h
theorem km_X3_read (t0 : Nat) (a0 : Nat) : KmI [6, 7, 8, 9, 10, 11, 17, 18, 24, 25] [15, 16] [17, 18, 19, 28, 29, 30, 32, 33, 34, 35, 36, 37, 43, 44, 45, 46, 47, 48, 49, 50, 51, 52] [20, 38, 39] [] (wp_X3_read t0 a0) := by
  intro S0 K K' hk h
  have hF : KF [6, 7, 8, 9, 10, 11, 17, 18, 24, 25] [15, 16] [17, 18, 19, 28, 29, 30, 32, 33, 34, 35, 36, 37, 43, 44, 45, 46, 47, 48, 49, 50, 51, 52] [20, 38, 39] [] S0 S0 := KF_rf
  unfold wp_X3_read at h ⊢
  refine ⟨h.1, ?_⟩
  replace h := h.2
  intro S1 eS1
  replace h := h S1 eS1
  replace hF := KF_r hF eS1 (by decide)
  refine ⟨h.1, ?_⟩
  replace h := h.2
  intro z2 ez2
  replace h := h z2 ez2
  obtain ⟨q3, eq3, h9⟩ := h
  replace h := h9
  clear h9
  refine ⟨q3, eq3, ?_⟩
  refine ⟨h.1, ?_⟩
  replace h := h.2
  refine km_X5_clear _ _ _ _ (fun S4 hG h => ?_) h
  replace hF := KF_t hF hG (by decide) (by decide) (by decide) (by decide) (by decide) (by decide) (by decide) (by decide)
  refine ⟨h.1, ?_⟩
  replace h := h.2
  intro z5 ez5
  replace h := h z5 ez5
  obtain ⟨q6, eq6, h9⟩ := h
  replace h := h9
  clear h9
  refine ⟨q6, eq6, ?_⟩
  refine ⟨h.1, ?_⟩
  replace h := h.2
  intro z7 ez7
  replace h := h z7 ez7
  refine ⟨h.1, ?_⟩
  replace h := h.2
  intro S8 eS8
  replace h := h S8 eS8
  replace hF := KF_r hF eS8 (by decide)
  refine ⟨h.1, ?_⟩
  replace h := h.2
  intro S9 eS9
  replace h := h S9 eS9
  replace hF := KF_i hF eS9 (by decide)
  refine ⟨h.1, ?_⟩
  replace h := h.2
  intro S10 eS10
  replace h := h S10 eS10
  replace hF := KF_i hF eS10 (by decide)
  refine ⟨h.1, ?_⟩
  replace h := h.2
  intro S11 eS11
  replace h := h S11 eS11
  replace hF := KF_i hF eS11 (by decide)
  refine ⟨h.1, ?_⟩
  replace h := h.2
  intro S12 eS12
  replace h := h S12 eS12
  replace hF := KF_i hF eS12 (by decide)
  refine ⟨h.1, ?_⟩
  replace h := h.2
  intro S13 eS13
  replace h := h S13 eS13
  replace hF := KF_i hF eS13 (by decide)
  refine ⟨h.1, ?_⟩
  replace h := h.2
  intro S14 eS14
  replace h := h S14 eS14
  replace hF := KF_i hF eS14 (by decide)
  obtain ⟨n9, h⟩ := h
  exact ⟨n9, kml_X3_read_55 hk n9 _ hF h⟩
theorem km_X5_isStep (a0 : Int32) : KmI [] [] [] [] [] (wp_X5_isStep a0) := by
  intro S0 K K' hk h
  have hF : KF [] [] [] [] [] S0 S0 := KF_rf
  unfold wp_X5_isStep at h ⊢
  intro z1 ez1
  replace h := h z1 ez1
  intro z2 ez2
  replace h := h z2 ez2
  intro z3 ez3
  replace h := h z3 ez3
  refine ⟨fun c => ?_, fun c => ?_⟩
  · replace h := h.1 c
    exact hk _ _ hF h
  · replace h := h.2 c
    exact hk _ _ hF h
theorem km_X5_scopeAt (t0 : Nat) (a0 : Int32) : KmI [] [] [] [] [] (wp_X5_scopeAt t0 a0) := by
  intro S0 K K' hk h
  have hF : KF [] [] [] [] [] S0 S0 := KF_rf
  unfold wp_X5_scopeAt at h ⊢
  refine ⟨fun c => ?_, fun c => ?_⟩
  · replace h := h.1 c
    exact hk _ _ hF h
  · replace h := h.2 c
    refine ⟨h.1, ?_⟩
    replace h := h.2
    intro z2 ez2
    replace h := h z2 ez2
    refine ⟨fun c => ?_, fun c => ?_⟩
    · replace h := h.1 c
      exact hk _ _ hF h
    · replace h := h.2 c
      refine ⟨h.1, ?_⟩
      replace h := h.2
      intro z4 ez4
      replace h := h z4 ez4
      obtain ⟨q5, eq5, h9⟩ := h
      replace h := h9
      clear h9
      refine ⟨q5, eq5, ?_⟩
      refine ⟨h.1, ?_⟩
      replace h := h.2
      refine ⟨h.1, ?_⟩
      replace h := h.2
      intro z6 ez6
      replace h := h z6 ez6
      exact hk _ _ hF h
theorem km_X6_tellAbout (t0 : Nat) (a0 : Nat) : KmV [13, 14, 15] [] [] [] [] (wp_X6_tellAbout t0 a0) := by
  intro S0 K K' hk h
  have hF : KF [13, 14, 15] [] [] [] [] S0 S0 := KF_rf
  unfold wp_X6_tellAbout at h ⊢
  refine ⟨h.1, ?_⟩
  replace h := h.2
  intro z1 ez1
  replace h := h z1 ez1
  refine ⟨fun c => ?_, fun q2 c => ?_⟩
  · replace h := h.1 c
    exact hk _ hF h
  · replace h := h.2 q2 c
    refine ⟨h.1, ?_⟩
    replace h := h.2
    intro z3 ez3
    replace h := h z3 ez3
    refine ⟨fun c => ?_, fun c => ?_⟩
    · replace h := h.1 c
      exact hk _ hF h
    · replace h := h.2 c
      refine ⟨h.1, ?_⟩
      replace h := h.2
      intro z5 ez5
      replace h := h z5 ez5
      refine ⟨h.1, ?_⟩
      replace h := h.2
      intro z6 ez6
      replace h := h z6 ez6
      refine ⟨h.1, ?_⟩
      replace h := h.2
      refine km_X4_hears _ _ _ _ _ _ (fun S7 r7 hG h => ?_) h
      replace hF := KF_t hF hG (by decide) (by decide) (by decide) (by decide) (by decide) (by decide) (by decide) (by decide)
      exact hk _ hF h
theorem km_X6_closePart_67 {K K' : kS → Prop} {S0 : kS} (hk : ∀ S1, KF [13, 14, 15, 16] [12, 13, 25, 26, 27, 63] [] [] [] S0 S1 → K S1 → K' S1) {x0 : Nat} {x2 : Nat} {S : kS} (hF : KF [13, 14, 15, 16] [12, 13, 25, 26, 27, 63] [] [] [] S0 S) (h : wp_X6_closePart_67 K x0 x2 S) : wp_X6_closePart_67 K' x0 x2 S := by
  unfold wp_X6_closePart_67 at h ⊢
  refine ⟨h.1, ?_⟩
  replace h := h.2
  intro z17 ez17
  replace h := h z17 ez17
  refine ⟨fun c => ?_, fun c => ?_⟩
  · replace h := h.1 c
    exact hk _ hF h
  · replace h := h.2 c
    refine ⟨h.1, ?_⟩
    replace h := h.2
    refine km_X6_tellAbout _ _ _ _ _ (fun S19 hG h => ?_) h
    replace hF := KF_t hF hG (by decide) (by decide) (by decide) (by decide) (by decide) (by decide) (by decide) (by decide)
    exact hk _ hF h
theorem km_X6_closePart (t0 : Nat) (a0 : Nat) : KmV [13, 14, 15, 16] [12, 13, 25, 26, 27, 63] [] [] [] (wp_X6_closePart t0 a0) := by
  intro S0 K K' hk h
  have hF : KF [13, 14, 15, 16] [12, 13, 25, 26, 27, 63] [] [] [] S0 S0 := KF_rf
  unfold wp_X6_closePart at h ⊢
  refine ⟨h.1, ?_⟩
  replace h := h.2
  intro z1 ez1
  replace h := h z1 ez1
  refine ⟨fun c => ?_, fun q2 c => ?_⟩
  · replace h := h.1 c
    exact hk _ hF h
  · replace h := h.2 q2 c
    refine ⟨h.1, ?_⟩
    replace h := h.2
    intro z3 ez3
    replace h := h z3 ez3
    refine ⟨h.1, ?_⟩
    replace h := h.2
    intro S4 eS4
    replace h := h S4 eS4
    replace hF := KF_r hF eS4 (by decide)
    refine ⟨h.1, ?_⟩
    replace h := h.2
    intro z5 ez5
    replace h := h z5 ez5
    refine ⟨fun c => ?_, fun c => ?_⟩
    · replace h := h.1 c
      exact km_X6_closePart_67 hk hF h
    · replace h := h.2 c
      refine ⟨h.1, ?_⟩
      replace h := h.2
      intro z7 ez7
      replace h := h z7 ez7
      refine ⟨fun c => ?_, fun c => ?_⟩
      · replace h := h.1 c
        exact km_X6_closePart_67 hk hF h
      · replace h := h.2 c
        refine ⟨h.1, ?_⟩
        replace h := h.2
        intro z9 ez9
        replace h := h z9 ez9
        refine ⟨fun c => ?_, fun c => ?_⟩
        · replace h := h.1 c
          refine ⟨h.1, ?_⟩
          replace h := h.2
          intro S11 eS11
          replace h := h S11 eS11
          replace hF := KF_i hF eS11 (by decide)
          refine ⟨h.1, ?_⟩
          replace h := h.2
          intro S12 eS12
          replace h := h S12 eS12
          replace hF := KF_i hF eS12 (by decide)
          exact km_X6_closePart_67 hk hF h
        · replace h := h.2 c
          refine ⟨h.1, ?_⟩
          replace h := h.2
          intro z13 ez13
          replace h := h z13 ez13
          refine ⟨h.1, ?_⟩
          replace h := h.2
          intro z14 ez14
          replace h := h z14 ez14
          obtain ⟨q15, eq15, h9⟩ := h
          replace h := h9
          clear h9
          refine ⟨q15, eq15, ?_⟩
          refine ⟨h.1, ?_⟩
          replace h := h.2
          refine km_X1_setAlarm _ _ _ _ _ _ (fun S16 hG h => ?_) h
          replace hF := KF_t hF hG (by decide) (by decide) (by decide) (by decide) (by decide) (by decide) (by decide) (by decide)
          exact km_X6_closePart_67 hk hF h
theorem km_X6_come (t0 : Nat) (a0 : Nat) (a1 : Int32) : KmV [13, 14, 15] [] [] [] [] (wp_X6_come t0 a0 a1) := by
  intro S0 K K' hk h
  have hF : KF [13, 14, 15] [] [] [] [] S0 S0 := KF_rf
  unfold wp_X6_come at h ⊢
  refine ⟨h.1, ?_⟩
  replace h := h.2
  intro S1 eS1
  replace h := h S1 eS1
  replace hF := KF_i hF eS1 (by decide)
  refine ⟨h.1, ?_⟩
  replace h := h.2
  intro S2 eS2
  replace h := h S2 eS2
  replace hF := KF_i hF eS2 (by decide)
  refine ⟨h.1, ?_⟩
  replace h := h.2
  refine km_X6_tellAbout _ _ _ _ _ (fun S3 hG h => ?_) h
  replace hF := KF_t hF hG (by decide) (by decide) (by decide) (by decide) (by decide) (by decide) (by decide) (by decide)
  exact hk _ hF h
theorem km_X6_end (t0 : Nat) (a0 : Nat) (a1 : Int32) (a2 : Int32) : KmV [22, 31, 32] [] [] [] [] (wp_X6_end t0 a0 a1 a2) := by
  intro S0 K K' hk h
  have hF : KF [22, 31, 32] [] [] [] [] S0 S0 := KF_rf
  unfold wp_X6_end at h ⊢
  refine ⟨h.1, ?_⟩
  replace h := h.2
  intro S1 eS1
  replace h := h S1 eS1
  replace hF := KF_i hF eS1 (by decide)
  refine ⟨h.1, ?_⟩
  replace h := h.2
  intro S2 eS2
  replace h := h S2 eS2
  replace hF := KF_i hF eS2 (by decide)
  refine ⟨h.1, ?_⟩
  replace h := h.2
  intro S3 eS3
  replace h := h S3 eS3
  replace hF := KF_i hF eS3 (by decide)
  exact hk _ hF h
