
def wT_X11_count (t0 : Nat) (a0 : Int32) (S : kS) (K : kS → Int32 → Prop) : Prop := ((a0 = 0 → ∀ z2 : Option Nat, z2 = S.2.1 74 t0 → ∃ q3 : Nat, z2 = some q3 ∧ ∀ z4 : Int32, z4 = S.1 18 q3 → K S z4) ∧ (¬ a0 = 0 → ((a0 = 1 → ∀ z6 : Option Nat, z6 = S.2.1 72 t0 → ∀ q7 : Nat, z6 = some q7 → ∀ z8 : Int32, z8 = S.1 1 q7 → K S z8) ∧ (¬ a0 = 1 → ((a0 = 2 → ∀ z10 : Option Nat, z10 = S.2.1 72 t0 → ∀ q11 : Nat, z10 = some q11 → ∀ z12 : Int32, z12 = S.1 2 q11 → K S z12) ∧ (¬ a0 = 2 → ((a0 = 3 → ∀ z14 : Option Nat, z14 = S.2.1 72 t0 → ∀ q15 : Nat, z14 = some q15 → ∀ z16 : Int32, z16 = S.1 3 q15 → K S z16) ∧ (¬ a0 = 3 → ((a0 = 4 → ∀ z18 : Option Nat, z18 = S.2.1 72 t0 → ∀ q19 : Nat, z18 = some q19 → ∀ z20 : Int32, z20 = S.1 1 q19 → ∀ z21 : Option Nat, z21 = S.2.1 72 t0 → ∀ q22 : Nat, z21 = some q22 → ∀ z23 : Int32, z23 = S.1 2 q22 → ∀ z24 : Int32, z24 = z20 - z23 → ∀ z25 : Option Nat, z25 = S.2.1 72 t0 → ∀ q26 : Nat, z25 = some q26 → ∀ z27 : Int32, z27 = S.1 3 q26 → ∀ z28 : Int32, z28 = z24 - z27 → K S z28) ∧ (¬ a0 = 4 → ((a0 = 5 → ∀ z30 : Option Nat, z30 = S.2.1 73 t0 → ∀ q31 : Nat, z30 = some q31 → ∀ z32 : Option Nat, z32 = S.2.1 40 q31 → ∀ q33 : Nat, z32 = some q33 → ∀ z34 : Int32, z34 = S.1 0 q33 → K S z34) ∧ (¬ a0 = 5 → ((a0 = 6 → ∀ z36 : Option Nat, z36 = S.2.1 72 t0 → ∀ q37 : Nat, z36 = some q37 → ∀ z38 : Option Nat, z38 = S.2.1 9 q37 → ∀ q39 : Nat, z38 = some q39 → ∀ z40 : Int32, z40 = S.1 0 q39 → K S z40) ∧ (¬ a0 = 6 → ((a0 = 7 → ∀ z42 : Option Nat, z42 = S.2.1 72 t0 → ∀ q43 : Nat, z42 = some q43 → ∀ z44 : Int32, z44 = S.1 4 q43 → K S z44) ∧ (¬ a0 = 7 → ((a0 = 8 → ∀ z46 : Option Nat, z46 = S.2.1 73 t0 → ∀ q47 : Nat, z46 = some q47 → ∀ z48 : Int32, z48 = S.1 19 q47 → K S z48) ∧ (¬ a0 = 8 → ((a0 = 9 → ∀ z50 : Option Nat, z50 = S.2.1 73 t0 → ∀ q51 : Nat, z50 = some q51 → ∀ z52 : Int32, z52 = S.1 20 q51 → K S z52) ∧ (¬ a0 = 9 → ((a0 = 10 → ∀ z54 : Option Nat, z54 = S.2.1 72 t0 → ∀ q55 : Nat, z54 = some q55 → wT_X1_lettersLying q55 S (fun (S56 : kS) (r56 : Int32) => K S56 r56)) ∧ (¬ a0 = 10 → ((a0 = 11 → ∀ z58 : Option Nat, z58 = S.2.1 69 t0 → ∀ q59 : Nat, z58 = some q59 → ∀ z60 : Int32, z60 = S.1 41 q59 → K S z60) ∧ (¬ a0 = 11 → K S (-1)))))))))))))))))))))))))
theorem ty_X11_count {d : List (Nat × cK)} {t0 : Nat} {a0 : Int32} (t_t0 : (t0, Sum.inl 11) ∈ d) {S : kS} {K K' : kS → Int32 → Prop} (hW : WT d S) (hk : ∀ S1 r1, WT d S1 → K S1 r1 → K' S1 r1) (h : wT_X11_count t0 a0 S K) : wp_X11_count t0 a0 S K' := by
  unfold wT_X11_count at h
  unfold wp_X11_count
  refine ⟨fun c => ?_, fun c => ?_⟩
  · replace h := h.1 c
    refine ⟨hasO_of hW t_t0, ?_⟩
    intro z2 e_z2
    replace h := h z2 e_z2
    have t_z2 : ∀ b, z2 = some b → (b, Sum.inl 5) ∈ d := fun b hb => hW.2.1 74 _ b t_t0 (by rw [← e_z2]; exact hb)
    obtain ⟨q3, e_q3, h9⟩ := h
    replace h := h9
    clear h9
    refine ⟨q3, e_q3, ?_⟩
    have t_q3 := t_z2 q3 e_q3
    refine ⟨hasO_of hW t_q3, ?_⟩
    intro z4 e_z4
    replace h := h z4 e_z4
    exact hk _ _ hW h
  · replace h := h.2 c
    refine ⟨fun c => ?_, fun c => ?_⟩
    · replace h := h.1 c
      refine ⟨hasO_of hW t_t0, ?_⟩
      intro z6 e_z6
      replace h := h z6 e_z6
      have t_z6 : ∀ b, z6 = some b → (b, Sum.inl 1) ∈ d := fun b hb => hW.2.1 72 _ b t_t0 (by rw [← e_z6]; exact hb)
      have n_z6 := wt_nn (f := 72) hW (by decide) t_t0 e_z6
      obtain ⟨q7, e_q7⟩ := n_z6
      refine ⟨q7, e_q7, ?_⟩
      replace h := h q7 e_q7
      have t_q7 := t_z6 q7 e_q7
      refine ⟨hasO_of hW t_q7, ?_⟩
      intro z8 e_z8
      replace h := h z8 e_z8
      exact hk _ _ hW h
    · replace h := h.2 c
      refine ⟨fun c => ?_, fun c => ?_⟩
      · replace h := h.1 c
        refine ⟨hasO_of hW t_t0, ?_⟩
        intro z10 e_z10
        replace h := h z10 e_z10
        have t_z10 : ∀ b, z10 = some b → (b, Sum.inl 1) ∈ d := fun b hb => hW.2.1 72 _ b t_t0 (by rw [← e_z10]; exact hb)
        have n_z10 := wt_nn (f := 72) hW (by decide) t_t0 e_z10
        obtain ⟨q11, e_q11⟩ := n_z10
        refine ⟨q11, e_q11, ?_⟩
        replace h := h q11 e_q11
        have t_q11 := t_z10 q11 e_q11
        refine ⟨hasO_of hW t_q11, ?_⟩
        intro z12 e_z12
        replace h := h z12 e_z12
        exact hk _ _ hW h
      · replace h := h.2 c
        refine ⟨fun c => ?_, fun c => ?_⟩
        · replace h := h.1 c
          refine ⟨hasO_of hW t_t0, ?_⟩
          intro z14 e_z14
          replace h := h z14 e_z14
          have t_z14 : ∀ b, z14 = some b → (b, Sum.inl 1) ∈ d := fun b hb => hW.2.1 72 _ b t_t0 (by rw [← e_z14]; exact hb)
          have n_z14 := wt_nn (f := 72) hW (by decide) t_t0 e_z14
          obtain ⟨q15, e_q15⟩ := n_z14
          refine ⟨q15, e_q15, ?_⟩
          replace h := h q15 e_q15
          have t_q15 := t_z14 q15 e_q15
          refine ⟨hasO_of hW t_q15, ?_⟩
          intro z16 e_z16
          replace h := h z16 e_z16
          exact hk _ _ hW h
        · replace h := h.2 c
          refine ⟨fun c => ?_, fun c => ?_⟩
          · replace h := h.1 c
            refine ⟨hasO_of hW t_t0, ?_⟩
            intro z18 e_z18
            replace h := h z18 e_z18
            have t_z18 : ∀ b, z18 = some b → (b, Sum.inl 1) ∈ d := fun b hb => hW.2.1 72 _ b t_t0 (by rw [← e_z18]; exact hb)
            have n_z18 := wt_nn (f := 72) hW (by decide) t_t0 e_z18
            obtain ⟨q19, e_q19⟩ := n_z18
            refine ⟨q19, e_q19, ?_⟩
            replace h := h q19 e_q19
            have t_q19 := t_z18 q19 e_q19
            refine ⟨hasO_of hW t_q19, ?_⟩
            intro z20 e_z20
            replace h := h z20 e_z20
            refine ⟨hasO_of hW t_t0, ?_⟩
            intro z21 e_z21
            replace h := h z21 e_z21
            have t_z21 : ∀ b, z21 = some b → (b, Sum.inl 1) ∈ d := fun b hb => hW.2.1 72 _ b t_t0 (by rw [← e_z21]; exact hb)
            have n_z21 := wt_nn (f := 72) hW (by decide) t_t0 e_z21
            obtain ⟨q22, e_q22⟩ := n_z21
            refine ⟨q22, e_q22, ?_⟩
            replace h := h q22 e_q22
            have t_q22 := t_z21 q22 e_q22
            refine ⟨hasO_of hW t_q22, ?_⟩
            intro z23 e_z23
            replace h := h z23 e_z23
            intro z24 e_z24
            replace h := h z24 e_z24
            refine ⟨hasO_of hW t_t0, ?_⟩
            intro z25 e_z25
            replace h := h z25 e_z25
            have t_z25 : ∀ b, z25 = some b → (b, Sum.inl 1) ∈ d := fun b hb => hW.2.1 72 _ b t_t0 (by rw [← e_z25]; exact hb)
            have n_z25 := wt_nn (f := 72) hW (by decide) t_t0 e_z25
            obtain ⟨q26, e_q26⟩ := n_z25
            refine ⟨q26, e_q26, ?_⟩
            replace h := h q26 e_q26
            have t_q26 := t_z25 q26 e_q26
            refine ⟨hasO_of hW t_q26, ?_⟩
            intro z27 e_z27
            replace h := h z27 e_z27
            intro z28 e_z28
            replace h := h z28 e_z28
            exact hk _ _ hW h
          · replace h := h.2 c
            refine ⟨fun c => ?_, fun c => ?_⟩
            · replace h := h.1 c
              refine ⟨hasO_of hW t_t0, ?_⟩
              intro z30 e_z30
              replace h := h z30 e_z30
              have t_z30 : ∀ b, z30 = some b → (b, Sum.inl 6) ∈ d := fun b hb => hW.2.1 73 _ b t_t0 (by rw [← e_z30]; exact hb)
              have n_z30 := wt_nn (f := 73) hW (by decide) t_t0 e_z30
              obtain ⟨q31, e_q31⟩ := n_z30
              refine ⟨q31, e_q31, ?_⟩
              replace h := h q31 e_q31
              have t_q31 := t_z30 q31 e_q31
              refine ⟨hasO_of hW t_q31, ?_⟩
              intro z32 e_z32
              replace h := h z32 e_z32
              have t_z32 : ∀ b, z32 = some b → (b, Sum.inl 0) ∈ d := fun b hb => hW.2.1 40 _ b t_q31 (by rw [← e_z32]; exact hb)
              have n_z32 := wt_nn (f := 40) hW (by decide) t_q31 e_z32
              obtain ⟨q33, e_q33⟩ := n_z32
              refine ⟨q33, e_q33, ?_⟩
              replace h := h q33 e_q33
              have t_q33 := t_z32 q33 e_q33
              refine ⟨hasO_of hW t_q33, ?_⟩
              intro z34 e_z34
              replace h := h z34 e_z34
              exact hk _ _ hW h
            · replace h := h.2 c
              refine ⟨fun c => ?_, fun c => ?_⟩
              · replace h := h.1 c
                refine ⟨hasO_of hW t_t0, ?_⟩
                intro z36 e_z36
                replace h := h z36 e_z36
                have t_z36 : ∀ b, z36 = some b → (b, Sum.inl 1) ∈ d := fun b hb => hW.2.1 72 _ b t_t0 (by rw [← e_z36]; exact hb)
                have n_z36 := wt_nn (f := 72) hW (by decide) t_t0 e_z36
                obtain ⟨q37, e_q37⟩ := n_z36
                refine ⟨q37, e_q37, ?_⟩
                replace h := h q37 e_q37
                have t_q37 := t_z36 q37 e_q37
                refine ⟨hasO_of hW t_q37, ?_⟩
                intro z38 e_z38
                replace h := h z38 e_z38
                have t_z38 : ∀ b, z38 = some b → (b, Sum.inl 0) ∈ d := fun b hb => hW.2.1 9 _ b t_q37 (by rw [← e_z38]; exact hb)
                have n_z38 := wt_nn (f := 9) hW (by decide) t_q37 e_z38
                obtain ⟨q39, e_q39⟩ := n_z38
                refine ⟨q39, e_q39, ?_⟩
                replace h := h q39 e_q39
                have t_q39 := t_z38 q39 e_q39
                refine ⟨hasO_of hW t_q39, ?_⟩
                intro z40 e_z40
                replace h := h z40 e_z40
                exact hk _ _ hW h
              · replace h := h.2 c
                refine ⟨fun c => ?_, fun c => ?_⟩
                · replace h := h.1 c
                  refine ⟨hasO_of hW t_t0, ?_⟩
                  intro z42 e_z42
                  replace h := h z42 e_z42
                  have t_z42 : ∀ b, z42 = some b → (b, Sum.inl 1) ∈ d := fun b hb => hW.2.1 72 _ b t_t0 (by rw [← e_z42]; exact hb)
                  have n_z42 := wt_nn (f := 72) hW (by decide) t_t0 e_z42
                  obtain ⟨q43, e_q43⟩ := n_z42
                  refine ⟨q43, e_q43, ?_⟩
                  replace h := h q43 e_q43
                  have t_q43 := t_z42 q43 e_q43
                  refine ⟨hasO_of hW t_q43, ?_⟩
                  intro z44 e_z44
                  replace h := h z44 e_z44
                  exact hk _ _ hW h
                · replace h := h.2 c
                  refine ⟨fun c => ?_, fun c => ?_⟩
                  · replace h := h.1 c
                    refine ⟨hasO_of hW t_t0, ?_⟩
                    intro z46 e_z46
                    replace h := h z46 e_z46
                    have t_z46 : ∀ b, z46 = some b → (b, Sum.inl 6) ∈ d := fun b hb => hW.2.1 73 _ b t_t0 (by rw [← e_z46]; exact hb)
                    have n_z46 := wt_nn (f := 73) hW (by decide) t_t0 e_z46
                    obtain ⟨q47, e_q47⟩ := n_z46
                    refine ⟨q47, e_q47, ?_⟩
                    replace h := h q47 e_q47
                    have t_q47 := t_z46 q47 e_q47
                    refine ⟨hasO_of hW t_q47, ?_⟩
                    intro z48 e_z48
                    replace h := h z48 e_z48
                    exact hk _ _ hW h
                  · replace h := h.2 c
                    refine ⟨fun c => ?_, fun c => ?_⟩
                    · replace h := h.1 c
                      refine ⟨hasO_of hW t_t0, ?_⟩
                      intro z50 e_z50
                      replace h := h z50 e_z50
                      have t_z50 : ∀ b, z50 = some b → (b, Sum.inl 6) ∈ d := fun b hb => hW.2.1 73 _ b t_t0 (by rw [← e_z50]; exact hb)
                      have n_z50 := wt_nn (f := 73) hW (by decide) t_t0 e_z50
                      obtain ⟨q51, e_q51⟩ := n_z50
                      refine ⟨q51, e_q51, ?_⟩
                      replace h := h q51 e_q51
                      have t_q51 := t_z50 q51 e_q51
                      refine ⟨hasO_of hW t_q51, ?_⟩
                      intro z52 e_z52
                      replace h := h z52 e_z52
                      exact hk _ _ hW h
                    · replace h := h.2 c
                      refine ⟨fun c => ?_, fun c => ?_⟩
                      · replace h := h.1 c
                        refine ⟨hasO_of hW t_t0, ?_⟩
                        intro z54 e_z54
                        replace h := h z54 e_z54
                        have t_z54 : ∀ b, z54 = some b → (b, Sum.inl 1) ∈ d := fun b hb => hW.2.1 72 _ b t_t0 (by rw [← e_z54]; exact hb)
                        have n_z54 := wt_nn (f := 72) hW (by decide) t_t0 e_z54
                        obtain ⟨q55, e_q55⟩ := n_z54
                        refine ⟨q55, e_q55, ?_⟩
                        replace h := h q55 e_q55
                        have t_q55 := t_z54 q55 e_q55
                        refine ⟨hasO_of hW t_q55, ?_⟩
                        refine ty_X1_lettersLying t_q55 hW (fun S56 r56 hW h => ?_) h
                        exact hk _ _ hW h
                      · replace h := h.2 c
                        refine ⟨fun c => ?_, fun c => ?_⟩
                        · replace h := h.1 c
                          refine ⟨hasO_of hW t_t0, ?_⟩
                          intro z58 e_z58
                          replace h := h z58 e_z58
                          have t_z58 : ∀ b, z58 = some b → (b, Sum.inl 10) ∈ d := fun b hb => hW.2.1 69 _ b t_t0 (by rw [← e_z58]; exact hb)
                          have n_z58 := wt_nn (f := 69) hW (by decide) t_t0 e_z58
                          obtain ⟨q59, e_q59⟩ := n_z58
                          refine ⟨q59, e_q59, ?_⟩
                          replace h := h q59 e_q59
                          have t_q59 := t_z58 q59 e_q59
                          refine ⟨hasO_of hW t_q59, ?_⟩
                          intro z60 e_z60
                          replace h := h z60 e_z60
                          exact hk _ _ hW h
                        · replace h := h.2 c
                          exact hk _ _ hW h
def wT_X11_feed (t0 : Nat) (a0 : Int64) (a1 : Int64) (a2 : Int64) (S : kS) (K : kS → Int32 → Prop) : Prop := ∀ z1 : Option Nat, z1 = S.2.1 69 t0 → ∀ q2 : Nat, z1 = some q2 → wT_X10_add q2 a0 S (fun (S3 : kS) => ∀ z4 : Option Nat, z4 = S3.2.1 69 t0 → ∀ q5 : Nat, z4 = some q5 → wT_X10_add q5 a1 S3 (fun (S6 : kS) => ∀ z7 : Option Nat, z7 = S6.2.1 69 t0 → ∀ q8 : Nat, z7 = some q8 → wT_X10_add q8 a2 S6 (fun (S9 : kS) => ∀ z10 : Option Nat, z10 = S9.2.1 69 t0 → ∀ q11 : Nat, z10 = some q11 → ∀ z12 : Int32, z12 = S9.1 41 q11 → K S9 z12)))
theorem ty_X11_feed {d : List (Nat × cK)} {t0 : Nat} {a0 : Int64} {a1 : Int64} {a2 : Int64} (t_t0 : (t0, Sum.inl 11) ∈ d) {S : kS} {K K' : kS → Int32 → Prop} (hW : WT d S) (hk : ∀ S1 r1, WT d S1 → K S1 r1 → K' S1 r1) (h : wT_X11_feed t0 a0 a1 a2 S K) : wp_X11_feed t0 a0 a1 a2 S K' := by
  unfold wT_X11_feed at h
  unfold wp_X11_feed
  refine ⟨hasO_of hW t_t0, ?_⟩
  intro z1 e_z1
  replace h := h z1 e_z1
  have t_z1 : ∀ b, z1 = some b → (b, Sum.inl 10) ∈ d := fun b hb => hW.2.1 69 _ b t_t0 (by rw [← e_z1]; exact hb)
  have n_z1 := wt_nn (f := 69) hW (by decide) t_t0 e_z1
  obtain ⟨q2, e_q2⟩ := n_z1
  refine ⟨q2, e_q2, ?_⟩
  replace h := h q2 e_q2
  have t_q2 := t_z1 q2 e_q2
  refine ⟨hasO_of hW t_q2, ?_⟩
  refine ty_X10_add t_q2 hW (fun S3 hW h => ?_) h
  refine ⟨hasO_of hW t_t0, ?_⟩
  intro z4 e_z4
  replace h := h z4 e_z4
  have t_z4 : ∀ b, z4 = some b → (b, Sum.inl 10) ∈ d := fun b hb => hW.2.1 69 _ b t_t0 (by rw [← e_z4]; exact hb)
  have n_z4 := wt_nn (f := 69) hW (by decide) t_t0 e_z4
  obtain ⟨q5, e_q5⟩ := n_z4
  refine ⟨q5, e_q5, ?_⟩
  replace h := h q5 e_q5
  have t_q5 := t_z4 q5 e_q5
  refine ⟨hasO_of hW t_q5, ?_⟩
  refine ty_X10_add t_q5 hW (fun S6 hW h => ?_) h
  refine ⟨hasO_of hW t_t0, ?_⟩
  intro z7 e_z7
  replace h := h z7 e_z7
  have t_z7 : ∀ b, z7 = some b → (b, Sum.inl 10) ∈ d := fun b hb => hW.2.1 69 _ b t_t0 (by rw [← e_z7]; exact hb)
  have n_z7 := wt_nn (f := 69) hW (by decide) t_t0 e_z7
  obtain ⟨q8, e_q8⟩ := n_z7
  refine ⟨q8, e_q8, ?_⟩
  replace h := h q8 e_q8
  have t_q8 := t_z7 q8 e_q8
  refine ⟨hasO_of hW t_q8, ?_⟩
  refine ty_X10_add t_q8 hW (fun S9 hW h => ?_) h
  refine ⟨hasO_of hW t_t0, ?_⟩
  intro z10 e_z10
  replace h := h z10 e_z10
  have t_z10 : ∀ b, z10 = some b → (b, Sum.inl 10) ∈ d := fun b hb => hW.2.1 69 _ b t_t0 (by rw [← e_z10]; exact hb)
  have n_z10 := wt_nn (f := 69) hW (by decide) t_t0 e_z10
  obtain ⟨q11, e_q11⟩ := n_z10
  refine ⟨q11, e_q11, ?_⟩
  replace h := h q11 e_q11
  have t_q11 := t_z10 q11 e_q11
  refine ⟨hasO_of hW t_q11, ?_⟩
  intro z12 e_z12
  replace h := h z12 e_z12
  exact hk _ _ hW h
def wT_X1_deliver (t0 : Nat) (a0 : Int32) (a1 : Int32) (S : kS) (K : kS → Int32 → Prop) : Prop := ((a0 < 0 → K S (-2)) ∧ (¬ a0 < 0 → ((8 ≤ a0 → K S (-2)) ∧ (¬ 8 ≤ a0 → ∀ z3 : Option Nat, z3 = S.2.1 6 t0 → ∀ q4 : Nat, z3 = some q4 → inR a0 8 ∧ ∀ z5 : Int32, z5 = S.2.2.1 q4 (ix a0) → ((z5 < 50 → ∀ z7 : Option Nat, z7 = S.2.1 7 t0 → ∀ q8 : Nat, z7 = some q8 → inR a0 8 ∧ ∀ z9 : Option Nat, z9 = S.2.2.2.2.1 q8 (ix a0) → ∀ q10 : Nat, z9 = some q10 → ∀ z11 : Option Nat, z11 = S.2.1 12 q10 → ((z11 = none → ∀ z13 : Option Nat, z13 = S.2.1 5 t0 → ∀ z14 : Int32, z14 = a0 * 50 → ∀ z15 : Option Nat, z15 = S.2.1 6 t0 → ∀ q16 : Nat, z15 = some q16 → inR a0 8 ∧ ∀ z17 : Int32, z17 = S.2.2.1 q16 (ix a0) → ∀ z18 : Int32, z18 = z14 + z17 → ∀ q19 : Nat, z13 = some q19 → inR z18 400 ∧ ∀ S20 : kS, S20 = cA S q19 (ix z18) a1 → ∀ z21 : Option Nat, z21 = S20.2.1 6 t0 → ∀ q22 : Nat, z21 = some q22 → inR a0 8 ∧ ∀ z23 : Int32, z23 = S20.2.2.1 q22 (ix a0) → ∀ z24 : Int32, z24 = z23 + 1 → inR a0 8 ∧ ∀ S25 : kS, S25 = cA S20 q22 (ix a0) z24 → K S25 (-1)) ∧ (∀ q12 : Nat, z11 = some q12 → wT_X1_report t0 q12 1 a1 S (fun (S26 : kS) => wT_X1_work t0 S26 (fun (S27 : kS) => ∀ z28 : Option Nat, z28 = S27.2.1 21 q12 → ∃ q29 : Nat, z28 = some q29 ∧ ∀ z30 : Int32, z30 = S27.1 28 q29 → K S27 z30))))) ∧ (¬ z5 < 50 → K S (-2)))))))
theorem ty_X1_deliver {d : List (Nat × cK)} {t0 : Nat} {a0 : Int32} {a1 : Int32} (t_t0 : (t0, Sum.inl 1) ∈ d) {S : kS} {K K' : kS → Int32 → Prop} (hW : WT d S) (hk : ∀ S1 r1, WT d S1 → K S1 r1 → K' S1 r1) (h : wT_X1_deliver t0 a0 a1 S K) : wp_X1_deliver t0 a0 a1 S K' := by
  unfold wT_X1_deliver at h
  unfold wp_X1_deliver
  refine ⟨fun c => ?_, fun c => ?_⟩
  · replace h := h.1 c
    exact hk _ _ hW h
  · replace h := h.2 c
    refine ⟨fun c => ?_, fun c => ?_⟩
    · replace h := h.1 c
      exact hk _ _ hW h
    · replace h := h.2 c
      refine ⟨hasO_of hW t_t0, ?_⟩
      intro z3 e_z3
      replace h := h z3 e_z3
      have t_z3 : ∀ b, z3 = some b → (b, Sum.inr (8, 0)) ∈ d := fun b hb => hW.2.1 6 _ b t_t0 (by rw [← e_z3]; exact hb)
      have n_z3 := wt_nn (f := 6) hW (by decide) t_t0 e_z3
      obtain ⟨q4, e_q4⟩ := n_z3
      refine ⟨q4, e_q4, ?_⟩
      replace h := h q4 e_q4
      have t_q4 := t_z3 q4 e_q4
      refine ⟨hasA_of hW t_q4, ?_⟩
      have hin := h.1
      refine ⟨h.1, ?_⟩
      replace h := h.2
      intro z5 e_z5
      replace h := h z5 e_z5
      refine ⟨fun c => ?_, fun c => ?_⟩
      · replace h := h.1 c
        refine ⟨hasO_of hW t_t0, ?_⟩
        intro z7 e_z7
        replace h := h z7 e_z7
        have t_z7 : ∀ b, z7 = some b → (b, Sum.inr (8, 4)) ∈ d := fun b hb => hW.2.1 7 _ b t_t0 (by rw [← e_z7]; exact hb)
        have n_z7 := wt_nn (f := 7) hW (by decide) t_t0 e_z7
        obtain ⟨q8, e_q8⟩ := n_z7
        refine ⟨q8, e_q8, ?_⟩
        replace h := h q8 e_q8
        have t_q8 := t_z7 q8 e_q8
        refine ⟨hasA_of hW t_q8, ?_⟩
        have hin := h.1
        refine ⟨h.1, ?_⟩
        replace h := h.2
        intro z9 e_z9
        replace h := h z9 e_z9
        have n0_z9 := wt_ln hW t_q8 (inR_lt hin) e_z9
        have n_z9 : ∃ q, z9 = some q := by obtain ⟨q9, h9, _⟩ := n0_z9; exact ⟨q9, h9⟩
        have t_z9 : ∀ b, z9 = some b → (b, Sum.inl 2) ∈ d := by obtain ⟨q9, h9, g9⟩ := n0_z9; intro b hb; cases h9.symm.trans hb; exact g9
        obtain ⟨q10, e_q10⟩ := n_z9
        refine ⟨q10, e_q10, ?_⟩
        replace h := h q10 e_q10
        have t_q10 := t_z9 q10 e_q10
        refine ⟨hasO_of hW t_q10, ?_⟩
        intro z11 e_z11
        replace h := h z11 e_z11
        have t_z11 : ∀ b, z11 = some b → (b, Sum.inl 4) ∈ d := fun b hb => hW.2.1 12 _ b t_q10 (by rw [← e_z11]; exact hb)
        refine ⟨fun c => ?_, fun q12 c => ?_⟩
        · replace h := h.1 c
          refine ⟨hasO_of hW t_t0, ?_⟩
          intro z13 e_z13
          replace h := h z13 e_z13
          have t_z13 : ∀ b, z13 = some b → (b, Sum.inr (400, 0)) ∈ d := fun b hb => hW.2.1 5 _ b t_t0 (by rw [← e_z13]; exact hb)
          have n_z13 := wt_nn (f := 5) hW (by decide) t_t0 e_z13
          intro z14 e_z14
          replace h := h z14 e_z14
          refine ⟨hasO_of hW t_t0, ?_⟩
          intro z15 e_z15
          replace h := h z15 e_z15
          have t_z15 : ∀ b, z15 = some b → (b, Sum.inr (8, 0)) ∈ d := fun b hb => hW.2.1 6 _ b t_t0 (by rw [← e_z15]; exact hb)
          have n_z15 := wt_nn (f := 6) hW (by decide) t_t0 e_z15
          obtain ⟨q16, e_q16⟩ := n_z15
          refine ⟨q16, e_q16, ?_⟩
          replace h := h q16 e_q16
          have t_q16 := t_z15 q16 e_q16
          refine ⟨hasA_of hW t_q16, ?_⟩
          have hin := h.1
          refine ⟨h.1, ?_⟩
          replace h := h.2
          intro z17 e_z17
          replace h := h z17 e_z17
          intro z18 e_z18
          replace h := h z18 e_z18
          obtain ⟨q19, e_q19⟩ := n_z13
          refine ⟨q19, e_q19, ?_⟩
          replace h := h q19 e_q19
          have t_q19 := t_z13 q19 e_q19
          refine ⟨hasA_of hW t_q19, ?_⟩
          have hin := h.1
          refine ⟨h.1, ?_⟩
          replace h := h.2
          intro S20 e_S20
          replace h := h S20 e_S20
          replace hW := WT_a hW e_S20
          refine ⟨hasO_of hW t_t0, ?_⟩
          intro z21 e_z21
          replace h := h z21 e_z21
          have t_z21 : ∀ b, z21 = some b → (b, Sum.inr (8, 0)) ∈ d := fun b hb => hW.2.1 6 _ b t_t0 (by rw [← e_z21]; exact hb)
          have n_z21 := wt_nn (f := 6) hW (by decide) t_t0 e_z21
          obtain ⟨q22, e_q22⟩ := n_z21
          refine ⟨q22, e_q22, ?_⟩
          replace h := h q22 e_q22
          have t_q22 := t_z21 q22 e_q22
          refine ⟨hasA_of hW t_q22, ?_⟩
          have hin := h.1
          refine ⟨h.1, ?_⟩
          replace h := h.2
          intro z23 e_z23
          replace h := h z23 e_z23
          intro z24 e_z24
          replace h := h z24 e_z24
          refine ⟨hasA_of hW t_q22, ?_⟩
          have hin := h.1
          refine ⟨h.1, ?_⟩
          replace h := h.2
          intro S25 e_S25
          replace h := h S25 e_S25
          replace hW := WT_a hW e_S25
          exact hk _ _ hW h
        · replace h := h.2 q12 c
          have t_q12 := t_z11 q12 c
          refine ⟨hasO_of hW t_t0, ?_⟩
          refine ty_X1_report t_t0 t_q12 hW (fun S26 hW h => ?_) h
          refine ⟨hasO_of hW t_t0, ?_⟩
          refine ty_X1_work t_t0 hW (fun S27 hW h => ?_) h
          refine ⟨hasO_of hW t_q12, ?_⟩
          intro z28 e_z28
          replace h := h z28 e_z28
          have t_z28 : ∀ b, z28 = some b → (b, Sum.inl 9) ∈ d := fun b hb => hW.2.1 21 _ b t_q12 (by rw [← e_z28]; exact hb)
          obtain ⟨q29, e_q29, h9⟩ := h
          replace h := h9
          clear h9
          refine ⟨q29, e_q29, ?_⟩
          have t_q29 := t_z28 q29 e_q29
          refine ⟨hasO_of hW t_q29, ?_⟩
          intro z30 e_z30
          replace h := h z30 e_z30
          exact hk _ _ hW h
      · replace h := h.2 c
        exact hk _ _ hW h
def wT_X11_letter (t0 : Nat) (a0 : Int32) (a1 : Int32) (S : kS) (K : kS → Int32 → Prop) : Prop := ∀ z1 : Option Nat, z1 = S.2.1 72 t0 → ∀ q2 : Nat, z1 = some q2 → wT_X1_deliver q2 a0 a1 S (fun (S3 : kS) (r3 : Int32) => K S3 r3)
theorem ty_X11_letter {d : List (Nat × cK)} {t0 : Nat} {a0 : Int32} {a1 : Int32} (t_t0 : (t0, Sum.inl 11) ∈ d) {S : kS} {K K' : kS → Int32 → Prop} (hW : WT d S) (hk : ∀ S1 r1, WT d S1 → K S1 r1 → K' S1 r1) (h : wT_X11_letter t0 a0 a1 S K) : wp_X11_letter t0 a0 a1 S K' := by
  unfold wT_X11_letter at h
  unfold wp_X11_letter
  refine ⟨hasO_of hW t_t0, ?_⟩
  intro z1 e_z1
  replace h := h z1 e_z1
  have t_z1 : ∀ b, z1 = some b → (b, Sum.inl 1) ∈ d := fun b hb => hW.2.1 72 _ b t_t0 (by rw [← e_z1]; exact hb)
  have n_z1 := wt_nn (f := 72) hW (by decide) t_t0 e_z1
  obtain ⟨q2, e_q2⟩ := n_z1
  refine ⟨q2, e_q2, ?_⟩
  replace h := h q2 e_q2
  have t_q2 := t_z1 q2 e_q2
  refine ⟨hasO_of hW t_q2, ?_⟩
  refine ty_X1_deliver t_q2 hW (fun S3 r3 hW h => ?_) h
  exact hk _ _ hW h
def wT_X5_has (t0 : Nat) (a0 : Int32) (S : kS) (K : kS → Int32 → Prop) : Prop := ((a0 < 0 → K S 0) ∧ (¬ a0 < 0 → ∀ z2 : Int32, z2 = S.1 18 t0 → ((z2 ≤ a0 → K S 0) ∧ (¬ z2 ≤ a0 → K S 1))))
theorem ty_X5_has {d : List (Nat × cK)} {t0 : Nat} {a0 : Int32} (t_t0 : (t0, Sum.inl 5) ∈ d) {S : kS} {K K' : kS → Int32 → Prop} (hW : WT d S) (hk : ∀ S1 r1, WT d S1 → K S1 r1 → K' S1 r1) (h : wT_X5_has t0 a0 S K) : wp_X5_has t0 a0 S K' := by
  unfold wT_X5_has at h
  unfold wp_X5_has
  refine ⟨fun c => ?_, fun c => ?_⟩
  · replace h := h.1 c
    exact hk _ _ hW h
  · replace h := h.2 c
    refine ⟨hasO_of hW t_t0, ?_⟩
    intro z2 e_z2
    replace h := h z2 e_z2
    refine ⟨fun c => ?_, fun c => ?_⟩
    · replace h := h.1 c
      exact hk _ _ hW h
    · replace h := h.2 c
      exact hk _ _ hW h
def wT_X5_hasState (t0 : Nat) (a0 : Int32) (a1 : Int32) (S : kS) (K : kS → Int32 → Prop) : Prop := wT_X5_has t0 a0 S (fun (S1 : kS) (r1 : Int32) => ((r1 = 0 → K S1 0) ∧ (¬ r1 = 0 → ((a1 < 0 → K S1 0) ∧ (¬ a1 < 0 → ∀ z4 : Option Nat, z4 = S1.2.1 36 t0 → ∀ q5 : Nat, z4 = some q5 → inR a0 12 ∧ ∀ z6 : Int32, z6 = S1.2.2.1 q5 (ix a0) → ((z6 < a1 → K S1 0) ∧ (¬ z6 < a1 → K S1 1)))))))
theorem ty_X5_hasState {d : List (Nat × cK)} {t0 : Nat} {a0 : Int32} {a1 : Int32} (t_t0 : (t0, Sum.inl 5) ∈ d) {S : kS} {K K' : kS → Int32 → Prop} (hW : WT d S) (hk : ∀ S1 r1, WT d S1 → K S1 r1 → K' S1 r1) (h : wT_X5_hasState t0 a0 a1 S K) : wp_X5_hasState t0 a0 a1 S K' := by
  unfold wT_X5_hasState at h
  unfold wp_X5_hasState
  refine ⟨hasO_of hW t_t0, ?_⟩
  refine ty_X5_has t_t0 hW (fun S1 r1 hW h => ?_) h
  refine ⟨fun c => ?_, fun c => ?_⟩
  · replace h := h.1 c
    exact hk _ _ hW h
  · replace h := h.2 c
    refine ⟨fun c => ?_, fun c => ?_⟩
    · replace h := h.1 c
      exact hk _ _ hW h
    · replace h := h.2 c
      refine ⟨hasO_of hW t_t0, ?_⟩
      intro z4 e_z4
      replace h := h z4 e_z4
      have t_z4 : ∀ b, z4 = some b → (b, Sum.inr (12, 0)) ∈ d := fun b hb => hW.2.1 36 _ b t_t0 (by rw [← e_z4]; exact hb)
      have n_z4 := wt_nn (f := 36) hW (by decide) t_t0 e_z4
      obtain ⟨q5, e_q5⟩ := n_z4
      refine ⟨q5, e_q5, ?_⟩
      replace h := h q5 e_q5
      have t_q5 := t_z4 q5 e_q5
      refine ⟨hasA_of hW t_q5, ?_⟩
      have hin := h.1
      refine ⟨h.1, ?_⟩
      replace h := h.2
      intro z6 e_z6
      replace h := h z6 e_z6
      refine ⟨fun c => ?_, fun c => ?_⟩
      · replace h := h.1 c
        exact hk _ _ hW h
      · replace h := h.2 c
        exact hk _ _ hW h
def wT_X7_is (t0 : Nat) (a0 : Int32) (a1 : Int32) (S : kS) (K : kS → Int32 → Prop) : Prop := ∀ z1 : Option Nat, z1 = S.2.1 49 t0 → ∀ q2 : Nat, z1 = some q2 → inR a0 460 ∧ ∀ z3 : Int32, z3 = S.2.2.1 q2 (ix a0) → ∀ z4 : Int32, z4 = z3 &&& a1 → ((z4 = 0 → K S 0) ∧ (¬ z4 = 0 → K S 1))
theorem ty_X7_is {d : List (Nat × cK)} {t0 : Nat} {a0 : Int32} {a1 : Int32} (t_t0 : (t0, Sum.inl 7) ∈ d) {S : kS} {K K' : kS → Int32 → Prop} (hW : WT d S) (hk : ∀ S1 r1, WT d S1 → K S1 r1 → K' S1 r1) (h : wT_X7_is t0 a0 a1 S K) : wp_X7_is t0 a0 a1 S K' := by
  unfold wT_X7_is at h
  unfold wp_X7_is
  refine ⟨hasO_of hW t_t0, ?_⟩
  intro z1 e_z1
  replace h := h z1 e_z1
  have t_z1 : ∀ b, z1 = some b → (b, Sum.inr (460, 0)) ∈ d := fun b hb => hW.2.1 49 _ b t_t0 (by rw [← e_z1]; exact hb)
  have n_z1 := wt_nn (f := 49) hW (by decide) t_t0 e_z1
  obtain ⟨q2, e_q2⟩ := n_z1
  refine ⟨q2, e_q2, ?_⟩
  replace h := h q2 e_q2
  have t_q2 := t_z1 q2 e_q2
  refine ⟨hasA_of hW t_q2, ?_⟩
  have hin := h.1
  refine ⟨h.1, ?_⟩
  replace h := h.2
  intro z3 e_z3
  replace h := h z3 e_z3
  intro z4 e_z4
  replace h := h z4 e_z4
  refine ⟨fun c => ?_, fun c => ?_⟩
  · replace h := h.1 c
    exact hk _ _ hW h
  · replace h := h.2 c
    exact hk _ _ hW h
def wT_X7_leaveTo_57 (K : kS → Int32 → Prop) (k6 : Nat × Int32 × Int32 × Int32 × Int32 × kS → Prop) (x0 : Nat) (x2 : Int32) (x3 : Int32) (x5 : Int32) (x6 : Int32) (S : kS) : Prop := ∀ z12 : Option Nat, z12 = S.2.1 43 x0 → ∀ q13 : Nat, z12 = some q13 → inR x6 460 ∧ ∀ z14 : Int32, z14 = S.2.2.1 q13 (ix x6) → ∀ z15 : Int32, z15 = x5 + 1 → k6 (x0, x2, x3, z14, z15, S)
def wT_X7_leaveTo_6 (K : kS → Int32 → Prop) (k6 : Nat × Int32 × Int32 × Int32 × Int32 × kS → Prop) (x0 : Nat) (x2 : Int32) (x3 : Int32) (x4 : Int32) (x5 : Int32) (S : kS) : Prop := ((460 ≤ x5 → K S x3) ∧ (¬ 460 ≤ x5 → ((x4 < 0 → K S x3) ∧ (¬ x4 < 0 → ((x4 = x2 → K S x3) ∧ (¬ x4 = x2 → ¬ (3 : Int32) = 0 ∧ ∀ z4 : Int32, z4 = x4 / 3 → ¬ (3 : Int32) = 0 ∧ ∀ z5 : Int32, z5 = x4 - x4 / 3 * 3 → ((z5 = 2 → wT_X7_leaveTo_57 K k6 x0 x2 x3 x5 z4 S) ∧ (¬ z5 = 2 → wT_X7_is x0 z4 2 S (fun (S7 : kS) (r7 : Int32) => ((r7 = 0 → wT_X7_leaveTo_57 K k6 x0 x2 x3 x5 z4 S7) ∧ (¬ r7 = 0 → ∀ z9 : Option Nat, z9 = S7.2.1 47 x0 → ∀ q10 : Nat, z9 = some q10 → inR z4 460 ∧ ∀ z11 : Int32, z11 = S7.2.2.1 q10 (ix z4) → K S7 z11)))))))))))
def lT_X7_leaveTo_6 (K : kS → Int32 → Prop) (k6 : Nat × Int32 × Int32 × Int32 × Int32 × kS → Prop) (u : Nat × Int32 × Int32 × Int32 × Int32 × kS) : Prop := wT_X7_leaveTo_6 K k6 u.1 u.2.1 u.2.2.1 u.2.2.2.1 u.2.2.2.2.1 u.2.2.2.2.2
def wT_X7_leaveTo (t0 : Nat) (a0 : Int32) (a1 : Int32) (a2 : Int32) (S : kS) (K : kS → Int32 → Prop) : Prop := (∃ n9, it (lT_X7_leaveTo_6 K) n9 (t0, a1, a2, a0, 0, S))
theorem ty_X7_leaveTo_57 {d : List (Nat × cK)} {K K' : kS → Int32 → Prop} {k6 k6' : Nat × Int32 × Int32 × Int32 × Int32 × kS → Prop} (hk : ∀ S1 r1, WT d S1 → K S1 r1 → K' S1 r1) (hk6 : ∀ (x0 : Nat) (x2 : Int32) (x3 : Int32) (x4 : Int32) (x5 : Int32), ((x0, Sum.inl 7) ∈ d) → ∀ S : kS, WT d S → k6 (x0, x2, x3, x4, x5, S) → k6' (x0, x2, x3, x4, x5, S)) {x0 : Nat} {x2 : Int32} {x3 : Int32} {x5 : Int32} {x6 : Int32} (t_x0 : (x0, Sum.inl 7) ∈ d) {S : kS} (hW : WT d S) (h : wT_X7_leaveTo_57 K k6 x0 x2 x3 x5 x6 S) : wp_X7_leaveTo_57 K' k6' x0 x2 x3 x5 x6 S := by
  unfold wT_X7_leaveTo_57 at h
  unfold wp_X7_leaveTo_57
  refine ⟨hasO_of hW t_x0, ?_⟩
  intro z12 e_z12
  replace h := h z12 e_z12
  have t_z12 : ∀ b, z12 = some b → (b, Sum.inr (460, 0)) ∈ d := fun b hb => hW.2.1 43 _ b t_x0 (by rw [← e_z12]; exact hb)
  have n_z12 := wt_nn (f := 43) hW (by decide) t_x0 e_z12
  obtain ⟨q13, e_q13⟩ := n_z12
  refine ⟨q13, e_q13, ?_⟩
  replace h := h q13 e_q13
  have t_q13 := t_z12 q13 e_q13
  refine ⟨hasA_of hW t_q13, ?_⟩
  have hin := h.1
  refine ⟨h.1, ?_⟩
  replace h := h.2
  intro z14 e_z14
  replace h := h z14 e_z14
  intro z15 e_z15
  replace h := h z15 e_z15
  exact hk6 _ _ _ _ _ t_x0 _ hW h
theorem ty_X7_leaveTo_6 {d : List (Nat × cK)} {K K' : kS → Int32 → Prop} {k6 k6' : Nat × Int32 × Int32 × Int32 × Int32 × kS → Prop} (hk : ∀ S1 r1, WT d S1 → K S1 r1 → K' S1 r1) (hk6 : ∀ (x0 : Nat) (x2 : Int32) (x3 : Int32) (x4 : Int32) (x5 : Int32), ((x0, Sum.inl 7) ∈ d) → ∀ S : kS, WT d S → k6 (x0, x2, x3, x4, x5, S) → k6' (x0, x2, x3, x4, x5, S)) {x0 : Nat} {x2 : Int32} {x3 : Int32} {x4 : Int32} {x5 : Int32} (t_x0 : (x0, Sum.inl 7) ∈ d) {S : kS} (hW : WT d S) (h : wT_X7_leaveTo_6 K k6 x0 x2 x3 x4 x5 S) : wp_X7_leaveTo_6 K' k6' x0 x2 x3 x4 x5 S := by
  unfold wT_X7_leaveTo_6 at h
  unfold wp_X7_leaveTo_6
  refine ⟨fun c => ?_, fun c => ?_⟩
  · replace h := h.1 c
    exact hk _ _ hW h
  · replace h := h.2 c
    refine ⟨fun c => ?_, fun c => ?_⟩
    · replace h := h.1 c
      exact hk _ _ hW h
    · replace h := h.2 c
      refine ⟨fun c => ?_, fun c => ?_⟩
      · replace h := h.1 c
        exact hk _ _ hW h
      · replace h := h.2 c
        have hin := h.1
        refine ⟨h.1, ?_⟩
        replace h := h.2
        intro z4 e_z4
        replace h := h z4 e_z4
        have hin := h.1
        refine ⟨h.1, ?_⟩
        replace h := h.2
        intro z5 e_z5
        replace h := h z5 e_z5
        refine ⟨fun c => ?_, fun c => ?_⟩
        · replace h := h.1 c
          exact ty_X7_leaveTo_57 hk hk6 t_x0 hW h
        · replace h := h.2 c
          refine ⟨hasO_of hW t_x0, ?_⟩
          refine ty_X7_is t_x0 hW (fun S7 r7 hW h => ?_) h
          refine ⟨fun c => ?_, fun c => ?_⟩
          · replace h := h.1 c
            exact ty_X7_leaveTo_57 hk hk6 t_x0 hW h
          · replace h := h.2 c
            refine ⟨hasO_of hW t_x0, ?_⟩
            intro z9 e_z9
            replace h := h z9 e_z9
            have t_z9 : ∀ b, z9 = some b → (b, Sum.inr (460, 0)) ∈ d := fun b hb => hW.2.1 47 _ b t_x0 (by rw [← e_z9]; exact hb)
            have n_z9 := wt_nn (f := 47) hW (by decide) t_x0 e_z9
            obtain ⟨q10, e_q10⟩ := n_z9
            refine ⟨q10, e_q10, ?_⟩
            replace h := h q10 e_q10
            have t_q10 := t_z9 q10 e_q10
            refine ⟨hasA_of hW t_q10, ?_⟩
            have hin := h.1
            refine ⟨h.1, ?_⟩
            replace h := h.2
            intro z11 e_z11
            replace h := h z11 e_z11
            exact hk _ _ hW h
theorem tyl_X7_leaveTo_6 {d : List (Nat × cK)} {K K' : kS → Int32 → Prop} (hk : ∀ S1 r1, WT d S1 → K S1 r1 → K' S1 r1) : ∀ (n : Nat) (x0 : Nat) (x2 : Int32) (x3 : Int32) (x4 : Int32) (x5 : Int32), ((x0, Sum.inl 7) ∈ d) → ∀ S : kS, WT d S → it (lT_X7_leaveTo_6 K) n (x0, x2, x3, x4, x5, S) → it (ls_X7_leaveTo_6 K') n (x0, x2, x3, x4, x5, S) := by
  intro n
  induction n with
  | zero => exact fun _ _ _ _ _ _ _ _ h => h
  | succ n ih => exact fun x0 x2 x3 x4 x5 t_x0 S hW h => ty_X7_leaveTo_6 hk ih t_x0 hW h
theorem ty_X7_leaveTo {d : List (Nat × cK)} {t0 : Nat} {a0 : Int32} {a1 : Int32} {a2 : Int32} (t_t0 : (t0, Sum.inl 7) ∈ d) {S : kS} {K K' : kS → Int32 → Prop} (hW : WT d S) (hk : ∀ S1 r1, WT d S1 → K S1 r1 → K' S1 r1) (h : wT_X7_leaveTo t0 a0 a1 a2 S K) : wp_X7_leaveTo t0 a0 a1 a2 S K' := by
  unfold wT_X7_leaveTo at h
  unfold wp_X7_leaveTo
  obtain ⟨n9, h⟩ := h
  exact ⟨n9, tyl_X7_leaveTo_6 hk n9 _ _ _ _ _ t_t0 _ hW h⟩
def wT_X7_breakTo (t0 : Nat) (a0 : Int32) (a1 : Int32) (S : kS) (K : kS → Int32 → Prop) : Prop := ∀ z1 : Option Nat, z1 = S.2.1 50 t0 → ∀ q2 : Nat, z1 = some q2 → inR a1 460 ∧ ∀ z3 : Int32, z3 = S.2.2.1 q2 (ix a1) → ∀ z4 : Option Nat, z4 = S.2.1 52 t0 → ∀ q5 : Nat, z4 = some q5 → inR a1 460 ∧ ∀ z6 : Int32, z6 = S.2.2.1 q5 (ix a1) → wT_X7_leaveTo t0 a0 z3 z6 S (fun (S7 : kS) (r7 : Int32) => K S7 r7)
theorem ty_X7_breakTo {d : List (Nat × cK)} {t0 : Nat} {a0 : Int32} {a1 : Int32} (t_t0 : (t0, Sum.inl 7) ∈ d) {S : kS} {K K' : kS → Int32 → Prop} (hW : WT d S) (hk : ∀ S1 r1, WT d S1 → K S1 r1 → K' S1 r1) (h : wT_X7_breakTo t0 a0 a1 S K) : wp_X7_breakTo t0 a0 a1 S K' := by
  unfold wT_X7_breakTo at h
  unfold wp_X7_breakTo
  refine ⟨hasO_of hW t_t0, ?_⟩
  intro z1 e_z1
  replace h := h z1 e_z1
  have t_z1 : ∀ b, z1 = some b → (b, Sum.inr (460, 0)) ∈ d := fun b hb => hW.2.1 50 _ b t_t0 (by rw [← e_z1]; exact hb)
  have n_z1 := wt_nn (f := 50) hW (by decide) t_t0 e_z1
  obtain ⟨q2, e_q2⟩ := n_z1
  refine ⟨q2, e_q2, ?_⟩
  replace h := h q2 e_q2
  have t_q2 := t_z1 q2 e_q2
  refine ⟨hasA_of hW t_q2, ?_⟩
  have hin := h.1
  refine ⟨h.1, ?_⟩
  replace h := h.2
  intro z3 e_z3
  replace h := h z3 e_z3
  refine ⟨hasO_of hW t_t0, ?_⟩
  intro z4 e_z4
  replace h := h z4 e_z4
  have t_z4 : ∀ b, z4 = some b → (b, Sum.inr (460, 0)) ∈ d := fun b hb => hW.2.1 52 _ b t_t0 (by rw [← e_z4]; exact hb)
  have n_z4 := wt_nn (f := 52) hW (by decide) t_t0 e_z4
  obtain ⟨q5, e_q5⟩ := n_z4
  refine ⟨q5, e_q5, ?_⟩
  replace h := h q5 e_q5
  have t_q5 := t_z4 q5 e_q5
  refine ⟨hasA_of hW t_q5, ?_⟩
  have hin := h.1
  refine ⟨h.1, ?_⟩
  replace h := h.2
  intro z6 e_z6
  replace h := h z6 e_z6
  refine ⟨hasO_of hW t_t0, ?_⟩
  refine ty_X7_leaveTo t_t0 hW (fun S7 r7 hW h => ?_) h
  exact hk _ _ hW h
def wT_X7_cancelTo (t0 : Nat) (a0 : Int32) (a1 : Int32) (S : kS) (K : kS → Int32 → Prop) : Prop := wT_X7_leaveTo t0 a0 (-1) a1 S (fun (S1 : kS) (r1 : Int32) => K S1 r1)
theorem ty_X7_cancelTo {d : List (Nat × cK)} {t0 : Nat} {a0 : Int32} {a1 : Int32} (t_t0 : (t0, Sum.inl 7) ∈ d) {S : kS} {K K' : kS → Int32 → Prop} (hW : WT d S) (hk : ∀ S1 r1, WT d S1 → K S1 r1 → K' S1 r1) (h : wT_X7_cancelTo t0 a0 a1 S K) : wp_X7_cancelTo t0 a0 a1 S K' := by
  unfold wT_X7_cancelTo at h
  unfold wp_X7_cancelTo
  refine ⟨hasO_of hW t_t0, ?_⟩
  refine ty_X7_leaveTo t_t0 hW (fun S1 r1 hW h => ?_) h
  exact hk _ _ hW h
def wT_X7_continueTo (t0 : Nat) (a0 : Int32) (a1 : Int32) (S : kS) (K : kS → Int32 → Prop) : Prop := ∀ z1 : Option Nat, z1 = S.2.1 50 t0 → ∀ q2 : Nat, z1 = some q2 → inR a1 460 ∧ ∀ z3 : Int32, z3 = S.2.2.1 q2 (ix a1) → ∀ z4 : Option Nat, z4 = S.2.1 51 t0 → ∀ q5 : Nat, z4 = some q5 → inR a1 460 ∧ ∀ z6 : Int32, z6 = S.2.2.1 q5 (ix a1) → wT_X7_leaveTo t0 a0 z3 z6 S (fun (S7 : kS) (r7 : Int32) => K S7 r7)
theorem ty_X7_continueTo {d : List (Nat × cK)} {t0 : Nat} {a0 : Int32} {a1 : Int32} (t_t0 : (t0, Sum.inl 7) ∈ d) {S : kS} {K K' : kS → Int32 → Prop} (hW : WT d S) (hk : ∀ S1 r1, WT d S1 → K S1 r1 → K' S1 r1) (h : wT_X7_continueTo t0 a0 a1 S K) : wp_X7_continueTo t0 a0 a1 S K' := by
  unfold wT_X7_continueTo at h
  unfold wp_X7_continueTo
  refine ⟨hasO_of hW t_t0, ?_⟩
  intro z1 e_z1
  replace h := h z1 e_z1
  have t_z1 : ∀ b, z1 = some b → (b, Sum.inr (460, 0)) ∈ d := fun b hb => hW.2.1 50 _ b t_t0 (by rw [← e_z1]; exact hb)
  have n_z1 := wt_nn (f := 50) hW (by decide) t_t0 e_z1
  obtain ⟨q2, e_q2⟩ := n_z1
  refine ⟨q2, e_q2, ?_⟩
  replace h := h q2 e_q2
  have t_q2 := t_z1 q2 e_q2
  refine ⟨hasA_of hW t_q2, ?_⟩
  have hin := h.1
  refine ⟨h.1, ?_⟩
  replace h := h.2
  intro z3 e_z3
  replace h := h z3 e_z3
  refine ⟨hasO_of hW t_t0, ?_⟩
  intro z4 e_z4
  replace h := h z4 e_z4
  have t_z4 : ∀ b, z4 = some b → (b, Sum.inr (460, 0)) ∈ d := fun b hb => hW.2.1 51 _ b t_t0 (by rw [← e_z4]; exact hb)
  have n_z4 := wt_nn (f := 51) hW (by decide) t_t0 e_z4
  obtain ⟨q5, e_q5⟩ := n_z4
  refine ⟨q5, e_q5, ?_⟩
  replace h := h q5 e_q5
  have t_q5 := t_z4 q5 e_q5
  refine ⟨hasA_of hW t_q5, ?_⟩
  have hin := h.1
  refine ⟨h.1, ?_⟩
  replace h := h.2
  intro z6 e_z6
  replace h := h z6 e_z6
  refine ⟨hasO_of hW t_t0, ?_⟩
  refine ty_X7_leaveTo t_t0 hW (fun S7 r7 hW h => ?_) h
  exact hk _ _ hW h
def wT_X7_failureTo_71 (K : kS → Int32 → Prop) (k5 : Nat × Int32 × Int32 × Int32 × kS → Prop) (x0 : Nat) (x2 : Int32) (x4 : Int32) (x5 : Int32) (S : kS) : Prop := ∀ z18 : Option Nat, z18 = S.2.1 43 x0 → ∀ q19 : Nat, z18 = some q19 → inR x5 460 ∧ ∀ z20 : Int32, z20 = S.2.2.1 q19 (ix x5) → ∀ z21 : Int32, z21 = x4 + 1 → k5 (x0, x2, z20, z21, S)
def wT_X7_failureTo_46 (K : kS → Int32 → Prop) (k5 : Nat × Int32 × Int32 × Int32 × kS → Prop) (x0 : Nat) (x2 : Int32) (x3 : Int32) (x4 : Int32) (x5 : Int32) (S : kS) : Prop := ¬ (3 : Int32) = 0 ∧ ∀ z11 : Int32, z11 = x3 - x3 / 3 * 3 → ((z11 = 2 → wT_X7_failureTo_71 K k5 x0 x2 x4 x5 S) ∧ (¬ z11 = 2 → wT_X7_is x0 x5 2 S (fun (S13 : kS) (r13 : Int32) => ((r13 = 0 → wT_X7_failureTo_71 K k5 x0 x2 x4 x5 S13) ∧ (¬ r13 = 0 → ∀ z15 : Option Nat, z15 = S13.2.1 47 x0 → ∀ q16 : Nat, z15 = some q16 → inR x5 460 ∧ ∀ z17 : Int32, z17 = S13.2.2.1 q16 (ix x5) → K S13 z17)))))
def wT_X7_failureTo_5 (K : kS → Int32 → Prop) (k5 : Nat × Int32 × Int32 × Int32 × kS → Prop) (x0 : Nat) (x2 : Int32) (x3 : Int32) (x4 : Int32) (S : kS) : Prop := ((460 ≤ x4 → K S x2) ∧ (¬ 460 ≤ x4 → ((x3 < 0 → K S x2) ∧ (¬ x3 < 0 → ¬ (3 : Int32) = 0 ∧ ∀ z3 : Int32, z3 = x3 / 3 → ¬ (3 : Int32) = 0 ∧ ∀ z4 : Int32, z4 = x3 - x3 / 3 * 3 → ((¬ z4 = 0 → wT_X7_failureTo_46 K k5 x0 x2 x3 x4 z3 S) ∧ (z4 = 0 → wT_X7_is x0 z3 1 S (fun (S6 : kS) (r6 : Int32) => ((r6 = 0 → wT_X7_failureTo_46 K k5 x0 x2 x3 x4 z3 S6) ∧ (¬ r6 = 0 → ∀ z8 : Option Nat, z8 = S6.2.1 46 x0 → ∀ q9 : Nat, z8 = some q9 → inR z3 460 ∧ ∀ z10 : Int32, z10 = S6.2.2.1 q9 (ix z3) → K S6 z10)))))))))
def lT_X7_failureTo_5 (K : kS → Int32 → Prop) (k5 : Nat × Int32 × Int32 × Int32 × kS → Prop) (u : Nat × Int32 × Int32 × Int32 × kS) : Prop := wT_X7_failureTo_5 K k5 u.1 u.2.1 u.2.2.1 u.2.2.2.1 u.2.2.2.2
def wT_X7_failureTo (t0 : Nat) (a0 : Int32) (a1 : Int32) (S : kS) (K : kS → Int32 → Prop) : Prop := (∃ n9, it (lT_X7_failureTo_5 K) n9 (t0, a1, a0, 0, S))
theorem ty_X7_failureTo_71 {d : List (Nat × cK)} {K K' : kS → Int32 → Prop} {k5 k5' : Nat × Int32 × Int32 × Int32 × kS → Prop} (hk : ∀ S1 r1, WT d S1 → K S1 r1 → K' S1 r1) (hk5 : ∀ (x0 : Nat) (x2 : Int32) (x3 : Int32) (x4 : Int32), ((x0, Sum.inl 7) ∈ d) → ∀ S : kS, WT d S → k5 (x0, x2, x3, x4, S) → k5' (x0, x2, x3, x4, S)) {x0 : Nat} {x2 : Int32} {x4 : Int32} {x5 : Int32} (t_x0 : (x0, Sum.inl 7) ∈ d) {S : kS} (hW : WT d S) (h : wT_X7_failureTo_71 K k5 x0 x2 x4 x5 S) : wp_X7_failureTo_71 K' k5' x0 x2 x4 x5 S := by
  unfold wT_X7_failureTo_71 at h
  unfold wp_X7_failureTo_71
  refine ⟨hasO_of hW t_x0, ?_⟩
  intro z18 e_z18
  replace h := h z18 e_z18
  have t_z18 : ∀ b, z18 = some b → (b, Sum.inr (460, 0)) ∈ d := fun b hb => hW.2.1 43 _ b t_x0 (by rw [← e_z18]; exact hb)
  have n_z18 := wt_nn (f := 43) hW (by decide) t_x0 e_z18
  obtain ⟨q19, e_q19⟩ := n_z18
  refine ⟨q19, e_q19, ?_⟩
  replace h := h q19 e_q19
  have t_q19 := t_z18 q19 e_q19
  refine ⟨hasA_of hW t_q19, ?_⟩
  have hin := h.1
  refine ⟨h.1, ?_⟩
  replace h := h.2
  intro z20 e_z20
  replace h := h z20 e_z20
  intro z21 e_z21
  replace h := h z21 e_z21
  exact hk5 _ _ _ _ t_x0 _ hW h
theorem ty_X7_failureTo_46 {d : List (Nat × cK)} {K K' : kS → Int32 → Prop} {k5 k5' : Nat × Int32 × Int32 × Int32 × kS → Prop} (hk : ∀ S1 r1, WT d S1 → K S1 r1 → K' S1 r1) (hk5 : ∀ (x0 : Nat) (x2 : Int32) (x3 : Int32) (x4 : Int32), ((x0, Sum.inl 7) ∈ d) → ∀ S : kS, WT d S → k5 (x0, x2, x3, x4, S) → k5' (x0, x2, x3, x4, S)) {x0 : Nat} {x2 : Int32} {x3 : Int32} {x4 : Int32} {x5 : Int32} (t_x0 : (x0, Sum.inl 7) ∈ d) {S : kS} (hW : WT d S) (h : wT_X7_failureTo_46 K k5 x0 x2 x3 x4 x5 S) : wp_X7_failureTo_46 K' k5' x0 x2 x3 x4 x5 S := by
  unfold wT_X7_failureTo_46 at h
  unfold wp_X7_failureTo_46
  have hin := h.1
  refine ⟨h.1, ?_⟩
  replace h := h.2
  intro z11 e_z11
  replace h := h z11 e_z11
  refine ⟨fun c => ?_, fun c => ?_⟩
  · replace h := h.1 c
    exact ty_X7_failureTo_71 hk hk5 t_x0 hW h
  · replace h := h.2 c
    refine ⟨hasO_of hW t_x0, ?_⟩
    refine ty_X7_is t_x0 hW (fun S13 r13 hW h => ?_) h
    refine ⟨fun c => ?_, fun c => ?_⟩
    · replace h := h.1 c
      exact ty_X7_failureTo_71 hk hk5 t_x0 hW h
    · replace h := h.2 c
      refine ⟨hasO_of hW t_x0, ?_⟩
      intro z15 e_z15
      replace h := h z15 e_z15
      have t_z15 : ∀ b, z15 = some b → (b, Sum.inr (460, 0)) ∈ d := fun b hb => hW.2.1 47 _ b t_x0 (by rw [← e_z15]; exact hb)
      have n_z15 := wt_nn (f := 47) hW (by decide) t_x0 e_z15
      obtain ⟨q16, e_q16⟩ := n_z15
      refine ⟨q16, e_q16, ?_⟩
      replace h := h q16 e_q16
      have t_q16 := t_z15 q16 e_q16
      refine ⟨hasA_of hW t_q16, ?_⟩
      have hin := h.1
      refine ⟨h.1, ?_⟩
      replace h := h.2
      intro z17 e_z17
      replace h := h z17 e_z17
      exact hk _ _ hW h
theorem ty_X7_failureTo_5 {d : List (Nat × cK)} {K K' : kS → Int32 → Prop} {k5 k5' : Nat × Int32 × Int32 × Int32 × kS → Prop} (hk : ∀ S1 r1, WT d S1 → K S1 r1 → K' S1 r1) (hk5 : ∀ (x0 : Nat) (x2 : Int32) (x3 : Int32) (x4 : Int32), ((x0, Sum.inl 7) ∈ d) → ∀ S : kS, WT d S → k5 (x0, x2, x3, x4, S) → k5' (x0, x2, x3, x4, S)) {x0 : Nat} {x2 : Int32} {x3 : Int32} {x4 : Int32} (t_x0 : (x0, Sum.inl 7) ∈ d) {S : kS} (hW : WT d S) (h : wT_X7_failureTo_5 K k5 x0 x2 x3 x4 S) : wp_X7_failureTo_5 K' k5' x0 x2 x3 x4 S := by
  unfold wT_X7_failureTo_5 at h
  unfold wp_X7_failureTo_5
  refine ⟨fun c => ?_, fun c => ?_⟩
  · replace h := h.1 c
    exact hk _ _ hW h
  · replace h := h.2 c
    refine ⟨fun c => ?_, fun c => ?_⟩
    · replace h := h.1 c
      exact hk _ _ hW h
    · replace h := h.2 c
      have hin := h.1
      refine ⟨h.1, ?_⟩
      replace h := h.2
      intro z3 e_z3
      replace h := h z3 e_z3
      have hin := h.1
      refine ⟨h.1, ?_⟩
      replace h := h.2
      intro z4 e_z4
      replace h := h z4 e_z4
      refine ⟨fun c => ?_, fun c => ?_⟩
      · replace h := h.1 c
        exact ty_X7_failureTo_46 hk hk5 t_x0 hW h
      · replace h := h.2 c
        refine ⟨hasO_of hW t_x0, ?_⟩
        refine ty_X7_is t_x0 hW (fun S6 r6 hW h => ?_) h
        refine ⟨fun c => ?_, fun c => ?_⟩
        · replace h := h.1 c
          exact ty_X7_failureTo_46 hk hk5 t_x0 hW h
        · replace h := h.2 c
          refine ⟨hasO_of hW t_x0, ?_⟩
          intro z8 e_z8
          replace h := h z8 e_z8
          have t_z8 : ∀ b, z8 = some b → (b, Sum.inr (460, 0)) ∈ d := fun b hb => hW.2.1 46 _ b t_x0 (by rw [← e_z8]; exact hb)
          have n_z8 := wt_nn (f := 46) hW (by decide) t_x0 e_z8
          obtain ⟨q9, e_q9⟩ := n_z8
          refine ⟨q9, e_q9, ?_⟩
          replace h := h q9 e_q9
          have t_q9 := t_z8 q9 e_q9
          refine ⟨hasA_of hW t_q9, ?_⟩
          have hin := h.1
          refine ⟨h.1, ?_⟩
          replace h := h.2
          intro z10 e_z10
          replace h := h z10 e_z10
          exact hk _ _ hW h
theorem tyl_X7_failureTo_5 {d : List (Nat × cK)} {K K' : kS → Int32 → Prop} (hk : ∀ S1 r1, WT d S1 → K S1 r1 → K' S1 r1) : ∀ (n : Nat) (x0 : Nat) (x2 : Int32) (x3 : Int32) (x4 : Int32), ((x0, Sum.inl 7) ∈ d) → ∀ S : kS, WT d S → it (lT_X7_failureTo_5 K) n (x0, x2, x3, x4, S) → it (ls_X7_failureTo_5 K') n (x0, x2, x3, x4, S) := by
  intro n
  induction n with
  | zero => exact fun _ _ _ _ _ _ _ h => h
  | succ n ih => exact fun x0 x2 x3 x4 t_x0 S hW h => ty_X7_failureTo_5 hk ih t_x0 hW h
theorem ty_X7_failureTo {d : List (Nat × cK)} {t0 : Nat} {a0 : Int32} {a1 : Int32} (t_t0 : (t0, Sum.inl 7) ∈ d) {S : kS} {K K' : kS → Int32 → Prop} (hW : WT d S) (hk : ∀ S1 r1, WT d S1 → K S1 r1 → K' S1 r1) (h : wT_X7_failureTo t0 a0 a1 S K) : wp_X7_failureTo t0 a0 a1 S K' := by
  unfold wT_X7_failureTo at h
  unfold wp_X7_failureTo
  obtain ⟨n9, h⟩ := h
  exact ⟨n9, tyl_X7_failureTo_5 hk n9 _ _ _ _ t_t0 _ hW h⟩
def wT_X8_reach (t0 : Nat) (a0 : Int32) (S : kS) (K : kS → Prop) : Prop := ((a0 < 0 → K S) ∧ (¬ a0 < 0 → ∀ z2 : Option Nat, z2 = S.2.1 55 t0 → ∃ q3 : Nat, z2 = some q3 ∧ ∀ z4 : Int32, z4 = S.1 17 q3 → ((z4 ≤ a0 → K S) ∧ (¬ z4 ≤ a0 → ∀ z6 : Option Nat, z6 = S.2.1 53 t0 → ∀ q7 : Nat, z6 = some q7 → inR a0 8064 ∧ ∀ z8 : Int32, z8 = S.2.2.1 q7 (ix a0) → ∀ z9 : Int32, z9 = S.1 27 t0 → ((z8 = z9 → K S) ∧ (¬ z8 = z9 → ∀ z11 : Option Nat, z11 = S.2.1 53 t0 → ∀ z12 : Int32, z12 = S.1 27 t0 → ∀ q13 : Nat, z11 = some q13 → inR a0 8064 ∧ ∀ S14 : kS, S14 = cA S q13 (ix a0) z12 → ∀ z15 : Option Nat, z15 = S14.2.1 54 t0 → ∀ z16 : Int32, z16 = S14.1 26 t0 → ∀ q17 : Nat, z15 = some q17 → inR z16 8064 ∧ ∀ S18 : kS, S18 = cA S14 q17 (ix z16) a0 → ∀ z19 : Int32, z19 = S18.1 26 t0 → ∀ z20 : Int32, z20 = z19 + 1 → ∀ S21 : kS, S21 = cI S18 26 t0 z20 → K S21))))))
theorem ty_X8_reach {d : List (Nat × cK)} {t0 : Nat} {a0 : Int32} (t_t0 : (t0, Sum.inl 8) ∈ d) {S : kS} {K K' : kS → Prop} (hW : WT d S) (hk : ∀ S1, WT d S1 → K S1 → K' S1) (h : wT_X8_reach t0 a0 S K) : wp_X8_reach t0 a0 S K' := by
  unfold wT_X8_reach at h
  unfold wp_X8_reach
  refine ⟨fun c => ?_, fun c => ?_⟩
  · replace h := h.1 c
    exact hk _ hW h
  · replace h := h.2 c
    refine ⟨hasO_of hW t_t0, ?_⟩
    intro z2 e_z2
    replace h := h z2 e_z2
    have t_z2 : ∀ b, z2 = some b → (b, Sum.inl 5) ∈ d := fun b hb => hW.2.1 55 _ b t_t0 (by rw [← e_z2]; exact hb)
    obtain ⟨q3, e_q3, h9⟩ := h
    replace h := h9
    clear h9
    refine ⟨q3, e_q3, ?_⟩
    have t_q3 := t_z2 q3 e_q3
    refine ⟨hasO_of hW t_q3, ?_⟩
    intro z4 e_z4
    replace h := h z4 e_z4
    refine ⟨fun c => ?_, fun c => ?_⟩
    · replace h := h.1 c
      exact hk _ hW h
    · replace h := h.2 c
      refine ⟨hasO_of hW t_t0, ?_⟩
      intro z6 e_z6
      replace h := h z6 e_z6
      have t_z6 : ∀ b, z6 = some b → (b, Sum.inr (8064, 0)) ∈ d := fun b hb => hW.2.1 53 _ b t_t0 (by rw [← e_z6]; exact hb)
      have n_z6 := wt_nn (f := 53) hW (by decide) t_t0 e_z6
      obtain ⟨q7, e_q7⟩ := n_z6
      refine ⟨q7, e_q7, ?_⟩
      replace h := h q7 e_q7
      have t_q7 := t_z6 q7 e_q7
      refine ⟨hasA_of hW t_q7, ?_⟩
      have hin := h.1
      refine ⟨h.1, ?_⟩
      replace h := h.2
      intro z8 e_z8
      replace h := h z8 e_z8
      refine ⟨hasO_of hW t_t0, ?_⟩
      intro z9 e_z9
      replace h := h z9 e_z9
      refine ⟨fun c => ?_, fun c => ?_⟩
      · replace h := h.1 c
        exact hk _ hW h
      · replace h := h.2 c
        refine ⟨hasO_of hW t_t0, ?_⟩
        intro z11 e_z11
        replace h := h z11 e_z11
        have t_z11 : ∀ b, z11 = some b → (b, Sum.inr (8064, 0)) ∈ d := fun b hb => hW.2.1 53 _ b t_t0 (by rw [← e_z11]; exact hb)
        have n_z11 := wt_nn (f := 53) hW (by decide) t_t0 e_z11
        refine ⟨hasO_of hW t_t0, ?_⟩
        intro z12 e_z12
        replace h := h z12 e_z12
        obtain ⟨q13, e_q13⟩ := n_z11
        refine ⟨q13, e_q13, ?_⟩
        replace h := h q13 e_q13
        have t_q13 := t_z11 q13 e_q13
        refine ⟨hasA_of hW t_q13, ?_⟩
        have hin := h.1
        refine ⟨h.1, ?_⟩
        replace h := h.2
        intro S14 e_S14
        replace h := h S14 e_S14
        replace hW := WT_a hW e_S14
        refine ⟨hasO_of hW t_t0, ?_⟩
        intro z15 e_z15
        replace h := h z15 e_z15
        have t_z15 : ∀ b, z15 = some b → (b, Sum.inr (8064, 0)) ∈ d := fun b hb => hW.2.1 54 _ b t_t0 (by rw [← e_z15]; exact hb)
        have n_z15 := wt_nn (f := 54) hW (by decide) t_t0 e_z15
        refine ⟨hasO_of hW t_t0, ?_⟩
        intro z16 e_z16
        replace h := h z16 e_z16
        obtain ⟨q17, e_q17⟩ := n_z15
        refine ⟨q17, e_q17, ?_⟩
        replace h := h q17 e_q17
        have t_q17 := t_z15 q17 e_q17
        refine ⟨hasA_of hW t_q17, ?_⟩
        have hin := h.1
        refine ⟨h.1, ?_⟩
        replace h := h.2
        intro S18 e_S18
        replace h := h S18 e_S18
        replace hW := WT_a hW e_S18
        refine ⟨hasO_of hW t_t0, ?_⟩
        intro z19 e_z19
        replace h := h z19 e_z19
        intro z20 e_z20
        replace h := h z20 e_z20
        refine ⟨hasO_of hW t_t0, ?_⟩
        intro S21 e_S21
        replace h := h S21 e_S21
        replace hW := WT_i hW e_S21
        exact hk _ hW h
def wT_X8_followFinish_82 (K : kS → Prop) (x0 : Nat) (x1 : Int32) (x3 : Nat) (x4 : Int32) (x5 : Int32) (S : kS) : Prop := ((x5 < 0 → K S) ∧ (¬ x5 < 0 → wT_X7_is x3 x1 8 S (fun (S25 : kS) (r25 : Int32) => ((r25 = 0 → K S25) ∧ (¬ r25 = 0 → wT_X7_continueTo x3 x4 x5 S25 (fun (S27 : kS) (r27 : Int32) => wT_X8_reach x0 r27 S27 (fun (S28 : kS) => K S28)))))))
def wT_X8_followFinish (t0 : Nat) (a0 : Int32) (a1 : Int32) (S : kS) (K : kS → Prop) : Prop := ∀ z1 : Option Nat, z1 = S.2.1 55 t0 → ∃ q2 : Nat, z1 = some q2 ∧ ∀ z3 : Option Nat, z3 = S.2.1 31 q2 → ∀ q4 : Nat, z3 = some q4 → ∀ z5 : Option Nat, z5 = S.2.1 43 q4 → ∀ q6 : Nat, z5 = some q6 → inR a0 460 ∧ ∀ z7 : Int32, z7 = S.2.2.1 q6 (ix a0) → ∀ z8 : Option Nat, z8 = S.2.1 45 q4 → ∀ q9 : Nat, z8 = some q9 → inR a0 460 ∧ ∀ z10 : Int32, z10 = S.2.2.1 q9 (ix a0) → ∀ z11 : Option Nat, z11 = S.2.1 48 q4 → ∀ q12 : Nat, z11 = some q12 → inR a0 460 ∧ ∀ z13 : Int32, z13 = S.2.2.1 q12 (ix a0) → wT_X8_reach t0 z13 S (fun (S14 : kS) => wT_X7_failureTo q4 z7 a1 S14 (fun (S15 : kS) (r15 : Int32) => wT_X8_reach t0 r15 S15 (fun (S16 : kS) => wT_X7_cancelTo q4 z7 a1 S16 (fun (S17 : kS) (r17 : Int32) => wT_X8_reach t0 r17 S17 (fun (S18 : kS) => ((z10 < 0 → wT_X8_followFinish_82 K t0 a0 q4 z7 z10 S18) ∧ (¬ z10 < 0 → wT_X7_is q4 a0 4 S18 (fun (S20 : kS) (r20 : Int32) => ((r20 = 0 → wT_X8_followFinish_82 K t0 a0 q4 z7 z10 S20) ∧ (¬ r20 = 0 → wT_X7_breakTo q4 z7 z10 S20 (fun (S22 : kS) (r22 : Int32) => wT_X8_reach t0 r22 S22 (fun (S23 : kS) => wT_X8_followFinish_82 K t0 a0 q4 z7 z10 S23))))))))))))
theorem ty_X8_followFinish_82 {d : List (Nat × cK)} {K K' : kS → Prop} (hk : ∀ S1, WT d S1 → K S1 → K' S1) {x0 : Nat} {x1 : Int32} {x3 : Nat} {x4 : Int32} {x5 : Int32} (t_x0 : (x0, Sum.inl 8) ∈ d) (t_x3 : (x3, Sum.inl 7) ∈ d) {S : kS} (hW : WT d S) (h : wT_X8_followFinish_82 K x0 x1 x3 x4 x5 S) : wp_X8_followFinish_82 K' x0 x1 x3 x4 x5 S := by
  unfold wT_X8_followFinish_82 at h
  unfold wp_X8_followFinish_82
  refine ⟨fun c => ?_, fun c => ?_⟩
  · replace h := h.1 c
    exact hk _ hW h
  · replace h := h.2 c
    refine ⟨hasO_of hW t_x3, ?_⟩
    refine ty_X7_is t_x3 hW (fun S25 r25 hW h => ?_) h
    refine ⟨fun c => ?_, fun c => ?_⟩
    · replace h := h.1 c
      exact hk _ hW h
    · replace h := h.2 c
      refine ⟨hasO_of hW t_x3, ?_⟩
      refine ty_X7_continueTo t_x3 hW (fun S27 r27 hW h => ?_) h
      refine ⟨hasO_of hW t_x0, ?_⟩
      refine ty_X8_reach t_x0 hW (fun S28 hW h => ?_) h
      exact hk _ hW h
theorem ty_X8_followFinish {d : List (Nat × cK)} {t0 : Nat} {a0 : Int32} {a1 : Int32} (t_t0 : (t0, Sum.inl 8) ∈ d) {S : kS} {K K' : kS → Prop} (hW : WT d S) (hk : ∀ S1, WT d S1 → K S1 → K' S1) (h : wT_X8_followFinish t0 a0 a1 S K) : wp_X8_followFinish t0 a0 a1 S K' := by
  unfold wT_X8_followFinish at h
  unfold wp_X8_followFinish
  refine ⟨hasO_of hW t_t0, ?_⟩
  intro z1 e_z1
  replace h := h z1 e_z1
  have t_z1 : ∀ b, z1 = some b → (b, Sum.inl 5) ∈ d := fun b hb => hW.2.1 55 _ b t_t0 (by rw [← e_z1]; exact hb)
  obtain ⟨q2, e_q2, h9⟩ := h
  replace h := h9
  clear h9
  refine ⟨q2, e_q2, ?_⟩
  have t_q2 := t_z1 q2 e_q2
  refine ⟨hasO_of hW t_q2, ?_⟩
  intro z3 e_z3
  replace h := h z3 e_z3
  have t_z3 : ∀ b, z3 = some b → (b, Sum.inl 7) ∈ d := fun b hb => hW.2.1 31 _ b t_q2 (by rw [← e_z3]; exact hb)
  have n_z3 := wt_nn (f := 31) hW (by decide) t_q2 e_z3
  obtain ⟨q4, e_q4⟩ := n_z3
  refine ⟨q4, e_q4, ?_⟩
  replace h := h q4 e_q4
  have t_q4 := t_z3 q4 e_q4
  refine ⟨hasO_of hW t_q4, ?_⟩
  intro z5 e_z5
  replace h := h z5 e_z5
  have t_z5 : ∀ b, z5 = some b → (b, Sum.inr (460, 0)) ∈ d := fun b hb => hW.2.1 43 _ b t_q4 (by rw [← e_z5]; exact hb)
  have n_z5 := wt_nn (f := 43) hW (by decide) t_q4 e_z5
  obtain ⟨q6, e_q6⟩ := n_z5
  refine ⟨q6, e_q6, ?_⟩
  replace h := h q6 e_q6
  have t_q6 := t_z5 q6 e_q6
  refine ⟨hasA_of hW t_q6, ?_⟩
  have hin := h.1
  refine ⟨h.1, ?_⟩
  replace h := h.2
  intro z7 e_z7
  replace h := h z7 e_z7
  refine ⟨hasO_of hW t_q4, ?_⟩
  intro z8 e_z8
  replace h := h z8 e_z8
  have t_z8 : ∀ b, z8 = some b → (b, Sum.inr (460, 0)) ∈ d := fun b hb => hW.2.1 45 _ b t_q4 (by rw [← e_z8]; exact hb)
  have n_z8 := wt_nn (f := 45) hW (by decide) t_q4 e_z8
  obtain ⟨q9, e_q9⟩ := n_z8
  refine ⟨q9, e_q9, ?_⟩
  replace h := h q9 e_q9
  have t_q9 := t_z8 q9 e_q9
  refine ⟨hasA_of hW t_q9, ?_⟩
  have hin := h.1
  refine ⟨h.1, ?_⟩
  replace h := h.2
  intro z10 e_z10
  replace h := h z10 e_z10
  refine ⟨hasO_of hW t_q4, ?_⟩
  intro z11 e_z11
  replace h := h z11 e_z11
  have t_z11 : ∀ b, z11 = some b → (b, Sum.inr (460, 0)) ∈ d := fun b hb => hW.2.1 48 _ b t_q4 (by rw [← e_z11]; exact hb)
  have n_z11 := wt_nn (f := 48) hW (by decide) t_q4 e_z11
  obtain ⟨q12, e_q12⟩ := n_z11
  refine ⟨q12, e_q12, ?_⟩
  replace h := h q12 e_q12
  have t_q12 := t_z11 q12 e_q12
  refine ⟨hasA_of hW t_q12, ?_⟩
  have hin := h.1
  refine ⟨h.1, ?_⟩
  replace h := h.2
  intro z13 e_z13
  replace h := h z13 e_z13
  refine ⟨hasO_of hW t_t0, ?_⟩
  refine ty_X8_reach t_t0 hW (fun S14 hW h => ?_) h
  refine ⟨hasO_of hW t_q4, ?_⟩
  refine ty_X7_failureTo t_q4 hW (fun S15 r15 hW h => ?_) h
  refine ⟨hasO_of hW t_t0, ?_⟩
  refine ty_X8_reach t_t0 hW (fun S16 hW h => ?_) h
  refine ⟨hasO_of hW t_q4, ?_⟩
  refine ty_X7_cancelTo t_q4 hW (fun S17 r17 hW h => ?_) h
  refine ⟨hasO_of hW t_t0, ?_⟩
  refine ty_X8_reach t_t0 hW (fun S18 hW h => ?_) h
  refine ⟨fun c => ?_, fun c => ?_⟩
  · replace h := h.1 c
    exact ty_X8_followFinish_82 hk t_t0 t_q4 hW h
  · replace h := h.2 c
    refine ⟨hasO_of hW t_q4, ?_⟩
    refine ty_X7_is t_q4 hW (fun S20 r20 hW h => ?_) h
    refine ⟨fun c => ?_, fun c => ?_⟩
    · replace h := h.1 c
      exact ty_X8_followFinish_82 hk t_t0 t_q4 hW h
    · replace h := h.2 c
      refine ⟨hasO_of hW t_q4, ?_⟩
      refine ty_X7_breakTo t_q4 hW (fun S22 r22 hW h => ?_) h
      refine ⟨hasO_of hW t_t0, ?_⟩
      refine ty_X8_reach t_t0 hW (fun S23 hW h => ?_) h
      exact ty_X8_followFinish_82 hk t_t0 t_q4 hW h
