
def wT_X8_follow_341 (K : kS → Prop) (y0 : Nat) (y1 : Int32) (S : kS) : Prop := wT_X8_reach y0 y1 S (fun (S126 : kS) => K S126)
def wT_X8_follow (t0 : Nat) (a0 : Int32) (a1 : Int32) (S : kS) (K : kS → Prop) : Prop := ∀ z1 : Option Nat, z1 = S.2.1 55 t0 → ∃ q2 : Nat, z1 = some q2 ∧ ∀ z3 : Option Nat, z3 = S.2.1 31 q2 → ∀ z4 : Option Nat, z4 = S.2.1 55 t0 → ∃ q5 : Nat, z4 = some q5 ∧ ∀ z6 : Option Nat, z6 = S.2.1 30 q5 → ∀ q7 : Nat, z6 = some q7 → inR a1 8064 ∧ ∀ z8 : Int32, z8 = S.2.2.1 q7 (ix a1) → ∀ z9 : Option Nat, z9 = S.2.1 55 t0 → ∃ q10 : Nat, z9 = some q10 ∧ ∀ z11 : Option Nat, z11 = S.2.1 29 q10 → ∀ q12 : Nat, z11 = some q12 → inR a1 8064 ∧ ∀ z13 : Int32, z13 = S.2.2.1 q12 (ix a1) → ∀ z14 : Option Nat, z14 = S.2.1 55 t0 → ∃ q15 : Nat, z14 = some q15 ∧ ∀ z16 : Option Nat, z16 = S.2.1 33 q15 → ∀ q17 : Nat, z16 = some q17 → inR a0 12 ∧ ∀ z18 : Int32, z18 = S.2.2.1 q17 (ix a0) → ∀ z19 : Option Nat, z19 = S.2.1 55 t0 → ∃ q20 : Nat, z19 = some q20 ∧ ∀ z21 : Option Nat, z21 = S.2.1 28 q20 → ∀ q22 : Nat, z21 = some q22 → inR a1 8064 ∧ ∀ z23 : Int32, z23 = S.2.2.1 q22 (ix a1) → ((z23 = 9 → ∀ q25 : Nat, z3 = some q25 → wT_X7_failureTo q25 z8 z18 S (fun (S26 : kS) (r26 : Int32) => wT_X8_reach t0 r26 S26 (fun (S27 : kS) => ∀ z28 : Int32, z28 = a1 + 1 → wT_X8_reach t0 z28 S27 (fun (S29 : kS) => K S29)))) ∧ (¬ z23 = 9 → ((z23 = 10 → ∀ q31 : Nat, z3 = some q31 → wT_X7_failureTo q31 z8 z18 S (fun (S32 : kS) (r32 : Int32) => wT_X8_reach t0 r32 S32 (fun (S33 : kS) => ∀ z34 : Int32, z34 = a1 + 1 → wT_X8_reach t0 z34 S33 (fun (S35 : kS) => K S35)))) ∧ (¬ z23 = 10 → ((z23 = 11 → ∀ z37 : Int32, z37 = a1 + 1 → wT_X8_reach t0 z37 S (fun (S38 : kS) => K S38)) ∧ (¬ z23 = 11 → ((z23 = 12 → ∀ z40 : Int32, z40 = a1 + 1 → wT_X8_reach t0 z40 S (fun (S41 : kS) => K S41)) ∧ (¬ z23 = 12 → ((z23 = 13 → ∀ z43 : Int32, z43 = a1 + 1 → wT_X8_reach t0 z43 S (fun (S44 : kS) => K S44)) ∧ (¬ z23 = 13 → ((z23 = 14 → ∀ z46 : Int32, z46 = a1 + 1 → wT_X8_reach t0 z46 S (fun (S47 : kS) => K S47)) ∧ (¬ z23 = 14 → ((z23 = 15 → wT_X8_reach t0 z13 S (fun (S49 : kS) => ∀ z50 : Int32, z50 = a1 + 1 → wT_X8_reach t0 z50 S49 (fun (S51 : kS) => K S51))) ∧ (¬ z23 = 15 → ((z23 = 16 → wT_X8_reach t0 z13 S (fun (S53 : kS) => K S53)) ∧ (¬ z23 = 16 → ((z23 = 17 → ∀ q55 : Nat, z3 = some q55 → wT_X7_breakTo q55 z8 z13 S (fun (S56 : kS) (r56 : Int32) => wT_X8_reach t0 r56 S56 (fun (S57 : kS) => K S57))) ∧ (¬ z23 = 17 → ((z23 = 18 → ∀ q59 : Nat, z3 = some q59 → wT_X7_continueTo q59 z8 z13 S (fun (S60 : kS) (r60 : Int32) => wT_X8_reach t0 r60 S60 (fun (S61 : kS) => K S61))) ∧ (¬ z23 = 18 → ((z23 = 19 → ∀ q63 : Nat, z3 = some q63 → wT_X7_cancelTo q63 z8 z18 S (fun (S64 : kS) (r64 : Int32) => wT_X8_reach t0 r64 S64 (fun (S65 : kS) => K S65))) ∧ (¬ z23 = 19 → ((z23 = 20 → ∀ q67 : Nat, z3 = some q67 → wT_X7_failureTo q67 z8 z18 S (fun (S68 : kS) (r68 : Int32) => wT_X8_reach t0 r68 S68 (fun (S69 : kS) => K S69))) ∧ (¬ z23 = 20 → ((z23 = 21 → ∀ q71 : Nat, z3 = some q71 → wT_X7_is q71 z13 2 S (fun (S72 : kS) (r72 : Int32) => ((r72 = 0 → ∀ z74 : Option Nat, z74 = S72.2.1 48 q71 → ∀ q75 : Nat, z74 = some q75 → inR z13 460 ∧ ∀ z76 : Int32, z76 = S72.2.2.1 q75 (ix z13) → wT_X8_follow_341 K t0 z76 S72) ∧ (¬ r72 = 0 → ∀ z77 : Option Nat, z77 = S72.2.1 47 q71 → ∀ q78 : Nat, z77 = some q78 → inR z13 460 ∧ ∀ z79 : Int32, z79 = S72.2.2.1 q78 (ix z13) → wT_X8_follow_341 K t0 z79 S72)))) ∧ (¬ z23 = 21 → ((z23 = 22 → ∀ z81 : Int32, z81 = a1 + 1 → wT_X8_reach t0 z81 S (fun (S82 : kS) => K S82)) ∧ (¬ z23 = 22 → ((z23 = 23 → wT_X8_followFinish t0 z13 z18 S (fun (S84 : kS) => K S84)) ∧ (¬ z23 = 23 → ((z23 = 24 → K S) ∧ (¬ z23 = 24 → ((z23 = 25 → ∀ z87 : Int32, z87 = a1 + 1 → wT_X8_reach t0 z87 S (fun (S88 : kS) => K S88)) ∧ (¬ z23 = 25 → ((z23 = 26 → ∀ z90 : Int32, z90 = a1 + 1 → wT_X8_reach t0 z90 S (fun (S91 : kS) => K S91)) ∧ (¬ z23 = 26 → ((z23 = 27 → ∀ z93 : Int32, z93 = a1 + 1 → wT_X8_reach t0 z93 S (fun (S94 : kS) => K S94)) ∧ (¬ z23 = 27 → ((z23 = 28 → ∀ z96 : Int32, z96 = a1 + 1 → wT_X8_reach t0 z96 S (fun (S97 : kS) => K S97)) ∧ (¬ z23 = 28 → ((z23 = 29 → ∀ z99 : Int32, z99 = a1 + 1 → wT_X8_reach t0 z99 S (fun (S100 : kS) => K S100)) ∧ (¬ z23 = 29 → ((z23 = 30 → ∀ z102 : Int32, z102 = a1 + 1 → wT_X8_reach t0 z102 S (fun (S103 : kS) => K S103)) ∧ (¬ z23 = 30 → ((z23 = 31 → ∀ z105 : Int32, z105 = a1 + 1 → wT_X8_reach t0 z105 S (fun (S106 : kS) => K S106)) ∧ (¬ z23 = 31 → ((z23 = 32 → ∀ z108 : Int32, z108 = a1 + 1 → wT_X8_reach t0 z108 S (fun (S109 : kS) => K S109)) ∧ (¬ z23 = 32 → ((z23 = 33 → ∀ z111 : Int32, z111 = a1 + 1 → wT_X8_reach t0 z111 S (fun (S112 : kS) => K S112)) ∧ (¬ z23 = 33 → ((z23 = 34 → ∀ z114 : Int32, z114 = a1 + 1 → wT_X8_reach t0 z114 S (fun (S115 : kS) => K S115)) ∧ (¬ z23 = 34 → ((z23 = 35 → ∀ q117 : Nat, z3 = some q117 → wT_X7_cancelTo q117 z8 z18 S (fun (S118 : kS) (r118 : Int32) => wT_X8_reach t0 r118 S118 (fun (S119 : kS) => wT_X7_failureTo q117 z8 z18 S119 (fun (S120 : kS) (r120 : Int32) => wT_X8_reach t0 r120 S120 (fun (S121 : kS) => ∀ z122 : Int32, z122 = a1 + 1 → wT_X8_reach t0 z122 S121 (fun (S123 : kS) => K S123)))))) ∧ (¬ z23 = 35 → ∀ z124 : Int32, z124 = a1 + 1 → wT_X8_reach t0 z124 S (fun (S125 : kS) => K S125)))))))))))))))))))))))))))))))))))))))))))))))))))))))
theorem ty_X8_follow_341 {d : List (Nat × cK)} {K K' : kS → Prop} (hk : ∀ S1, WT d S1 → K S1 → K' S1) {y0 : Nat} {y1 : Int32} (t_y0 : (y0, Sum.inl 8) ∈ d) {S : kS} (hW : WT d S) (h : wT_X8_follow_341 K y0 y1 S) : wp_X8_follow_341 K' y0 y1 S := by
  unfold wT_X8_follow_341 at h
  unfold wp_X8_follow_341
  refine ⟨hasO_of hW t_y0, ?_⟩
  refine ty_X8_reach t_y0 hW (fun S126 hW h => ?_) h
  exact hk _ hW h
theorem ty_X8_follow {d : List (Nat × cK)} {t0 : Nat} {a0 : Int32} {a1 : Int32} (t_t0 : (t0, Sum.inl 8) ∈ d) {S : kS} {K K' : kS → Prop} (hW : WT d S) (hk : ∀ S1, WT d S1 → K S1 → K' S1) (h : wT_X8_follow t0 a0 a1 S K) : wp_X8_follow t0 a0 a1 S K' := by
  unfold wT_X8_follow at h
  unfold wp_X8_follow
  refine ⟨hasO_of hW t_t0, ?_⟩
  intro z1 e_z1
  replace h := h z1 e_z1
  have t_z1 : ∀ b, z1 = some b → (b, Sum.inl 5) ∈ d := fun b hb => hW.2.1 55 _ b t_t0 (by rw [← e_z1]; exact hb)
  obtain ⟨q2, e_q2, h9⟩ := h
  replace h := h9
  clear h9
  refine ⟨q2, e_q2, ?_⟩
  have t_q2 := t_z1 q2 e_q2
  refine ⟨hasO_of hW t_q2, ?_⟩
  intro z3 e_z3
  replace h := h z3 e_z3
  have t_z3 : ∀ b, z3 = some b → (b, Sum.inl 7) ∈ d := fun b hb => hW.2.1 31 _ b t_q2 (by rw [← e_z3]; exact hb)
  have n_z3 := wt_nn (f := 31) hW (by decide) t_q2 e_z3
  refine ⟨hasO_of hW t_t0, ?_⟩
  intro z4 e_z4
  replace h := h z4 e_z4
  have t_z4 : ∀ b, z4 = some b → (b, Sum.inl 5) ∈ d := fun b hb => hW.2.1 55 _ b t_t0 (by rw [← e_z4]; exact hb)
  obtain ⟨q5, e_q5, h9⟩ := h
  replace h := h9
  clear h9
  refine ⟨q5, e_q5, ?_⟩
  have t_q5 := t_z4 q5 e_q5
  refine ⟨hasO_of hW t_q5, ?_⟩
  intro z6 e_z6
  replace h := h z6 e_z6
  have t_z6 : ∀ b, z6 = some b → (b, Sum.inr (8064, 0)) ∈ d := fun b hb => hW.2.1 30 _ b t_q5 (by rw [← e_z6]; exact hb)
  have n_z6 := wt_nn (f := 30) hW (by decide) t_q5 e_z6
  obtain ⟨q7, e_q7⟩ := n_z6
  refine ⟨q7, e_q7, ?_⟩
  replace h := h q7 e_q7
  have t_q7 := t_z6 q7 e_q7
  refine ⟨hasA_of hW t_q7, ?_⟩
  have hin := h.1
  refine ⟨h.1, ?_⟩
  replace h := h.2
  intro z8 e_z8
  replace h := h z8 e_z8
  refine ⟨hasO_of hW t_t0, ?_⟩
  intro z9 e_z9
  replace h := h z9 e_z9
  have t_z9 : ∀ b, z9 = some b → (b, Sum.inl 5) ∈ d := fun b hb => hW.2.1 55 _ b t_t0 (by rw [← e_z9]; exact hb)
  obtain ⟨q10, e_q10, h9⟩ := h
  replace h := h9
  clear h9
  refine ⟨q10, e_q10, ?_⟩
  have t_q10 := t_z9 q10 e_q10
  refine ⟨hasO_of hW t_q10, ?_⟩
  intro z11 e_z11
  replace h := h z11 e_z11
  have t_z11 : ∀ b, z11 = some b → (b, Sum.inr (8064, 0)) ∈ d := fun b hb => hW.2.1 29 _ b t_q10 (by rw [← e_z11]; exact hb)
  have n_z11 := wt_nn (f := 29) hW (by decide) t_q10 e_z11
  obtain ⟨q12, e_q12⟩ := n_z11
  refine ⟨q12, e_q12, ?_⟩
  replace h := h q12 e_q12
  have t_q12 := t_z11 q12 e_q12
  refine ⟨hasA_of hW t_q12, ?_⟩
  have hin := h.1
  refine ⟨h.1, ?_⟩
  replace h := h.2
  intro z13 e_z13
  replace h := h z13 e_z13
  refine ⟨hasO_of hW t_t0, ?_⟩
  intro z14 e_z14
  replace h := h z14 e_z14
  have t_z14 : ∀ b, z14 = some b → (b, Sum.inl 5) ∈ d := fun b hb => hW.2.1 55 _ b t_t0 (by rw [← e_z14]; exact hb)
  obtain ⟨q15, e_q15, h9⟩ := h
  replace h := h9
  clear h9
  refine ⟨q15, e_q15, ?_⟩
  have t_q15 := t_z14 q15 e_q15
  refine ⟨hasO_of hW t_q15, ?_⟩
  intro z16 e_z16
  replace h := h z16 e_z16
  have t_z16 : ∀ b, z16 = some b → (b, Sum.inr (12, 0)) ∈ d := fun b hb => hW.2.1 33 _ b t_q15 (by rw [← e_z16]; exact hb)
  have n_z16 := wt_nn (f := 33) hW (by decide) t_q15 e_z16
  obtain ⟨q17, e_q17⟩ := n_z16
  refine ⟨q17, e_q17, ?_⟩
  replace h := h q17 e_q17
  have t_q17 := t_z16 q17 e_q17
  refine ⟨hasA_of hW t_q17, ?_⟩
  have hin := h.1
  refine ⟨h.1, ?_⟩
  replace h := h.2
  intro z18 e_z18
  replace h := h z18 e_z18
  refine ⟨hasO_of hW t_t0, ?_⟩
  intro z19 e_z19
  replace h := h z19 e_z19
  have t_z19 : ∀ b, z19 = some b → (b, Sum.inl 5) ∈ d := fun b hb => hW.2.1 55 _ b t_t0 (by rw [← e_z19]; exact hb)
  obtain ⟨q20, e_q20, h9⟩ := h
  replace h := h9
  clear h9
  refine ⟨q20, e_q20, ?_⟩
  have t_q20 := t_z19 q20 e_q20
  refine ⟨hasO_of hW t_q20, ?_⟩
  intro z21 e_z21
  replace h := h z21 e_z21
  have t_z21 : ∀ b, z21 = some b → (b, Sum.inr (8064, 0)) ∈ d := fun b hb => hW.2.1 28 _ b t_q20 (by rw [← e_z21]; exact hb)
  have n_z21 := wt_nn (f := 28) hW (by decide) t_q20 e_z21
  obtain ⟨q22, e_q22⟩ := n_z21
  refine ⟨q22, e_q22, ?_⟩
  replace h := h q22 e_q22
  have t_q22 := t_z21 q22 e_q22
  refine ⟨hasA_of hW t_q22, ?_⟩
  have hin := h.1
  refine ⟨h.1, ?_⟩
  replace h := h.2
  intro z23 e_z23
  replace h := h z23 e_z23
  refine ⟨fun c => ?_, fun c => ?_⟩
  · replace h := h.1 c
    obtain ⟨q25, e_q25⟩ := n_z3
    refine ⟨q25, e_q25, ?_⟩
    replace h := h q25 e_q25
    have t_q25 := t_z3 q25 e_q25
    refine ⟨hasO_of hW t_q25, ?_⟩
    refine ty_X7_failureTo t_q25 hW (fun S26 r26 hW h => ?_) h
    refine ⟨hasO_of hW t_t0, ?_⟩
    refine ty_X8_reach t_t0 hW (fun S27 hW h => ?_) h
    intro z28 e_z28
    replace h := h z28 e_z28
    refine ⟨hasO_of hW t_t0, ?_⟩
    refine ty_X8_reach t_t0 hW (fun S29 hW h => ?_) h
    exact hk _ hW h
  · replace h := h.2 c
    refine ⟨fun c => ?_, fun c => ?_⟩
    · replace h := h.1 c
      obtain ⟨q31, e_q31⟩ := n_z3
      refine ⟨q31, e_q31, ?_⟩
      replace h := h q31 e_q31
      have t_q31 := t_z3 q31 e_q31
      refine ⟨hasO_of hW t_q31, ?_⟩
      refine ty_X7_failureTo t_q31 hW (fun S32 r32 hW h => ?_) h
      refine ⟨hasO_of hW t_t0, ?_⟩
      refine ty_X8_reach t_t0 hW (fun S33 hW h => ?_) h
      intro z34 e_z34
      replace h := h z34 e_z34
      refine ⟨hasO_of hW t_t0, ?_⟩
      refine ty_X8_reach t_t0 hW (fun S35 hW h => ?_) h
      exact hk _ hW h
    · replace h := h.2 c
      refine ⟨fun c => ?_, fun c => ?_⟩
      · replace h := h.1 c
        intro z37 e_z37
        replace h := h z37 e_z37
        refine ⟨hasO_of hW t_t0, ?_⟩
        refine ty_X8_reach t_t0 hW (fun S38 hW h => ?_) h
        exact hk _ hW h
      · replace h := h.2 c
        refine ⟨fun c => ?_, fun c => ?_⟩
        · replace h := h.1 c
          intro z40 e_z40
          replace h := h z40 e_z40
          refine ⟨hasO_of hW t_t0, ?_⟩
          refine ty_X8_reach t_t0 hW (fun S41 hW h => ?_) h
          exact hk _ hW h
        · replace h := h.2 c
          refine ⟨fun c => ?_, fun c => ?_⟩
          · replace h := h.1 c
            intro z43 e_z43
            replace h := h z43 e_z43
            refine ⟨hasO_of hW t_t0, ?_⟩
            refine ty_X8_reach t_t0 hW (fun S44 hW h => ?_) h
            exact hk _ hW h
          · replace h := h.2 c
            refine ⟨fun c => ?_, fun c => ?_⟩
            · replace h := h.1 c
              intro z46 e_z46
              replace h := h z46 e_z46
              refine ⟨hasO_of hW t_t0, ?_⟩
              refine ty_X8_reach t_t0 hW (fun S47 hW h => ?_) h
              exact hk _ hW h
            · replace h := h.2 c
              refine ⟨fun c => ?_, fun c => ?_⟩
              · replace h := h.1 c
                refine ⟨hasO_of hW t_t0, ?_⟩
                refine ty_X8_reach t_t0 hW (fun S49 hW h => ?_) h
                intro z50 e_z50
                replace h := h z50 e_z50
                refine ⟨hasO_of hW t_t0, ?_⟩
                refine ty_X8_reach t_t0 hW (fun S51 hW h => ?_) h
                exact hk _ hW h
              · replace h := h.2 c
                refine ⟨fun c => ?_, fun c => ?_⟩
                · replace h := h.1 c
                  refine ⟨hasO_of hW t_t0, ?_⟩
                  refine ty_X8_reach t_t0 hW (fun S53 hW h => ?_) h
                  exact hk _ hW h
                · replace h := h.2 c
                  refine ⟨fun c => ?_, fun c => ?_⟩
                  · replace h := h.1 c
                    obtain ⟨q55, e_q55⟩ := n_z3
                    refine ⟨q55, e_q55, ?_⟩
                    replace h := h q55 e_q55
                    have t_q55 := t_z3 q55 e_q55
                    refine ⟨hasO_of hW t_q55, ?_⟩
                    refine ty_X7_breakTo t_q55 hW (fun S56 r56 hW h => ?_) h
                    refine ⟨hasO_of hW t_t0, ?_⟩
                    refine ty_X8_reach t_t0 hW (fun S57 hW h => ?_) h
                    exact hk _ hW h
                  · replace h := h.2 c
                    refine ⟨fun c => ?_, fun c => ?_⟩
                    · replace h := h.1 c
                      obtain ⟨q59, e_q59⟩ := n_z3
                      refine ⟨q59, e_q59, ?_⟩
                      replace h := h q59 e_q59
                      have t_q59 := t_z3 q59 e_q59
                      refine ⟨hasO_of hW t_q59, ?_⟩
                      refine ty_X7_continueTo t_q59 hW (fun S60 r60 hW h => ?_) h
                      refine ⟨hasO_of hW t_t0, ?_⟩
                      refine ty_X8_reach t_t0 hW (fun S61 hW h => ?_) h
                      exact hk _ hW h
                    · replace h := h.2 c
                      refine ⟨fun c => ?_, fun c => ?_⟩
                      · replace h := h.1 c
                        obtain ⟨q63, e_q63⟩ := n_z3
                        refine ⟨q63, e_q63, ?_⟩
                        replace h := h q63 e_q63
                        have t_q63 := t_z3 q63 e_q63
                        refine ⟨hasO_of hW t_q63, ?_⟩
                        refine ty_X7_cancelTo t_q63 hW (fun S64 r64 hW h => ?_) h
                        refine ⟨hasO_of hW t_t0, ?_⟩
                        refine ty_X8_reach t_t0 hW (fun S65 hW h => ?_) h
                        exact hk _ hW h
                      · replace h := h.2 c
                        refine ⟨fun c => ?_, fun c => ?_⟩
                        · replace h := h.1 c
                          obtain ⟨q67, e_q67⟩ := n_z3
                          refine ⟨q67, e_q67, ?_⟩
                          replace h := h q67 e_q67
                          have t_q67 := t_z3 q67 e_q67
                          refine ⟨hasO_of hW t_q67, ?_⟩
                          refine ty_X7_failureTo t_q67 hW (fun S68 r68 hW h => ?_) h
                          refine ⟨hasO_of hW t_t0, ?_⟩
                          refine ty_X8_reach t_t0 hW (fun S69 hW h => ?_) h
                          exact hk _ hW h
                        · replace h := h.2 c
                          refine ⟨fun c => ?_, fun c => ?_⟩
                          · replace h := h.1 c
                            obtain ⟨q71, e_q71⟩ := n_z3
                            refine ⟨q71, e_q71, ?_⟩
                            replace h := h q71 e_q71
                            have t_q71 := t_z3 q71 e_q71
                            refine ⟨hasO_of hW t_q71, ?_⟩
                            refine ty_X7_is t_q71 hW (fun S72 r72 hW h => ?_) h
                            refine ⟨fun c => ?_, fun c => ?_⟩
                            · replace h := h.1 c
                              refine ⟨hasO_of hW t_q71, ?_⟩
                              intro z74 e_z74
                              replace h := h z74 e_z74
                              have t_z74 : ∀ b, z74 = some b → (b, Sum.inr (460, 0)) ∈ d := fun b hb => hW.2.1 48 _ b t_q71 (by rw [← e_z74]; exact hb)
                              have n_z74 := wt_nn (f := 48) hW (by decide) t_q71 e_z74
                              obtain ⟨q75, e_q75⟩ := n_z74
                              refine ⟨q75, e_q75, ?_⟩
                              replace h := h q75 e_q75
                              have t_q75 := t_z74 q75 e_q75
                              refine ⟨hasA_of hW t_q75, ?_⟩
                              have hin := h.1
                              refine ⟨h.1, ?_⟩
                              replace h := h.2
                              intro z76 e_z76
                              replace h := h z76 e_z76
                              exact ty_X8_follow_341 hk t_t0 hW h
                            · replace h := h.2 c
                              refine ⟨hasO_of hW t_q71, ?_⟩
                              intro z77 e_z77
                              replace h := h z77 e_z77
                              have t_z77 : ∀ b, z77 = some b → (b, Sum.inr (460, 0)) ∈ d := fun b hb => hW.2.1 47 _ b t_q71 (by rw [← e_z77]; exact hb)
                              have n_z77 := wt_nn (f := 47) hW (by decide) t_q71 e_z77
                              obtain ⟨q78, e_q78⟩ := n_z77
                              refine ⟨q78, e_q78, ?_⟩
                              replace h := h q78 e_q78
                              have t_q78 := t_z77 q78 e_q78
                              refine ⟨hasA_of hW t_q78, ?_⟩
                              have hin := h.1
                              refine ⟨h.1, ?_⟩
                              replace h := h.2
                              intro z79 e_z79
                              replace h := h z79 e_z79
                              exact ty_X8_follow_341 hk t_t0 hW h
                          · replace h := h.2 c
                            refine ⟨fun c => ?_, fun c => ?_⟩
                            · replace h := h.1 c
                              intro z81 e_z81
                              replace h := h z81 e_z81
                              refine ⟨hasO_of hW t_t0, ?_⟩
                              refine ty_X8_reach t_t0 hW (fun S82 hW h => ?_) h
                              exact hk _ hW h
                            · replace h := h.2 c
                              refine ⟨fun c => ?_, fun c => ?_⟩
                              · replace h := h.1 c
                                refine ⟨hasO_of hW t_t0, ?_⟩
                                refine ty_X8_followFinish t_t0 hW (fun S84 hW h => ?_) h
                                exact hk _ hW h
                              · replace h := h.2 c
                                refine ⟨fun c => ?_, fun c => ?_⟩
                                · replace h := h.1 c
                                  exact hk _ hW h
                                · replace h := h.2 c
                                  refine ⟨fun c => ?_, fun c => ?_⟩
                                  · replace h := h.1 c
                                    intro z87 e_z87
                                    replace h := h z87 e_z87
                                    refine ⟨hasO_of hW t_t0, ?_⟩
                                    refine ty_X8_reach t_t0 hW (fun S88 hW h => ?_) h
                                    exact hk _ hW h
                                  · replace h := h.2 c
                                    refine ⟨fun c => ?_, fun c => ?_⟩
                                    · replace h := h.1 c
                                      intro z90 e_z90
                                      replace h := h z90 e_z90
                                      refine ⟨hasO_of hW t_t0, ?_⟩
                                      refine ty_X8_reach t_t0 hW (fun S91 hW h => ?_) h
                                      exact hk _ hW h
                                    · replace h := h.2 c
                                      refine ⟨fun c => ?_, fun c => ?_⟩
                                      · replace h := h.1 c
                                        intro z93 e_z93
                                        replace h := h z93 e_z93
                                        refine ⟨hasO_of hW t_t0, ?_⟩
                                        refine ty_X8_reach t_t0 hW (fun S94 hW h => ?_) h
                                        exact hk _ hW h
                                      · replace h := h.2 c
                                        refine ⟨fun c => ?_, fun c => ?_⟩
                                        · replace h := h.1 c
                                          intro z96 e_z96
                                          replace h := h z96 e_z96
                                          refine ⟨hasO_of hW t_t0, ?_⟩
                                          refine ty_X8_reach t_t0 hW (fun S97 hW h => ?_) h
                                          exact hk _ hW h
                                        · replace h := h.2 c
                                          refine ⟨fun c => ?_, fun c => ?_⟩
                                          · replace h := h.1 c
                                            intro z99 e_z99
                                            replace h := h z99 e_z99
                                            refine ⟨hasO_of hW t_t0, ?_⟩
                                            refine ty_X8_reach t_t0 hW (fun S100 hW h => ?_) h
                                            exact hk _ hW h
                                          · replace h := h.2 c
                                            refine ⟨fun c => ?_, fun c => ?_⟩
                                            · replace h := h.1 c
                                              intro z102 e_z102
                                              replace h := h z102 e_z102
                                              refine ⟨hasO_of hW t_t0, ?_⟩
                                              refine ty_X8_reach t_t0 hW (fun S103 hW h => ?_) h
                                              exact hk _ hW h
                                            · replace h := h.2 c
                                              refine ⟨fun c => ?_, fun c => ?_⟩
                                              · replace h := h.1 c
                                                intro z105 e_z105
                                                replace h := h z105 e_z105
                                                refine ⟨hasO_of hW t_t0, ?_⟩
                                                refine ty_X8_reach t_t0 hW (fun S106 hW h => ?_) h
                                                exact hk _ hW h
                                              · replace h := h.2 c
                                                refine ⟨fun c => ?_, fun c => ?_⟩
                                                · replace h := h.1 c
                                                  intro z108 e_z108
                                                  replace h := h z108 e_z108
                                                  refine ⟨hasO_of hW t_t0, ?_⟩
                                                  refine ty_X8_reach t_t0 hW (fun S109 hW h => ?_) h
                                                  exact hk _ hW h
                                                · replace h := h.2 c
                                                  refine ⟨fun c => ?_, fun c => ?_⟩
                                                  · replace h := h.1 c
                                                    intro z111 e_z111
                                                    replace h := h z111 e_z111
                                                    refine ⟨hasO_of hW t_t0, ?_⟩
                                                    refine ty_X8_reach t_t0 hW (fun S112 hW h => ?_) h
                                                    exact hk _ hW h
                                                  · replace h := h.2 c
                                                    refine ⟨fun c => ?_, fun c => ?_⟩
                                                    · replace h := h.1 c
                                                      intro z114 e_z114
                                                      replace h := h z114 e_z114
                                                      refine ⟨hasO_of hW t_t0, ?_⟩
                                                      refine ty_X8_reach t_t0 hW (fun S115 hW h => ?_) h
                                                      exact hk _ hW h
                                                    · replace h := h.2 c
                                                      refine ⟨fun c => ?_, fun c => ?_⟩
                                                      · replace h := h.1 c
                                                        obtain ⟨q117, e_q117⟩ := n_z3
                                                        refine ⟨q117, e_q117, ?_⟩
                                                        replace h := h q117 e_q117
                                                        have t_q117 := t_z3 q117 e_q117
                                                        refine ⟨hasO_of hW t_q117, ?_⟩
                                                        refine ty_X7_cancelTo t_q117 hW (fun S118 r118 hW h => ?_) h
                                                        refine ⟨hasO_of hW t_t0, ?_⟩
                                                        refine ty_X8_reach t_t0 hW (fun S119 hW h => ?_) h
                                                        refine ⟨hasO_of hW t_q117, ?_⟩
                                                        refine ty_X7_failureTo t_q117 hW (fun S120 r120 hW h => ?_) h
                                                        refine ⟨hasO_of hW t_t0, ?_⟩
                                                        refine ty_X8_reach t_t0 hW (fun S121 hW h => ?_) h
                                                        intro z122 e_z122
                                                        replace h := h z122 e_z122
                                                        refine ⟨hasO_of hW t_t0, ?_⟩
                                                        refine ty_X8_reach t_t0 hW (fun S123 hW h => ?_) h
                                                        exact hk _ hW h
                                                      · replace h := h.2 c
                                                        intro z124 e_z124
                                                        replace h := h z124 e_z124
                                                        refine ⟨hasO_of hW t_t0, ?_⟩
                                                        refine ty_X8_reach t_t0 hW (fun S125 hW h => ?_) h
                                                        exact hk _ hW h
def wT_X8_set (t0 : Nat) (a0 : Nat) (a1 : Int32) (a2 : Int32) (S : kS) (K : kS → Prop) : Prop := ∀ S1 : kS, S1 = cR S 55 t0 (some a0) → ∀ z2 : Int32, z2 = S1.1 27 t0 → ∀ z3 : Int32, z3 = z2 + 1 → ∀ S4 : kS, S4 = cI S1 27 t0 z3 → ∀ S5 : kS, S5 = cI S4 26 t0 0 → ((¬ a2 = 0 → ∀ z7 : Option Nat, z7 = S5.2.1 55 t0 → ∃ q8 : Nat, z7 = some q8 ∧ ∀ z9 : Option Nat, z9 = S5.2.1 37 q8 → ∀ z10 : Int32, z10 = a1 * 16 → ∀ z11 : Int32, z11 = z10 + a2 → ∀ z12 : Int32, z12 = z11 - 1 → ∀ q13 : Nat, z9 = some q13 → inR z12 192 ∧ ∀ z14 : Int32, z14 = S5.2.2.1 q13 (ix z12) → wT_X8_follow t0 a1 z14 S5 (fun (S15 : kS) => K S15)) ∧ (a2 = 0 → ∀ z16 : Option Nat, z16 = S5.2.1 55 t0 → ∃ q17 : Nat, z16 = some q17 ∧ ∀ z18 : Option Nat, z18 = S5.2.1 32 q17 → ∀ q19 : Nat, z18 = some q19 → inR a1 12 ∧ ∀ z20 : Int32, z20 = S5.2.2.1 q19 (ix a1) → wT_X8_reach t0 z20 S5 (fun (S21 : kS) => K S21)))
theorem ty_X8_set {d : List (Nat × cK)} {t0 : Nat} {a0 : Nat} {a1 : Int32} {a2 : Int32} (t_t0 : (t0, Sum.inl 8) ∈ d) (t_a0 : (a0, Sum.inl 5) ∈ d) {S : kS} {K K' : kS → Prop} (hW : WT d S) (hk : ∀ S1, WT d S1 → K S1 → K' S1) (h : wT_X8_set t0 a0 a1 a2 S K) : wp_X8_set t0 a0 a1 a2 S K' := by
  unfold wT_X8_set at h
  unfold wp_X8_set
  refine ⟨hasO_of hW t_t0, ?_⟩
  intro S1 e_S1
  replace h := h S1 e_S1
  replace hW := WT_r hW e_S1 (fun b hb => by cases hb; exact t_a0) (by decide)
  refine ⟨hasO_of hW t_t0, ?_⟩
  intro z2 e_z2
  replace h := h z2 e_z2
  intro z3 e_z3
  replace h := h z3 e_z3
  refine ⟨hasO_of hW t_t0, ?_⟩
  intro S4 e_S4
  replace h := h S4 e_S4
  replace hW := WT_i hW e_S4
  refine ⟨hasO_of hW t_t0, ?_⟩
  intro S5 e_S5
  replace h := h S5 e_S5
  replace hW := WT_i hW e_S5
  refine ⟨fun c => ?_, fun c => ?_⟩
  · replace h := h.1 c
    refine ⟨hasO_of hW t_t0, ?_⟩
    intro z7 e_z7
    replace h := h z7 e_z7
    have t_z7 : ∀ b, z7 = some b → (b, Sum.inl 5) ∈ d := fun b hb => hW.2.1 55 _ b t_t0 (by rw [← e_z7]; exact hb)
    obtain ⟨q8, e_q8, h9⟩ := h
    replace h := h9
    clear h9
    refine ⟨q8, e_q8, ?_⟩
    have t_q8 := t_z7 q8 e_q8
    refine ⟨hasO_of hW t_q8, ?_⟩
    intro z9 e_z9
    replace h := h z9 e_z9
    have t_z9 : ∀ b, z9 = some b → (b, Sum.inr (192, 0)) ∈ d := fun b hb => hW.2.1 37 _ b t_q8 (by rw [← e_z9]; exact hb)
    have n_z9 := wt_nn (f := 37) hW (by decide) t_q8 e_z9
    intro z10 e_z10
    replace h := h z10 e_z10
    intro z11 e_z11
    replace h := h z11 e_z11
    intro z12 e_z12
    replace h := h z12 e_z12
    obtain ⟨q13, e_q13⟩ := n_z9
    refine ⟨q13, e_q13, ?_⟩
    replace h := h q13 e_q13
    have t_q13 := t_z9 q13 e_q13
    refine ⟨hasA_of hW t_q13, ?_⟩
    have hin := h.1
    refine ⟨h.1, ?_⟩
    replace h := h.2
    intro z14 e_z14
    replace h := h z14 e_z14
    refine ⟨hasO_of hW t_t0, ?_⟩
    refine ty_X8_follow t_t0 hW (fun S15 hW h => ?_) h
    exact hk _ hW h
  · replace h := h.2 c
    refine ⟨hasO_of hW t_t0, ?_⟩
    intro z16 e_z16
    replace h := h z16 e_z16
    have t_z16 : ∀ b, z16 = some b → (b, Sum.inl 5) ∈ d := fun b hb => hW.2.1 55 _ b t_t0 (by rw [← e_z16]; exact hb)
    obtain ⟨q17, e_q17, h9⟩ := h
    replace h := h9
    clear h9
    refine ⟨q17, e_q17, ?_⟩
    have t_q17 := t_z16 q17 e_q17
    refine ⟨hasO_of hW t_q17, ?_⟩
    intro z18 e_z18
    replace h := h z18 e_z18
    have t_z18 : ∀ b, z18 = some b → (b, Sum.inr (12, 0)) ∈ d := fun b hb => hW.2.1 32 _ b t_q17 (by rw [← e_z18]; exact hb)
    have n_z18 := wt_nn (f := 32) hW (by decide) t_q17 e_z18
    obtain ⟨q19, e_q19⟩ := n_z18
    refine ⟨q19, e_q19, ?_⟩
    replace h := h q19 e_q19
    have t_q19 := t_z18 q19 e_q19
    refine ⟨hasA_of hW t_q19, ?_⟩
    have hin := h.1
    refine ⟨h.1, ?_⟩
    replace h := h.2
    intro z20 e_z20
    replace h := h z20 e_z20
    refine ⟨hasO_of hW t_t0, ?_⟩
    refine ty_X8_reach t_t0 hW (fun S21 hW h => ?_) h
    exact hk _ hW h
def wT_X8_readsFirst_119 (K : kS → Int32 → Prop) (k10 : Nat × Int32 × Int32 × Int32 × kS → Prop) (x0 : Nat) (x2 : Int32) (x4 : Int32) (x5 : Int32) (S : kS) : Prop := ∀ z28 : Int32, z28 = x5 + 1 → k10 (x0, x2, x4, z28, S)
def wT_X8_readsFirst_112 (K : kS → Int32 → Prop) (k10 : Nat × Int32 × Int32 × Int32 × kS → Prop) (x0 : Nat) (x2 : Int32) (x4 : Int32) (x5 : Int32) (x6 : Int32) (S : kS) : Prop := wT_X8_follow x0 x2 x6 S (fun (S29 : kS) => wT_X8_readsFirst_119 K k10 x0 x2 x4 x5 S29)
def wT_X8_readsFirst_93 (K : kS → Int32 → Prop) (k10 : Nat × Int32 × Int32 × Int32 × kS → Prop) (x0 : Nat) (x2 : Int32) (x4 : Int32) (x5 : Int32) (x6 : Int32) (x7 : Int32) (x8 : Int32) (S : kS) : Prop := ((x8 = 0 → wT_X8_readsFirst_112 K k10 x0 x2 x4 x5 x6 S) ∧ (¬ x8 = 0 → ((x7 = 13 → wT_X8_readsFirst_119 K k10 x0 x2 x4 x5 S) ∧ (¬ x7 = 13 → ((x7 = 22 → wT_X8_readsFirst_119 K k10 x0 x2 x4 x5 S) ∧ (¬ x7 = 22 → wT_X8_readsFirst_112 K k10 x0 x2 x4 x5 x6 S))))))
def wT_X8_readsFirst_78 (K : kS → Int32 → Prop) (k10 : Nat × Int32 × Int32 × Int32 × kS → Prop) (x0 : Nat) (x2 : Int32) (x4 : Int32) (x5 : Int32) (x6 : Int32) (x7 : Int32) (y0 : Int32) (S : kS) : Prop := ((¬ x7 = 3 → wT_X8_readsFirst_93 K k10 x0 x2 x4 x5 x6 x7 y0 S) ∧ (x7 = 3 → ((y0 = 0 → wT_X8_readsFirst_93 K k10 x0 x2 x4 x5 x6 x7 y0 S) ∧ (¬ y0 = 0 → K S 1))))
def wT_X8_readsFirst_10 (K : kS → Int32 → Prop) (k10 : Nat × Int32 × Int32 × Int32 × kS → Prop) (x0 : Nat) (x2 : Int32) (x4 : Int32) (x5 : Int32) (S : kS) : Prop := ((8064 ≤ x5 → K S 0) ∧ (¬ 8064 ≤ x5 → ∀ z3 : Int32, z3 = S.1 26 x0 → ((z3 ≤ 0 → K S 0) ∧ (¬ z3 ≤ 0 → ∀ z5 : Int32, z5 = S.1 26 x0 → ∀ z6 : Int32, z6 = z5 - 1 → ∀ S7 : kS, S7 = cI S 26 x0 z6 → ∀ z8 : Option Nat, z8 = S7.2.1 54 x0 → ∀ z9 : Int32, z9 = S7.1 26 x0 → ∀ q10 : Nat, z8 = some q10 → inR z9 8064 ∧ ∀ z11 : Int32, z11 = S7.2.2.1 q10 (ix z9) → ∀ z12 : Option Nat, z12 = S7.2.1 55 x0 → ∃ q13 : Nat, z12 = some q13 ∧ ∀ z14 : Option Nat, z14 = S7.2.1 28 q13 → ∀ q15 : Nat, z14 = some q15 → inR z11 8064 ∧ ∀ z16 : Int32, z16 = S7.2.2.1 q15 (ix z11) → ∀ z17 : Option Nat, z17 = S7.2.1 55 x0 → ∃ q18 : Nat, z17 = some q18 ∧ ∀ z19 : Option Nat, z19 = S7.2.1 29 q18 → ∀ q20 : Nat, z19 = some q20 → inR z11 8064 ∧ ∀ z21 : Int32, z21 = S7.2.2.1 q20 (ix z11) → ((¬ z21 = x4 → wT_X8_readsFirst_78 K k10 x0 x2 x4 x5 z11 z16 0 S7) ∧ (z21 = x4 → wT_X8_readsFirst_78 K k10 x0 x2 x4 x5 z11 z16 1 S7))))))
def lT_X8_readsFirst_10 (K : kS → Int32 → Prop) (k10 : Nat × Int32 × Int32 × Int32 × kS → Prop) (u : Nat × Int32 × Int32 × Int32 × kS) : Prop := wT_X8_readsFirst_10 K k10 u.1 u.2.1 u.2.2.1 u.2.2.2.1 u.2.2.2.2
def wT_X8_readsFirst (t0 : Nat) (a0 : Nat) (a1 : Int32) (a2 : Int32) (a3 : Int32) (S : kS) (K : kS → Int32 → Prop) : Prop := wT_X8_set t0 a0 a1 a2 S (fun (S1 : kS) => (∃ n9, it (lT_X8_readsFirst_10 K) n9 (t0, a1, a3, 0, S1)))
theorem ty_X8_readsFirst_119 {d : List (Nat × cK)} {K K' : kS → Int32 → Prop} {k10 k10' : Nat × Int32 × Int32 × Int32 × kS → Prop} (hk : ∀ S1 r1, WT d S1 → K S1 r1 → K' S1 r1) (hk10 : ∀ (x0 : Nat) (x2 : Int32) (x4 : Int32) (x5 : Int32), ((x0, Sum.inl 8) ∈ d) → ∀ S : kS, WT d S → k10 (x0, x2, x4, x5, S) → k10' (x0, x2, x4, x5, S)) {x0 : Nat} {x2 : Int32} {x4 : Int32} {x5 : Int32} (t_x0 : (x0, Sum.inl 8) ∈ d) {S : kS} (hW : WT d S) (h : wT_X8_readsFirst_119 K k10 x0 x2 x4 x5 S) : wp_X8_readsFirst_119 K' k10' x0 x2 x4 x5 S := by
  unfold wT_X8_readsFirst_119 at h
  unfold wp_X8_readsFirst_119
  intro z28 e_z28
  replace h := h z28 e_z28
  exact hk10 _ _ _ _ t_x0 _ hW h
theorem ty_X8_readsFirst_112 {d : List (Nat × cK)} {K K' : kS → Int32 → Prop} {k10 k10' : Nat × Int32 × Int32 × Int32 × kS → Prop} (hk : ∀ S1 r1, WT d S1 → K S1 r1 → K' S1 r1) (hk10 : ∀ (x0 : Nat) (x2 : Int32) (x4 : Int32) (x5 : Int32), ((x0, Sum.inl 8) ∈ d) → ∀ S : kS, WT d S → k10 (x0, x2, x4, x5, S) → k10' (x0, x2, x4, x5, S)) {x0 : Nat} {x2 : Int32} {x4 : Int32} {x5 : Int32} {x6 : Int32} (t_x0 : (x0, Sum.inl 8) ∈ d) {S : kS} (hW : WT d S) (h : wT_X8_readsFirst_112 K k10 x0 x2 x4 x5 x6 S) : wp_X8_readsFirst_112 K' k10' x0 x2 x4 x5 x6 S := by
  unfold wT_X8_readsFirst_112 at h
  unfold wp_X8_readsFirst_112
  refine ⟨hasO_of hW t_x0, ?_⟩
  refine ty_X8_follow t_x0 hW (fun S29 hW h => ?_) h
  exact ty_X8_readsFirst_119 hk hk10 t_x0 hW h
theorem ty_X8_readsFirst_93 {d : List (Nat × cK)} {K K' : kS → Int32 → Prop} {k10 k10' : Nat × Int32 × Int32 × Int32 × kS → Prop} (hk : ∀ S1 r1, WT d S1 → K S1 r1 → K' S1 r1) (hk10 : ∀ (x0 : Nat) (x2 : Int32) (x4 : Int32) (x5 : Int32), ((x0, Sum.inl 8) ∈ d) → ∀ S : kS, WT d S → k10 (x0, x2, x4, x5, S) → k10' (x0, x2, x4, x5, S)) {x0 : Nat} {x2 : Int32} {x4 : Int32} {x5 : Int32} {x6 : Int32} {x7 : Int32} {x8 : Int32} (t_x0 : (x0, Sum.inl 8) ∈ d) {S : kS} (hW : WT d S) (h : wT_X8_readsFirst_93 K k10 x0 x2 x4 x5 x6 x7 x8 S) : wp_X8_readsFirst_93 K' k10' x0 x2 x4 x5 x6 x7 x8 S := by
  unfold wT_X8_readsFirst_93 at h
  unfold wp_X8_readsFirst_93
  refine ⟨fun c => ?_, fun c => ?_⟩
  · replace h := h.1 c
    exact ty_X8_readsFirst_112 hk hk10 t_x0 hW h
  · replace h := h.2 c
    refine ⟨fun c => ?_, fun c => ?_⟩
    · replace h := h.1 c
      exact ty_X8_readsFirst_119 hk hk10 t_x0 hW h
    · replace h := h.2 c
      refine ⟨fun c => ?_, fun c => ?_⟩
      · replace h := h.1 c
        exact ty_X8_readsFirst_119 hk hk10 t_x0 hW h
      · replace h := h.2 c
        exact ty_X8_readsFirst_112 hk hk10 t_x0 hW h
theorem ty_X8_readsFirst_78 {d : List (Nat × cK)} {K K' : kS → Int32 → Prop} {k10 k10' : Nat × Int32 × Int32 × Int32 × kS → Prop} (hk : ∀ S1 r1, WT d S1 → K S1 r1 → K' S1 r1) (hk10 : ∀ (x0 : Nat) (x2 : Int32) (x4 : Int32) (x5 : Int32), ((x0, Sum.inl 8) ∈ d) → ∀ S : kS, WT d S → k10 (x0, x2, x4, x5, S) → k10' (x0, x2, x4, x5, S)) {x0 : Nat} {x2 : Int32} {x4 : Int32} {x5 : Int32} {x6 : Int32} {x7 : Int32} {y0 : Int32} (t_x0 : (x0, Sum.inl 8) ∈ d) {S : kS} (hW : WT d S) (h : wT_X8_readsFirst_78 K k10 x0 x2 x4 x5 x6 x7 y0 S) : wp_X8_readsFirst_78 K' k10' x0 x2 x4 x5 x6 x7 y0 S := by
  unfold wT_X8_readsFirst_78 at h
  unfold wp_X8_readsFirst_78
  refine ⟨fun c => ?_, fun c => ?_⟩
  · replace h := h.1 c
    exact ty_X8_readsFirst_93 hk hk10 t_x0 hW h
  · replace h := h.2 c
    refine ⟨fun c => ?_, fun c => ?_⟩
    · replace h := h.1 c
      exact ty_X8_readsFirst_93 hk hk10 t_x0 hW h
    · replace h := h.2 c
      exact hk _ _ hW h
theorem ty_X8_readsFirst_10 {d : List (Nat × cK)} {K K' : kS → Int32 → Prop} {k10 k10' : Nat × Int32 × Int32 × Int32 × kS → Prop} (hk : ∀ S1 r1, WT d S1 → K S1 r1 → K' S1 r1) (hk10 : ∀ (x0 : Nat) (x2 : Int32) (x4 : Int32) (x5 : Int32), ((x0, Sum.inl 8) ∈ d) → ∀ S : kS, WT d S → k10 (x0, x2, x4, x5, S) → k10' (x0, x2, x4, x5, S)) {x0 : Nat} {x2 : Int32} {x4 : Int32} {x5 : Int32} (t_x0 : (x0, Sum.inl 8) ∈ d) {S : kS} (hW : WT d S) (h : wT_X8_readsFirst_10 K k10 x0 x2 x4 x5 S) : wp_X8_readsFirst_10 K' k10' x0 x2 x4 x5 S := by
  unfold wT_X8_readsFirst_10 at h
  unfold wp_X8_readsFirst_10
  refine ⟨fun c => ?_, fun c => ?_⟩
  · replace h := h.1 c
    exact hk _ _ hW h
  · replace h := h.2 c
    refine ⟨hasO_of hW t_x0, ?_⟩
    intro z3 e_z3
    replace h := h z3 e_z3
    refine ⟨fun c => ?_, fun c => ?_⟩
    · replace h := h.1 c
      exact hk _ _ hW h
    · replace h := h.2 c
      refine ⟨hasO_of hW t_x0, ?_⟩
      intro z5 e_z5
      replace h := h z5 e_z5
      intro z6 e_z6
      replace h := h z6 e_z6
      refine ⟨hasO_of hW t_x0, ?_⟩
      intro S7 e_S7
      replace h := h S7 e_S7
      replace hW := WT_i hW e_S7
      refine ⟨hasO_of hW t_x0, ?_⟩
      intro z8 e_z8
      replace h := h z8 e_z8
      have t_z8 : ∀ b, z8 = some b → (b, Sum.inr (8064, 0)) ∈ d := fun b hb => hW.2.1 54 _ b t_x0 (by rw [← e_z8]; exact hb)
      have n_z8 := wt_nn (f := 54) hW (by decide) t_x0 e_z8
      refine ⟨hasO_of hW t_x0, ?_⟩
      intro z9 e_z9
      replace h := h z9 e_z9
      obtain ⟨q10, e_q10⟩ := n_z8
      refine ⟨q10, e_q10, ?_⟩
      replace h := h q10 e_q10
      have t_q10 := t_z8 q10 e_q10
      refine ⟨hasA_of hW t_q10, ?_⟩
      have hin := h.1
      refine ⟨h.1, ?_⟩
      replace h := h.2
      intro z11 e_z11
      replace h := h z11 e_z11
      refine ⟨hasO_of hW t_x0, ?_⟩
      intro z12 e_z12
      replace h := h z12 e_z12
      have t_z12 : ∀ b, z12 = some b → (b, Sum.inl 5) ∈ d := fun b hb => hW.2.1 55 _ b t_x0 (by rw [← e_z12]; exact hb)
      obtain ⟨q13, e_q13, h9⟩ := h
      replace h := h9
      clear h9
      refine ⟨q13, e_q13, ?_⟩
      have t_q13 := t_z12 q13 e_q13
      refine ⟨hasO_of hW t_q13, ?_⟩
      intro z14 e_z14
      replace h := h z14 e_z14
      have t_z14 : ∀ b, z14 = some b → (b, Sum.inr (8064, 0)) ∈ d := fun b hb => hW.2.1 28 _ b t_q13 (by rw [← e_z14]; exact hb)
      have n_z14 := wt_nn (f := 28) hW (by decide) t_q13 e_z14
      obtain ⟨q15, e_q15⟩ := n_z14
      refine ⟨q15, e_q15, ?_⟩
      replace h := h q15 e_q15
      have t_q15 := t_z14 q15 e_q15
      refine ⟨hasA_of hW t_q15, ?_⟩
      have hin := h.1
      refine ⟨h.1, ?_⟩
      replace h := h.2
      intro z16 e_z16
      replace h := h z16 e_z16
      refine ⟨hasO_of hW t_x0, ?_⟩
      intro z17 e_z17
      replace h := h z17 e_z17
      have t_z17 : ∀ b, z17 = some b → (b, Sum.inl 5) ∈ d := fun b hb => hW.2.1 55 _ b t_x0 (by rw [← e_z17]; exact hb)
      obtain ⟨q18, e_q18, h9⟩ := h
      replace h := h9
      clear h9
      refine ⟨q18, e_q18, ?_⟩
      have t_q18 := t_z17 q18 e_q18
      refine ⟨hasO_of hW t_q18, ?_⟩
      intro z19 e_z19
      replace h := h z19 e_z19
      have t_z19 : ∀ b, z19 = some b → (b, Sum.inr (8064, 0)) ∈ d := fun b hb => hW.2.1 29 _ b t_q18 (by rw [← e_z19]; exact hb)
      have n_z19 := wt_nn (f := 29) hW (by decide) t_q18 e_z19
      obtain ⟨q20, e_q20⟩ := n_z19
      refine ⟨q20, e_q20, ?_⟩
      replace h := h q20 e_q20
      have t_q20 := t_z19 q20 e_q20
      refine ⟨hasA_of hW t_q20, ?_⟩
      have hin := h.1
      refine ⟨h.1, ?_⟩
      replace h := h.2
      intro z21 e_z21
      replace h := h z21 e_z21
      refine ⟨fun c => ?_, fun c => ?_⟩
      · replace h := h.1 c
        exact ty_X8_readsFirst_78 hk hk10 t_x0 hW h
      · replace h := h.2 c
        exact ty_X8_readsFirst_78 hk hk10 t_x0 hW h
theorem tyl_X8_readsFirst_10 {d : List (Nat × cK)} {K K' : kS → Int32 → Prop} (hk : ∀ S1 r1, WT d S1 → K S1 r1 → K' S1 r1) : ∀ (n : Nat) (x0 : Nat) (x2 : Int32) (x4 : Int32) (x5 : Int32), ((x0, Sum.inl 8) ∈ d) → ∀ S : kS, WT d S → it (lT_X8_readsFirst_10 K) n (x0, x2, x4, x5, S) → it (ls_X8_readsFirst_10 K') n (x0, x2, x4, x5, S) := by
  intro n
  induction n with
  | zero => exact fun _ _ _ _ _ _ _ h => h
  | succ n ih => exact fun x0 x2 x4 x5 t_x0 S hW h => ty_X8_readsFirst_10 hk ih t_x0 hW h
theorem ty_X8_readsFirst {d : List (Nat × cK)} {t0 : Nat} {a0 : Nat} {a1 : Int32} {a2 : Int32} {a3 : Int32} (t_t0 : (t0, Sum.inl 8) ∈ d) (t_a0 : (a0, Sum.inl 5) ∈ d) {S : kS} {K K' : kS → Int32 → Prop} (hW : WT d S) (hk : ∀ S1 r1, WT d S1 → K S1 r1 → K' S1 r1) (h : wT_X8_readsFirst t0 a0 a1 a2 a3 S K) : wp_X8_readsFirst t0 a0 a1 a2 a3 S K' := by
  unfold wT_X8_readsFirst at h
  unfold wp_X8_readsFirst
  refine ⟨hasO_of hW t_t0, ?_⟩
  refine ty_X8_set t_t0 t_a0 hW (fun S1 hW h => ?_) h
  obtain ⟨n9, h⟩ := h
  exact ⟨n9, tyl_X8_readsFirst_10 hk n9 _ _ _ _ t_t0 _ hW h⟩
def wT_X11_live (t0 : Nat) (a0 : Int32) (a1 : Int32) (a2 : Int32) (S : kS) (K : kS → Int32 → Prop) : Prop := ∀ z1 : Option Nat, z1 = S.2.1 74 t0 → ∃ q2 : Nat, z1 = some q2 ∧ wT_X5_hasState q2 a0 a1 S (fun (S3 : kS) (r3 : Int32) => ((r3 = 0 → K S3 (-1)) ∧ (¬ r3 = 0 → ((a2 < 0 → K S3 (-1)) ∧ (¬ a2 < 0 → ∀ z6 : Option Nat, z6 = S3.2.1 74 t0 → ∃ q7 : Nat, z6 = some q7 ∧ ∀ z8 : Option Nat, z8 = S3.2.1 35 q7 → ∀ q9 : Nat, z8 = some q9 → inR a0 12 ∧ ∀ z10 : Int32, z10 = S3.2.2.1 q9 (ix a0) → ((a2 < z10 → ∀ z12 : Option Nat, z12 = S3.2.1 71 t0 → ∀ z13 : Option Nat, z13 = S3.2.1 74 t0 → ∀ q14 : Nat, z12 = some q14 → ∃ q15 : Nat, z13 = some q15 ∧ wT_X8_readsFirst q14 q15 a0 a1 a2 S3 (fun (S16 : kS) (r16 : Int32) => ((r16 = 0 → K S16 0) ∧ (¬ r16 = 0 → K S16 1)))) ∧ (¬ a2 < z10 → K S3 (-1))))))))
theorem ty_X11_live {d : List (Nat × cK)} {t0 : Nat} {a0 : Int32} {a1 : Int32} {a2 : Int32} (t_t0 : (t0, Sum.inl 11) ∈ d) {S : kS} {K K' : kS → Int32 → Prop} (hW : WT d S) (hk : ∀ S1 r1, WT d S1 → K S1 r1 → K' S1 r1) (h : wT_X11_live t0 a0 a1 a2 S K) : wp_X11_live t0 a0 a1 a2 S K' := by
  unfold wT_X11_live at h
  unfold wp_X11_live
  refine ⟨hasO_of hW t_t0, ?_⟩
  intro z1 e_z1
  replace h := h z1 e_z1
  have t_z1 : ∀ b, z1 = some b → (b, Sum.inl 5) ∈ d := fun b hb => hW.2.1 74 _ b t_t0 (by rw [← e_z1]; exact hb)
  obtain ⟨q2, e_q2, h9⟩ := h
  replace h := h9
  clear h9
  refine ⟨q2, e_q2, ?_⟩
  have t_q2 := t_z1 q2 e_q2
  refine ⟨hasO_of hW t_q2, ?_⟩
  refine ty_X5_hasState t_q2 hW (fun S3 r3 hW h => ?_) h
  refine ⟨fun c => ?_, fun c => ?_⟩
  · replace h := h.1 c
    exact hk _ _ hW h
  · replace h := h.2 c
    refine ⟨fun c => ?_, fun c => ?_⟩
    · replace h := h.1 c
      exact hk _ _ hW h
    · replace h := h.2 c
      refine ⟨hasO_of hW t_t0, ?_⟩
      intro z6 e_z6
      replace h := h z6 e_z6
      have t_z6 : ∀ b, z6 = some b → (b, Sum.inl 5) ∈ d := fun b hb => hW.2.1 74 _ b t_t0 (by rw [← e_z6]; exact hb)
      obtain ⟨q7, e_q7, h9⟩ := h
      replace h := h9
      clear h9
      refine ⟨q7, e_q7, ?_⟩
      have t_q7 := t_z6 q7 e_q7
      refine ⟨hasO_of hW t_q7, ?_⟩
      intro z8 e_z8
      replace h := h z8 e_z8
      have t_z8 : ∀ b, z8 = some b → (b, Sum.inr (12, 0)) ∈ d := fun b hb => hW.2.1 35 _ b t_q7 (by rw [← e_z8]; exact hb)
      have n_z8 := wt_nn (f := 35) hW (by decide) t_q7 e_z8
      obtain ⟨q9, e_q9⟩ := n_z8
      refine ⟨q9, e_q9, ?_⟩
      replace h := h q9 e_q9
      have t_q9 := t_z8 q9 e_q9
      refine ⟨hasA_of hW t_q9, ?_⟩
      have hin := h.1
      refine ⟨h.1, ?_⟩
      replace h := h.2
      intro z10 e_z10
      replace h := h z10 e_z10
      refine ⟨fun c => ?_, fun c => ?_⟩
      · replace h := h.1 c
        refine ⟨hasO_of hW t_t0, ?_⟩
        intro z12 e_z12
        replace h := h z12 e_z12
        have t_z12 : ∀ b, z12 = some b → (b, Sum.inl 8) ∈ d := fun b hb => hW.2.1 71 _ b t_t0 (by rw [← e_z12]; exact hb)
        have n_z12 := wt_nn (f := 71) hW (by decide) t_t0 e_z12
        refine ⟨hasO_of hW t_t0, ?_⟩
        intro z13 e_z13
        replace h := h z13 e_z13
        have t_z13 : ∀ b, z13 = some b → (b, Sum.inl 5) ∈ d := fun b hb => hW.2.1 74 _ b t_t0 (by rw [← e_z13]; exact hb)
        obtain ⟨q14, e_q14⟩ := n_z12
        refine ⟨q14, e_q14, ?_⟩
        replace h := h q14 e_q14
        have t_q14 := t_z12 q14 e_q14
        obtain ⟨q15, e_q15, h9⟩ := h
        replace h := h9
        clear h9
        refine ⟨q15, e_q15, ?_⟩
        have t_q15 := t_z13 q15 e_q15
        refine ⟨hasO_of hW t_q14, ?_⟩
        refine ty_X8_readsFirst t_q14 t_q15 hW (fun S16 r16 hW h => ?_) h
        refine ⟨fun c => ?_, fun c => ?_⟩
        · replace h := h.1 c
          exact hk _ _ hW h
        · replace h := h.2 c
          exact hk _ _ hW h
      · replace h := h.2 c
        exact hk _ _ hW h
def wT_X11_lost (t0 : Nat) (a0 : Int32) (a1 : Int32) (S : kS) (K : kS → Int32 → Prop) : Prop := ∀ z1 : Option Nat, z1 = S.2.1 72 t0 → ∀ q2 : Nat, z1 = some q2 → ∀ z3 : Option Nat, z3 = S.2.1 9 q2 → ∀ q4 : Nat, z3 = some q4 → wT_X0_tell q4 a0 a1 S (fun (S5 : kS) (r5 : Int32) => K S5 r5)
theorem ty_X11_lost {d : List (Nat × cK)} {t0 : Nat} {a0 : Int32} {a1 : Int32} (t_t0 : (t0, Sum.inl 11) ∈ d) {S : kS} {K K' : kS → Int32 → Prop} (hW : WT d S) (hk : ∀ S1 r1, WT d S1 → K S1 r1 → K' S1 r1) (h : wT_X11_lost t0 a0 a1 S K) : wp_X11_lost t0 a0 a1 S K' := by
  unfold wT_X11_lost at h
  unfold wp_X11_lost
  refine ⟨hasO_of hW t_t0, ?_⟩
  intro z1 e_z1
  replace h := h z1 e_z1
  have t_z1 : ∀ b, z1 = some b → (b, Sum.inl 1) ∈ d := fun b hb => hW.2.1 72 _ b t_t0 (by rw [← e_z1]; exact hb)
  have n_z1 := wt_nn (f := 72) hW (by decide) t_t0 e_z1
  obtain ⟨q2, e_q2⟩ := n_z1
  refine ⟨q2, e_q2, ?_⟩
  replace h := h q2 e_q2
  have t_q2 := t_z1 q2 e_q2
  refine ⟨hasO_of hW t_q2, ?_⟩
  intro z3 e_z3
  replace h := h z3 e_z3
  have t_z3 : ∀ b, z3 = some b → (b, Sum.inl 0) ∈ d := fun b hb => hW.2.1 9 _ b t_q2 (by rw [← e_z3]; exact hb)
  have n_z3 := wt_nn (f := 9) hW (by decide) t_q2 e_z3
  obtain ⟨q4, e_q4⟩ := n_z3
  refine ⟨q4, e_q4, ?_⟩
  replace h := h q4 e_q4
  have t_q4 := t_z3 q4 e_q4
  refine ⟨hasO_of hW t_q4, ?_⟩
  refine ty_X0_tell t_q4 hW (fun S5 r5 hW h => ?_) h
  exact hk _ _ hW h
def wT_X8_leadsTo_110 (K : kS → Int32 → Prop) (k10 : Nat × Int32 × Int32 × Int32 × kS → Prop) (x0 : Nat) (x2 : Int32) (x4 : Int32) (x5 : Int32) (S : kS) : Prop := ∀ z20 : Int32, z20 = x5 + 1 → k10 (x0, x2, x4, z20, S)
def wT_X8_leadsTo_105 (K : kS → Int32 → Prop) (k10 : Nat × Int32 × Int32 × Int32 × kS → Prop) (x0 : Nat) (x2 : Int32) (x4 : Int32) (x5 : Int32) (y0 : Int32) (y1 : Int32) (S : kS) : Prop := ((¬ y0 = y1 → wT_X8_leadsTo_110 K k10 x0 x2 x4 x5 S) ∧ (y0 = y1 → K S 1))
def wT_X8_leadsTo_82 (K : kS → Int32 → Prop) (k10 : Nat × Int32 × Int32 × Int32 × kS → Prop) (x0 : Nat) (x2 : Int32) (x4 : Int32) (x5 : Int32) (x6 : Int32) (x7 : Int32) (S : kS) : Prop := ((¬ x7 = 24 → ∀ z22 : Option Nat, z22 = S.2.1 55 x0 → ∃ q23 : Nat, z22 = some q23 ∧ ∀ z24 : Option Nat, z24 = S.2.1 29 q23 → ∀ q25 : Nat, z24 = some q25 → inR x6 8064 ∧ ∀ z26 : Int32, z26 = S.2.2.1 q25 (ix x6) → wT_X8_leadsTo_105 K k10 x0 x2 x4 x5 x4 z26 S) ∧ (x7 = 24 → wT_X8_leadsTo_105 K k10 x0 x2 x4 x5 x4 0 S))
def wT_X8_leadsTo_10 (K : kS → Int32 → Prop) (k10 : Nat × Int32 × Int32 × Int32 × kS → Prop) (x0 : Nat) (x2 : Int32) (x4 : Int32) (x5 : Int32) (S : kS) : Prop := ((8064 ≤ x5 → K S 0) ∧ (¬ 8064 ≤ x5 → ∀ z3 : Int32, z3 = S.1 26 x0 → ((z3 ≤ 0 → K S 0) ∧ (¬ z3 ≤ 0 → ∀ z5 : Int32, z5 = S.1 26 x0 → ∀ z6 : Int32, z6 = z5 - 1 → ∀ S7 : kS, S7 = cI S 26 x0 z6 → ∀ z8 : Option Nat, z8 = S7.2.1 54 x0 → ∀ z9 : Int32, z9 = S7.1 26 x0 → ∀ q10 : Nat, z8 = some q10 → inR z9 8064 ∧ ∀ z11 : Int32, z11 = S7.2.2.1 q10 (ix z9) → ∀ z12 : Option Nat, z12 = S7.2.1 55 x0 → ∃ q13 : Nat, z12 = some q13 ∧ ∀ z14 : Option Nat, z14 = S7.2.1 28 q13 → ∀ q15 : Nat, z14 = some q15 → inR z11 8064 ∧ ∀ z16 : Int32, z16 = S7.2.2.1 q15 (ix z11) → ((z16 = 35 → wT_X8_leadsTo_82 K k10 x0 x2 x4 x5 z11 z16 S7) ∧ (¬ z16 = 35 → ((z16 = 24 → wT_X8_leadsTo_82 K k10 x0 x2 x4 x5 z11 z16 S7) ∧ (¬ z16 = 24 → wT_X8_follow x0 x2 z11 S7 (fun (S19 : kS) => wT_X8_leadsTo_110 K k10 x0 x2 x4 x5 S19)))))))))
def lT_X8_leadsTo_10 (K : kS → Int32 → Prop) (k10 : Nat × Int32 × Int32 × Int32 × kS → Prop) (u : Nat × Int32 × Int32 × Int32 × kS) : Prop := wT_X8_leadsTo_10 K k10 u.1 u.2.1 u.2.2.1 u.2.2.2.1 u.2.2.2.2
def wT_X8_leadsTo (t0 : Nat) (a0 : Nat) (a1 : Int32) (a2 : Int32) (a3 : Int32) (S : kS) (K : kS → Int32 → Prop) : Prop := wT_X8_set t0 a0 a1 a2 S (fun (S1 : kS) => (∃ n9, it (lT_X8_leadsTo_10 K) n9 (t0, a1, a3, 0, S1)))
theorem ty_X8_leadsTo_110 {d : List (Nat × cK)} {K K' : kS → Int32 → Prop} {k10 k10' : Nat × Int32 × Int32 × Int32 × kS → Prop} (hk : ∀ S1 r1, WT d S1 → K S1 r1 → K' S1 r1) (hk10 : ∀ (x0 : Nat) (x2 : Int32) (x4 : Int32) (x5 : Int32), ((x0, Sum.inl 8) ∈ d) → ∀ S : kS, WT d S → k10 (x0, x2, x4, x5, S) → k10' (x0, x2, x4, x5, S)) {x0 : Nat} {x2 : Int32} {x4 : Int32} {x5 : Int32} (t_x0 : (x0, Sum.inl 8) ∈ d) {S : kS} (hW : WT d S) (h : wT_X8_leadsTo_110 K k10 x0 x2 x4 x5 S) : wp_X8_leadsTo_110 K' k10' x0 x2 x4 x5 S := by
  unfold wT_X8_leadsTo_110 at h
  unfold wp_X8_leadsTo_110
  intro z20 e_z20
  replace h := h z20 e_z20
  exact hk10 _ _ _ _ t_x0 _ hW h
theorem ty_X8_leadsTo_105 {d : List (Nat × cK)} {K K' : kS → Int32 → Prop} {k10 k10' : Nat × Int32 × Int32 × Int32 × kS → Prop} (hk : ∀ S1 r1, WT d S1 → K S1 r1 → K' S1 r1) (hk10 : ∀ (x0 : Nat) (x2 : Int32) (x4 : Int32) (x5 : Int32), ((x0, Sum.inl 8) ∈ d) → ∀ S : kS, WT d S → k10 (x0, x2, x4, x5, S) → k10' (x0, x2, x4, x5, S)) {x0 : Nat} {x2 : Int32} {x4 : Int32} {x5 : Int32} {y0 : Int32} {y1 : Int32} (t_x0 : (x0, Sum.inl 8) ∈ d) {S : kS} (hW : WT d S) (h : wT_X8_leadsTo_105 K k10 x0 x2 x4 x5 y0 y1 S) : wp_X8_leadsTo_105 K' k10' x0 x2 x4 x5 y0 y1 S := by
  unfold wT_X8_leadsTo_105 at h
  unfold wp_X8_leadsTo_105
  refine ⟨fun c => ?_, fun c => ?_⟩
  · replace h := h.1 c
    exact ty_X8_leadsTo_110 hk hk10 t_x0 hW h
  · replace h := h.2 c
    exact hk _ _ hW h
theorem ty_X8_leadsTo_82 {d : List (Nat × cK)} {K K' : kS → Int32 → Prop} {k10 k10' : Nat × Int32 × Int32 × Int32 × kS → Prop} (hk : ∀ S1 r1, WT d S1 → K S1 r1 → K' S1 r1) (hk10 : ∀ (x0 : Nat) (x2 : Int32) (x4 : Int32) (x5 : Int32), ((x0, Sum.inl 8) ∈ d) → ∀ S : kS, WT d S → k10 (x0, x2, x4, x5, S) → k10' (x0, x2, x4, x5, S)) {x0 : Nat} {x2 : Int32} {x4 : Int32} {x5 : Int32} {x6 : Int32} {x7 : Int32} (t_x0 : (x0, Sum.inl 8) ∈ d) {S : kS} (hW : WT d S) (h : wT_X8_leadsTo_82 K k10 x0 x2 x4 x5 x6 x7 S) : wp_X8_leadsTo_82 K' k10' x0 x2 x4 x5 x6 x7 S := by
  unfold wT_X8_leadsTo_82 at h
  unfold wp_X8_leadsTo_82
  refine ⟨fun c => ?_, fun c => ?_⟩
  · replace h := h.1 c
    refine ⟨hasO_of hW t_x0, ?_⟩
    intro z22 e_z22
    replace h := h z22 e_z22
    have t_z22 : ∀ b, z22 = some b → (b, Sum.inl 5) ∈ d := fun b hb => hW.2.1 55 _ b t_x0 (by rw [← e_z22]; exact hb)
    obtain ⟨q23, e_q23, h9⟩ := h
    replace h := h9
    clear h9
    refine ⟨q23, e_q23, ?_⟩
    have t_q23 := t_z22 q23 e_q23
    refine ⟨hasO_of hW t_q23, ?_⟩
    intro z24 e_z24
    replace h := h z24 e_z24
    have t_z24 : ∀ b, z24 = some b → (b, Sum.inr (8064, 0)) ∈ d := fun b hb => hW.2.1 29 _ b t_q23 (by rw [← e_z24]; exact hb)
    have n_z24 := wt_nn (f := 29) hW (by decide) t_q23 e_z24
    obtain ⟨q25, e_q25⟩ := n_z24
    refine ⟨q25, e_q25, ?_⟩
    replace h := h q25 e_q25
    have t_q25 := t_z24 q25 e_q25
    refine ⟨hasA_of hW t_q25, ?_⟩
    have hin := h.1
    refine ⟨h.1, ?_⟩
    replace h := h.2
    intro z26 e_z26
    replace h := h z26 e_z26
    exact ty_X8_leadsTo_105 hk hk10 t_x0 hW h
  · replace h := h.2 c
    exact ty_X8_leadsTo_105 hk hk10 t_x0 hW h
theorem ty_X8_leadsTo_10 {d : List (Nat × cK)} {K K' : kS → Int32 → Prop} {k10 k10' : Nat × Int32 × Int32 × Int32 × kS → Prop} (hk : ∀ S1 r1, WT d S1 → K S1 r1 → K' S1 r1) (hk10 : ∀ (x0 : Nat) (x2 : Int32) (x4 : Int32) (x5 : Int32), ((x0, Sum.inl 8) ∈ d) → ∀ S : kS, WT d S → k10 (x0, x2, x4, x5, S) → k10' (x0, x2, x4, x5, S)) {x0 : Nat} {x2 : Int32} {x4 : Int32} {x5 : Int32} (t_x0 : (x0, Sum.inl 8) ∈ d) {S : kS} (hW : WT d S) (h : wT_X8_leadsTo_10 K k10 x0 x2 x4 x5 S) : wp_X8_leadsTo_10 K' k10' x0 x2 x4 x5 S := by
  unfold wT_X8_leadsTo_10 at h
  unfold wp_X8_leadsTo_10
  refine ⟨fun c => ?_, fun c => ?_⟩
  · replace h := h.1 c
    exact hk _ _ hW h
  · replace h := h.2 c
    refine ⟨hasO_of hW t_x0, ?_⟩
    intro z3 e_z3
    replace h := h z3 e_z3
    refine ⟨fun c => ?_, fun c => ?_⟩
    · replace h := h.1 c
      exact hk _ _ hW h
    · replace h := h.2 c
      refine ⟨hasO_of hW t_x0, ?_⟩
      intro z5 e_z5
      replace h := h z5 e_z5
      intro z6 e_z6
      replace h := h z6 e_z6
      refine ⟨hasO_of hW t_x0, ?_⟩
      intro S7 e_S7
      replace h := h S7 e_S7
      replace hW := WT_i hW e_S7
      refine ⟨hasO_of hW t_x0, ?_⟩
      intro z8 e_z8
      replace h := h z8 e_z8
      have t_z8 : ∀ b, z8 = some b → (b, Sum.inr (8064, 0)) ∈ d := fun b hb => hW.2.1 54 _ b t_x0 (by rw [← e_z8]; exact hb)
      have n_z8 := wt_nn (f := 54) hW (by decide) t_x0 e_z8
      refine ⟨hasO_of hW t_x0, ?_⟩
      intro z9 e_z9
      replace h := h z9 e_z9
      obtain ⟨q10, e_q10⟩ := n_z8
      refine ⟨q10, e_q10, ?_⟩
      replace h := h q10 e_q10
      have t_q10 := t_z8 q10 e_q10
      refine ⟨hasA_of hW t_q10, ?_⟩
      have hin := h.1
      refine ⟨h.1, ?_⟩
      replace h := h.2
      intro z11 e_z11
      replace h := h z11 e_z11
      refine ⟨hasO_of hW t_x0, ?_⟩
      intro z12 e_z12
      replace h := h z12 e_z12
      have t_z12 : ∀ b, z12 = some b → (b, Sum.inl 5) ∈ d := fun b hb => hW.2.1 55 _ b t_x0 (by rw [← e_z12]; exact hb)
      obtain ⟨q13, e_q13, h9⟩ := h
      replace h := h9
      clear h9
      refine ⟨q13, e_q13, ?_⟩
      have t_q13 := t_z12 q13 e_q13
      refine ⟨hasO_of hW t_q13, ?_⟩
      intro z14 e_z14
      replace h := h z14 e_z14
      have t_z14 : ∀ b, z14 = some b → (b, Sum.inr (8064, 0)) ∈ d := fun b hb => hW.2.1 28 _ b t_q13 (by rw [← e_z14]; exact hb)
      have n_z14 := wt_nn (f := 28) hW (by decide) t_q13 e_z14
      obtain ⟨q15, e_q15⟩ := n_z14
      refine ⟨q15, e_q15, ?_⟩
      replace h := h q15 e_q15
      have t_q15 := t_z14 q15 e_q15
      refine ⟨hasA_of hW t_q15, ?_⟩
      have hin := h.1
      refine ⟨h.1, ?_⟩
      replace h := h.2
      intro z16 e_z16
      replace h := h z16 e_z16
      refine ⟨fun c => ?_, fun c => ?_⟩
      · replace h := h.1 c
        exact ty_X8_leadsTo_82 hk hk10 t_x0 hW h
      · replace h := h.2 c
        refine ⟨fun c => ?_, fun c => ?_⟩
        · replace h := h.1 c
          exact ty_X8_leadsTo_82 hk hk10 t_x0 hW h
        · replace h := h.2 c
          refine ⟨hasO_of hW t_x0, ?_⟩
          refine ty_X8_follow t_x0 hW (fun S19 hW h => ?_) h
          exact ty_X8_leadsTo_110 hk hk10 t_x0 hW h
theorem tyl_X8_leadsTo_10 {d : List (Nat × cK)} {K K' : kS → Int32 → Prop} (hk : ∀ S1 r1, WT d S1 → K S1 r1 → K' S1 r1) : ∀ (n : Nat) (x0 : Nat) (x2 : Int32) (x4 : Int32) (x5 : Int32), ((x0, Sum.inl 8) ∈ d) → ∀ S : kS, WT d S → it (lT_X8_leadsTo_10 K) n (x0, x2, x4, x5, S) → it (ls_X8_leadsTo_10 K') n (x0, x2, x4, x5, S) := by
  intro n
  induction n with
  | zero => exact fun _ _ _ _ _ _ _ h => h
  | succ n ih => exact fun x0 x2 x4 x5 t_x0 S hW h => ty_X8_leadsTo_10 hk ih t_x0 hW h
theorem ty_X8_leadsTo {d : List (Nat × cK)} {t0 : Nat} {a0 : Nat} {a1 : Int32} {a2 : Int32} {a3 : Int32} (t_t0 : (t0, Sum.inl 8) ∈ d) (t_a0 : (a0, Sum.inl 5) ∈ d) {S : kS} {K K' : kS → Int32 → Prop} (hW : WT d S) (hk : ∀ S1 r1, WT d S1 → K S1 r1 → K' S1 r1) (h : wT_X8_leadsTo t0 a0 a1 a2 a3 S K) : wp_X8_leadsTo t0 a0 a1 a2 a3 S K' := by
  unfold wT_X8_leadsTo at h
  unfold wp_X8_leadsTo
  refine ⟨hasO_of hW t_t0, ?_⟩
  refine ty_X8_set t_t0 t_a0 hW (fun S1 hW h => ?_) h
  obtain ⟨n9, h⟩ := h
  exact ⟨n9, tyl_X8_leadsTo_10 hk n9 _ _ _ _ t_t0 _ hW h⟩
def wT_X11_next (t0 : Nat) (a0 : Int32) (a1 : Int32) (a2 : Int32) (S : kS) (K : kS → Int32 → Prop) : Prop := ∀ z1 : Option Nat, z1 = S.2.1 74 t0 → ∃ q2 : Nat, z1 = some q2 ∧ wT_X5_hasState q2 a0 a1 S (fun (S3 : kS) (r3 : Int32) => ((r3 = 0 → K S3 (-1)) ∧ (¬ r3 = 0 → ∀ z5 : Option Nat, z5 = S3.2.1 74 t0 → ∃ q6 : Nat, z5 = some q6 ∧ wT_X5_hasState q6 a0 a2 S3 (fun (S7 : kS) (r7 : Int32) => ((¬ r7 = 0 → ∀ z9 : Option Nat, z9 = S7.2.1 71 t0 → ∀ z10 : Option Nat, z10 = S7.2.1 74 t0 → ∀ q11 : Nat, z9 = some q11 → ∃ q12 : Nat, z10 = some q12 ∧ wT_X8_leadsTo q11 q12 a0 a1 a2 S7 (fun (S13 : kS) (r13 : Int32) => ((r13 = 0 → K S13 0) ∧ (¬ r13 = 0 → K S13 1)))) ∧ (r7 = 0 → K S7 (-1)))))))
theorem ty_X11_next {d : List (Nat × cK)} {t0 : Nat} {a0 : Int32} {a1 : Int32} {a2 : Int32} (t_t0 : (t0, Sum.inl 11) ∈ d) {S : kS} {K K' : kS → Int32 → Prop} (hW : WT d S) (hk : ∀ S1 r1, WT d S1 → K S1 r1 → K' S1 r1) (h : wT_X11_next t0 a0 a1 a2 S K) : wp_X11_next t0 a0 a1 a2 S K' := by
  unfold wT_X11_next at h
  unfold wp_X11_next
  refine ⟨hasO_of hW t_t0, ?_⟩
  intro z1 e_z1
  replace h := h z1 e_z1
  have t_z1 : ∀ b, z1 = some b → (b, Sum.inl 5) ∈ d := fun b hb => hW.2.1 74 _ b t_t0 (by rw [← e_z1]; exact hb)
  obtain ⟨q2, e_q2, h9⟩ := h
  replace h := h9
  clear h9
  refine ⟨q2, e_q2, ?_⟩
  have t_q2 := t_z1 q2 e_q2
  refine ⟨hasO_of hW t_q2, ?_⟩
  refine ty_X5_hasState t_q2 hW (fun S3 r3 hW h => ?_) h
  refine ⟨fun c => ?_, fun c => ?_⟩
  · replace h := h.1 c
    exact hk _ _ hW h
  · replace h := h.2 c
    refine ⟨hasO_of hW t_t0, ?_⟩
    intro z5 e_z5
    replace h := h z5 e_z5
    have t_z5 : ∀ b, z5 = some b → (b, Sum.inl 5) ∈ d := fun b hb => hW.2.1 74 _ b t_t0 (by rw [← e_z5]; exact hb)
    obtain ⟨q6, e_q6, h9⟩ := h
    replace h := h9
    clear h9
    refine ⟨q6, e_q6, ?_⟩
    have t_q6 := t_z5 q6 e_q6
    refine ⟨hasO_of hW t_q6, ?_⟩
    refine ty_X5_hasState t_q6 hW (fun S7 r7 hW h => ?_) h
    refine ⟨fun c => ?_, fun c => ?_⟩
    · replace h := h.1 c
      refine ⟨hasO_of hW t_t0, ?_⟩
      intro z9 e_z9
      replace h := h z9 e_z9
      have t_z9 : ∀ b, z9 = some b → (b, Sum.inl 8) ∈ d := fun b hb => hW.2.1 71 _ b t_t0 (by rw [← e_z9]; exact hb)
      have n_z9 := wt_nn (f := 71) hW (by decide) t_t0 e_z9
      refine ⟨hasO_of hW t_t0, ?_⟩
      intro z10 e_z10
      replace h := h z10 e_z10
      have t_z10 : ∀ b, z10 = some b → (b, Sum.inl 5) ∈ d := fun b hb => hW.2.1 74 _ b t_t0 (by rw [← e_z10]; exact hb)
      obtain ⟨q11, e_q11⟩ := n_z9
      refine ⟨q11, e_q11, ?_⟩
      replace h := h q11 e_q11
      have t_q11 := t_z9 q11 e_q11
      obtain ⟨q12, e_q12, h9⟩ := h
      replace h := h9
      clear h9
      refine ⟨q12, e_q12, ?_⟩
      have t_q12 := t_z10 q12 e_q12
      refine ⟨hasO_of hW t_q11, ?_⟩
      refine ty_X8_leadsTo t_q11 t_q12 hW (fun S13 r13 hW h => ?_) h
      refine ⟨fun c => ?_, fun c => ?_⟩
      · replace h := h.1 c
        exact hk _ _ hW h
      · replace h := h.2 c
        exact hk _ _ hW h
    · replace h := h.2 c
      exact hk _ _ hW h
def wT_X11_put (t0 : Nat) (a0 : Int32) (a1 : Int32) (S : kS) (K : kS → Int32 → Prop) : Prop := ∀ z1 : Option Nat, z1 = S.2.1 73 t0 → ∀ q2 : Nat, z1 = some q2 → ∀ z3 : Option Nat, z3 = S.2.1 40 q2 → ∀ q4 : Nat, z3 = some q4 → wT_X0_tell q4 a0 a1 S (fun (S5 : kS) (r5 : Int32) => K S5 r5)
theorem ty_X11_put {d : List (Nat × cK)} {t0 : Nat} {a0 : Int32} {a1 : Int32} (t_t0 : (t0, Sum.inl 11) ∈ d) {S : kS} {K K' : kS → Int32 → Prop} (hW : WT d S) (hk : ∀ S1 r1, WT d S1 → K S1 r1 → K' S1 r1) (h : wT_X11_put t0 a0 a1 S K) : wp_X11_put t0 a0 a1 S K' := by
  unfold wT_X11_put at h
  unfold wp_X11_put
  refine ⟨hasO_of hW t_t0, ?_⟩
  intro z1 e_z1
  replace h := h z1 e_z1
  have t_z1 : ∀ b, z1 = some b → (b, Sum.inl 6) ∈ d := fun b hb => hW.2.1 73 _ b t_t0 (by rw [← e_z1]; exact hb)
  have n_z1 := wt_nn (f := 73) hW (by decide) t_t0 e_z1
  obtain ⟨q2, e_q2⟩ := n_z1
  refine ⟨q2, e_q2, ?_⟩
  replace h := h q2 e_q2
  have t_q2 := t_z1 q2 e_q2
  refine ⟨hasO_of hW t_q2, ?_⟩
  intro z3 e_z3
  replace h := h z3 e_z3
  have t_z3 : ∀ b, z3 = some b → (b, Sum.inl 0) ∈ d := fun b hb => hW.2.1 40 _ b t_q2 (by rw [← e_z3]; exact hb)
  have n_z3 := wt_nn (f := 40) hW (by decide) t_q2 e_z3
  obtain ⟨q4, e_q4⟩ := n_z3
  refine ⟨q4, e_q4, ?_⟩
  replace h := h q4 e_q4
  have t_q4 := t_z3 q4 e_q4
  refine ⟨hasO_of hW t_q4, ?_⟩
  refine ty_X0_tell t_q4 hW (fun S5 r5 hW h => ?_) h
  exact hk _ _ hW h
def wT_X11_row (t0 : Nat) (a0 : Int32) (S : kS) (K : kS → Int32 → Prop) : Prop := ((a0 < 0 → K S (-1)) ∧ (¬ a0 < 0 → ∀ z2 : Option Nat, z2 = S.2.1 72 t0 → ∀ q3 : Nat, z2 = some q3 → ∀ z4 : Int32, z4 = S.1 3 q3 → ((a0 < z4 → ∀ z6 : Option Nat, z6 = S.2.1 72 t0 → ∀ q7 : Nat, z6 = some q7 → ∀ z8 : Option Nat, z8 = S.2.1 4 q7 → ∀ q9 : Nat, z8 = some q9 → inR a0 200 ∧ ∀ z10 : Int32, z10 = S.2.2.1 q9 (ix a0) → K S z10) ∧ (¬ a0 < z4 → K S (-1)))))
theorem ty_X11_row {d : List (Nat × cK)} {t0 : Nat} {a0 : Int32} (t_t0 : (t0, Sum.inl 11) ∈ d) {S : kS} {K K' : kS → Int32 → Prop} (hW : WT d S) (hk : ∀ S1 r1, WT d S1 → K S1 r1 → K' S1 r1) (h : wT_X11_row t0 a0 S K) : wp_X11_row t0 a0 S K' := by
  unfold wT_X11_row at h
  unfold wp_X11_row
  refine ⟨fun c => ?_, fun c => ?_⟩
  · replace h := h.1 c
    exact hk _ _ hW h
  · replace h := h.2 c
    refine ⟨hasO_of hW t_t0, ?_⟩
    intro z2 e_z2
    replace h := h z2 e_z2
    have t_z2 : ∀ b, z2 = some b → (b, Sum.inl 1) ∈ d := fun b hb => hW.2.1 72 _ b t_t0 (by rw [← e_z2]; exact hb)
    have n_z2 := wt_nn (f := 72) hW (by decide) t_t0 e_z2
    obtain ⟨q3, e_q3⟩ := n_z2
    refine ⟨q3, e_q3, ?_⟩
    replace h := h q3 e_q3
    have t_q3 := t_z2 q3 e_q3
    refine ⟨hasO_of hW t_q3, ?_⟩
    intro z4 e_z4
    replace h := h z4 e_z4
    refine ⟨fun c => ?_, fun c => ?_⟩
    · replace h := h.1 c
      refine ⟨hasO_of hW t_t0, ?_⟩
      intro z6 e_z6
      replace h := h z6 e_z6
      have t_z6 : ∀ b, z6 = some b → (b, Sum.inl 1) ∈ d := fun b hb => hW.2.1 72 _ b t_t0 (by rw [← e_z6]; exact hb)
      have n_z6 := wt_nn (f := 72) hW (by decide) t_t0 e_z6
      obtain ⟨q7, e_q7⟩ := n_z6
      refine ⟨q7, e_q7, ?_⟩
      replace h := h q7 e_q7
      have t_q7 := t_z6 q7 e_q7
      refine ⟨hasO_of hW t_q7, ?_⟩
      intro z8 e_z8
      replace h := h z8 e_z8
      have t_z8 : ∀ b, z8 = some b → (b, Sum.inr (200, 0)) ∈ d := fun b hb => hW.2.1 4 _ b t_q7 (by rw [← e_z8]; exact hb)
      have n_z8 := wt_nn (f := 4) hW (by decide) t_q7 e_z8
      obtain ⟨q9, e_q9⟩ := n_z8
      refine ⟨q9, e_q9, ?_⟩
      replace h := h q9 e_q9
      have t_q9 := t_z8 q9 e_q9
      refine ⟨hasA_of hW t_q9, ?_⟩
      have hin := h.1
      refine ⟨h.1, ?_⟩
      replace h := h.2
      intro z10 e_z10
      replace h := h z10 e_z10
      exact hk _ _ hW h
    · replace h := h.2 c
      exact hk _ _ hW h
def wT_X2_taskAt_35 (K : kS → Int32 → Prop) (x2 : Option Nat) (S : kS) : Prop := ((x2 = none → K S (-1)) ∧ (∀ q7 : Nat, x2 = some q7 → ∀ z8 : Option Nat, z8 = S.2.1 21 q7 → ∃ q9 : Nat, z8 = some q9 ∧ ∀ z10 : Int32, z10 = S.1 28 q9 → K S z10))
def wT_X2_taskAt_15 (K : kS → Int32 → Prop) (k15 : Int32 × Option Nat × Int32 × kS → Prop) (x1 : Int32) (x2 : Option Nat) (x3 : Int32) (S : kS) : Prop := ((x1 ≤ x3 → wT_X2_taskAt_35 K x2 S) ∧ (¬ x1 ≤ x3 → ((x2 = none → wT_X2_taskAt_35 K none S) ∧ (∀ q4 : Nat, x2 = some q4 → ∀ z5 : Option Nat, z5 = S.2.1 27 q4 → ∀ z6 : Int32, z6 = x3 + 1 → k15 (x1, z5, z6, S)))))
def lT_X2_taskAt_15 (K : kS → Int32 → Prop) (k15 : Int32 × Option Nat × Int32 × kS → Prop) (u : Int32 × Option Nat × Int32 × kS) : Prop := wT_X2_taskAt_15 K k15 u.1 u.2.1 u.2.2.1 u.2.2.2
def wT_X2_taskAt_12 (K : kS → Int32 → Prop) (x1 : Int32) (y0 : Option Nat) (S : kS) : Prop := (∃ n9, it (lT_X2_taskAt_15 K) n9 (x1, y0, 0, S))
def wT_X2_taskAt (t0 : Nat) (a0 : Int32) (S : kS) (K : kS → Int32 → Prop) : Prop := ((0 ≤ a0 → ∀ z2 : Option Nat, z2 = S.2.1 12 t0 → wT_X2_taskAt_12 K a0 z2 S) ∧ (¬ 0 ≤ a0 → wT_X2_taskAt_12 K a0 none S))
theorem ty_X2_taskAt_35 {d : List (Nat × cK)} {K K' : kS → Int32 → Prop} (hk : ∀ S1 r1, WT d S1 → K S1 r1 → K' S1 r1) {x2 : Option Nat} (t_x2 : ∀ b, x2 = some b → (b, Sum.inl 4) ∈ d) {S : kS} (hW : WT d S) (h : wT_X2_taskAt_35 K x2 S) : wp_X2_taskAt_35 K' x2 S := by
  unfold wT_X2_taskAt_35 at h
  unfold wp_X2_taskAt_35
  refine ⟨fun c => ?_, fun q7 c => ?_⟩
  · replace h := h.1 c
    exact hk _ _ hW h
  · replace h := h.2 q7 c
    have t_q7 := t_x2 q7 c
    refine ⟨hasO_of hW t_q7, ?_⟩
    intro z8 e_z8
    replace h := h z8 e_z8
    have t_z8 : ∀ b, z8 = some b → (b, Sum.inl 9) ∈ d := fun b hb => hW.2.1 21 _ b t_q7 (by rw [← e_z8]; exact hb)
    obtain ⟨q9, e_q9, h9⟩ := h
    replace h := h9
    clear h9
    refine ⟨q9, e_q9, ?_⟩
    have t_q9 := t_z8 q9 e_q9
    refine ⟨hasO_of hW t_q9, ?_⟩
    intro z10 e_z10
    replace h := h z10 e_z10
    exact hk _ _ hW h
theorem ty_X2_taskAt_15 {d : List (Nat × cK)} {K K' : kS → Int32 → Prop} {k15 k15' : Int32 × Option Nat × Int32 × kS → Prop} (hk : ∀ S1 r1, WT d S1 → K S1 r1 → K' S1 r1) (hk15 : ∀ (x1 : Int32) (x2 : Option Nat) (x3 : Int32), (∀ b, x2 = some b → (b, Sum.inl 4) ∈ d) → ∀ S : kS, WT d S → k15 (x1, x2, x3, S) → k15' (x1, x2, x3, S)) {x1 : Int32} {x2 : Option Nat} {x3 : Int32} (t_x2 : ∀ b, x2 = some b → (b, Sum.inl 4) ∈ d) {S : kS} (hW : WT d S) (h : wT_X2_taskAt_15 K k15 x1 x2 x3 S) : wp_X2_taskAt_15 K' k15' x1 x2 x3 S := by
  unfold wT_X2_taskAt_15 at h
  unfold wp_X2_taskAt_15
  refine ⟨fun c => ?_, fun c => ?_⟩
  · replace h := h.1 c
    exact ty_X2_taskAt_35 hk t_x2 hW h
  · replace h := h.2 c
    refine ⟨fun c => ?_, fun q4 c => ?_⟩
    · replace h := h.1 c
      exact ty_X2_taskAt_35 hk (fun b hb => by cases hb) hW h
    · replace h := h.2 q4 c
      have t_q4 := t_x2 q4 c
      refine ⟨hasO_of hW t_q4, ?_⟩
      intro z5 e_z5
      replace h := h z5 e_z5
      have t_z5 : ∀ b, z5 = some b → (b, Sum.inl 4) ∈ d := fun b hb => hW.2.1 27 _ b t_q4 (by rw [← e_z5]; exact hb)
      intro z6 e_z6
      replace h := h z6 e_z6
      exact hk15 _ _ _ t_z5 _ hW h
theorem tyl_X2_taskAt_15 {d : List (Nat × cK)} {K K' : kS → Int32 → Prop} (hk : ∀ S1 r1, WT d S1 → K S1 r1 → K' S1 r1) : ∀ (n : Nat) (x1 : Int32) (x2 : Option Nat) (x3 : Int32), (∀ b, x2 = some b → (b, Sum.inl 4) ∈ d) → ∀ S : kS, WT d S → it (lT_X2_taskAt_15 K) n (x1, x2, x3, S) → it (ls_X2_taskAt_15 K') n (x1, x2, x3, S) := by
  intro n
  induction n with
  | zero => exact fun _ _ _ _ _ _ h => h
  | succ n ih => exact fun x1 x2 x3 t_x2 S hW h => ty_X2_taskAt_15 hk ih t_x2 hW h
theorem ty_X2_taskAt_12 {d : List (Nat × cK)} {K K' : kS → Int32 → Prop} (hk : ∀ S1 r1, WT d S1 → K S1 r1 → K' S1 r1) {x1 : Int32} {y0 : Option Nat} (t_y0 : ∀ b, y0 = some b → (b, Sum.inl 4) ∈ d) {S : kS} (hW : WT d S) (h : wT_X2_taskAt_12 K x1 y0 S) : wp_X2_taskAt_12 K' x1 y0 S := by
  unfold wT_X2_taskAt_12 at h
  unfold wp_X2_taskAt_12
  obtain ⟨n9, h⟩ := h
  exact ⟨n9, tyl_X2_taskAt_15 hk n9 _ _ _ t_y0 _ hW h⟩
theorem ty_X2_taskAt {d : List (Nat × cK)} {t0 : Nat} {a0 : Int32} (t_t0 : (t0, Sum.inl 2) ∈ d) {S : kS} {K K' : kS → Int32 → Prop} (hW : WT d S) (hk : ∀ S1 r1, WT d S1 → K S1 r1 → K' S1 r1) (h : wT_X2_taskAt t0 a0 S K) : wp_X2_taskAt t0 a0 S K' := by
  unfold wT_X2_taskAt at h
  unfold wp_X2_taskAt
  refine ⟨fun c => ?_, fun c => ?_⟩
  · replace h := h.1 c
    refine ⟨hasO_of hW t_t0, ?_⟩
    intro z2 e_z2
    replace h := h z2 e_z2
    have t_z2 : ∀ b, z2 = some b → (b, Sum.inl 4) ∈ d := fun b hb => hW.2.1 12 _ b t_t0 (by rw [← e_z2]; exact hb)
    exact ty_X2_taskAt_12 hk t_z2 hW h
  · replace h := h.2 c
    exact ty_X2_taskAt_12 hk (fun b hb => by cases hb) hW h
