
theorem sg_emit {nx : Nat} (a0 a1 a2 : Int32) {S : mS} (h : 12000 * nx ≤ (S.1 7).toInt ∧ (S.1 7).toInt < 12000 * nx + 12000 ∧ nx ≤ 1) : wp_emit a0 a1 a2 S (fun S1 r => (r = (S.1 7) ∧ (S1.1 7).toInt = (S.1 7).toInt + 1) ∧ (EN nx a0 a1 a2 S S1 ∧ NO nx S S1)) := by
  refine fm_emit _ _ _ _ _ _ (fun S1 r _ p => ?_) (sp_emit a0 a1 a2 ⟨by omega, by omega⟩)
  have q := EN_of (c := a0) (a := a1) (b := a2) h p.2
  exact ⟨⟨p.1, q.1.2.1⟩, q⟩
theorem sg_act {nx : Nat} (a0 a1 : Int32) {S : mS} (h : 12000 * nx ≤ (S.1 8).toInt ∧ (S.1 8).toInt < 12000 * nx + 12000 ∧ nx ≤ 1) : wp_act a0 a1 S (fun S1 r => (r = (S.1 8) ∧ (S1.1 8).toInt = (S.1 8).toInt + 1) ∧ (NO nx S S1 ∧ (∀ m : Int, AF nx m S → AQ nx S a0 a1 → AF nx m S1))) := by
  refine fm_act _ _ _ _ _ (fun S1 r _ p => ?_) (sp_act a0 a1 ⟨by omega, by omega⟩)
  have hb : 12000 * nx ≤ (S.1 8).toInt ∧ (S.1 8).toInt < 12000 * nx + 12000 := ⟨h.1, h.2.1⟩
  have q1 : (1 : Int32).toInt = 1 := rfl
  have ha := w_add (z := (S.1 8) + 1) rfl (by rw [q1]; omega)
  rw [q1] at ha
  refine ⟨⟨p.1, by rw [p.2]; exact ha⟩, ?_, fun m hm h87 => AF_act p.2 (by omega) hm h87⟩
  rw [p.2]
  unfold actS
  exact NO_tr (NO_tr (NO_tr (NO_tr (NO_tr (NO_tr (NO_tr (NO_f rfl (nH_c (by decide) hb)) (NO_f rfl (nH_c (by decide) hb))) (NO_f rfl (nH_c (by decide) hb))) (NO_f rfl (nH_c (by decide) hb))) (NO_f rfl (nH_c (by decide) hb))) (NO_f rfl (nH_c (by decide) hb))) (NO_f rfl (nH_c (by decide) hb))) (NO_z rfl)
theorem sg_lead {nx : Nat} (a0 : Int32) {S : mS} (h : (S.1 19).toInt < 12000 * nx + 12000 ∧ LA nx (S.1 19).toInt ∧ nx ≤ 1) : wp_lead a0 S (fun S1 => True ∧ (NO nx S S1 ∧ (∀ m : Int, AF nx m S → AV nx S a0 → AF nx m S1))) := by
  refine fm_lead _ _ _ _ (fun S1 _ p => ⟨trivial, ?_, fun m hm h1 => AF_lead p h1 hm⟩) (sp_lead a0 (by omega))
  rcases p with p | p
  · rw [p.2]; exact NO_rf
  · have hb : 12000 * nx ≤ (S.1 19).toInt ∧ (S.1 19).toInt < 12000 * nx + 12000 := ⟨by rcases h.2.1 with q | q <;> omega, by omega⟩
    rcases p.2 with e | e
    · exact NO_f e (nH_c (by decide) hb)
    · exact NO_f e (nH_c (by decide) hb)
