
theorem CF_tick0 {nx : Nat} {L : LT3} {nt nw : Int} {tr : Int32} {S S1 : mS} {ec cr oc : Int} (hE : EN nx 25 0 0 S S1) (hq : CF nx L nt nw 1 ec 1 (cr + 1) oc tr S) (hc : 0 ≤ cr) : CF nx L nt nw 0 0 1 cr oc tr S1 := fun hf => by
  obtain ⟨h0, h1, hE⟩ := hE
  have hg := EM_f hE
  rw [hg.1] at hf
  obtain ⟨e9, c9, a1, a2, a3⟩ := hq hf
  rw [hg.2]
  exact ⟨0, c9 - 1, by omega, by omega, CW_emit hE h0 h1 a3 (fun _ q => q) (fun _ q => Or.inl q) (fun ty ty1 hw ht => ⟨by decide, by decide, fun g => absurd g (by decide), fun g => absurd g (by decide), fun g => absurd g (by decide), fun g => absurd g (by decide), fun g => absurd g (by decide), fun g => absurd g (by decide), fun g => absurd g (by decide), fun g => absurd g (by decide), fun g => absurd g (by decide), fun g => absurd g (by decide), fun g => absurd g (by decide), fun g => absurd g (by decide), fun g => absurd g (by decide), fun g => absurd g (by decide), fun g => absurd g (by decide), fun _ => ⟨rfl, (by omega : (1 : Int) ≤ c9), Int.le_refl _, WK_i (Int.le_refl _) rfl (Int.le_refl _) rfl (Int.le_refl _) rfl rfl⟩, fun g => absurd g (by decide), fun g => absurd g (by decide), fun g => absurd g (by decide), fun g => absurd g (by decide), fun g => absurd g (by decide), fun g => absurd g (by decide)⟩)⟩
theorem CF_open20 {nx : Nat} {L : LT3} {nt nw : Int} {tr : Int32} {S S1 : mS} {ec cr oc : Int} (hE : EN nx 28 2 0 S S1) (hq : CF nx L nt nw 1 ec 1 (cr + 2) oc tr S) (hc : 0 ≤ cr) (ho : oc ≤ 10) : CF nx L nt nw 0 0 1 cr (oc + 1) tr S1 := fun hf => by
  obtain ⟨h0, h1, hE⟩ := hE
  have hg := EM_f hE
  rw [hg.1] at hf
  obtain ⟨e9, c9, a1, a2, a3⟩ := hq hf
  rw [hg.2]
  exact ⟨0, c9 - 2, by omega, by omega, CW_emit hE h0 h1 a3 (fun _ q => q) (fun _ q => Or.inl q) (fun ty ty1 hw ht => ⟨by decide, by decide, fun g => absurd g (by decide), fun g => absurd g (by decide), fun g => absurd g (by decide), fun g => absurd g (by decide), fun g => absurd g (by decide), fun g => absurd g (by decide), fun g => absurd g (by decide), fun g => absurd g (by decide), fun g => absurd g (by decide), fun g => absurd g (by decide), fun g => absurd g (by decide), fun g => absurd g (by decide), fun g => absurd g (by decide), fun g => absurd g (by decide), fun g => absurd g (by decide), fun g => absurd g (by decide), fun g => absurd g (by decide), fun g => absurd g (by decide), fun _ => ⟨rfl, by decide, by decide, ho, fun _ => ⟨Int.le_refl _, (by omega : (2 : Int) ≤ c9), WK_i (Int.le_refl _) rfl (Int.le_refl _) rfl (Int.le_refl _) rfl rfl⟩, fun g => absurd rfl g⟩, fun g => absurd g (by decide), fun g => absurd g (by decide), fun g => absurd g (by decide)⟩)⟩
theorem LV_d {d : Nat} {G GA X Y : Int} (h : LV d G GA X Y) : (d : Int) ≤ 10 := by have := h.1; omega
