
theorem MI_init {M : mS} (h1 : ∀ k, k ≠ 20 → M.1 k = 0) (h20 : M.1 20 = 1) (h2 : ∀ k i, M.2.1 k i = 0) (hw : WD (M.2.2 4)) : MI 0 0 M := by
  have q0 : (0 : Int32).toInt = 0 := rfl
  have ce : ∀ k, CE (M.2.1 k) := fun k i hi => by rw [h2, q0]; omega
  have fg : FG M := ⟨h1 22 (by decide), h1 23 (by decide), h1 24 (by decide), h1 26 (by decide), h1 27 (by decide), h1 28 (by decide), h1 29 (by decide), h1 30 (by decide), fun i _ => h2 _ _⟩
  refine ⟨⟨by rw [h1 1 (by decide)]; rfl, by omega⟩, ⟨hw, ce 8, ce 7, Or.inr h20, ?_, ?_, ?_⟩, 0, 0, 0, 0, 0, fun _ => DD, bmp M 0, by omega, ?_, ?_, ce 7, W0_fresh fg (fun i hi => by rw [h2, q0]; omega) ⟨by decide, fun i => by rw [h2, q0]; omega⟩, by rw [bmp_60, q0]; omega⟩
  · rw [h1 24 (by decide), q0]; omega
  · unfold BNp
    rw [h1 27 (by decide), h1 25 (by decide), q0]; omega
  · rw [h1 25 (by decide), h1 29 (by decide), q0]; omega
  · rw [h1 5 (by decide), q0]; rfl
  · have r0 : ((bmp M 0).2.1 5 0).toInt = 0 := by
      show (M.2.1 5 0).toInt = 0
      rw [h2]; rfl
    refine ⟨⟨by omega, by omega, by omega, by omega, by omega, by omega, by omega⟩, rfl, fun q h1 h2 => absurd h2 (by omega), fun q h1 h2 => absurd h2 (by omega), fun q h1 h2 => absurd h2 (by omega), fun q h1 h2 => absurd h2 (by omega), ⟨fun q h1 h2 => absurd h2 (by omega), fun q h1 h2 => absurd h2 (by omega), fun q h1 h2 => absurd h2 (by omega)⟩⟩
/-- W0 behind feed -/
theorem lm_feed0 (n k : Nat) (M : mS) (a0 a1 a2 : Int64) (hk : k < 512) (h : MI n k M) : wp_feed a0 a1 a2 M (fun M1 r => MI (min 4000 (n + (fs_n a0 8 + fs_n a1 8 + fs_n a2 8))) (k + 1) M1 ∧ r.toInt = ((min 4000 (n + (fs_n a0 8 + fs_n a1 8 + fs_n a2 8)) : Nat) : Int)) := by
  obtain ⟨a, b, hx, cd, nt, nw, na, ty, P, c1, c2, c3, c4, c5, c6⟩ := h
  refine fm_feed _ _ _ _ _ _ (fun M1 r f p => ⟨⟨⟨p.2, Nat.min_le_left _ _⟩, MIb_up (MIb_fr f (by decide) (by decide) (by decide) b) (by omega), hx, cd, nt, nw, na, ty, P, c1, by rw [f.1 5 (by decide)]; exact c2, c3, c4, ?_, by omega⟩, by rw [p.1]; exact p.2⟩) (sp_feed a0 a1 a2 M n a.1 a.2)
  refine W0_n5 (P := P) (S := M) (fun j hj => f.1 j (by clear f; revert hj; revert j; decide)) (fun j hj => f.2.1 j (by clear f; revert hj; revert j; decide)) (f.2.2 86 (by decide)) ⟨(f.1 5 (by decide)).trans c5.1.1, fun j h5 hj => (f.2.1 j (fun q => by rw [List.mem_singleton] at q; omega)).trans (c5.1.2 j h5 hj)⟩ id rfl rfl c5
