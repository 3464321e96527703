
theorem mS0_z {k : Nat} (h : k ≠ 20) : mS0.1 k = 0 := by
  show (if k = 20 then (1 : Int32) else 0) = 0
  rw [if_neg h]
theorem LawM_MI : LawM MI := ⟨fun _ _ _ h => MI_idle h, fun n k M a0 a1 a2 hk h => fm_feed _ _ _ _ _ _ (fun M1 r _ p => ⟨p.1, Int32.toInt_inj.mp (p.2.trans (nI_toInt (by have := Nat.min_le_left 4000 (n + (fs_n a0 8 + fs_n a1 8 + fs_n a2 8)); omega)).symm)⟩) (lm_feed0 n k M a0 a1 a2 hk h), lm_program, lm_named, lm_routine, lm_live, lm_next, lm_begin, lm_turn, lm_rounds, lm_letter, lm_tick, lm_cancel, lm_task, lm_cell, lm_row, lm_put, lm_lost, lm_box, lm_stands, lm_count⟩
theorem MI_mS1 : MI 0 0 mS1 := MI_init (fun k hk => by
    show mS0.1 k = 0
    exact mS0_z hk) rfl (fun k i => rfl) mS1_words
