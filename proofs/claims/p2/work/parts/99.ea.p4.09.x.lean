
theorem rp_waitTree {nx n : Nat} {so pl : Nat → Int32} {wo ws : Nat → Int64} {S0 : mS} : ∀ (m D : Nat), 11 ≤ m + D → ∀ (d : Nat) (G GA X Y : Int) (S : mS), D ≤ d → LV d G GA X Y → XI nx n so pl wo ws S0 d G GA X Y S → wr_waitTree m S (fun S1 => XI nx n so pl wo ws S0 d G GA X Y S1 ∧ ((S1.1 4) = 0 → (S.1 4) = 0 ∧ (S.1 3).toInt < (S1.1 3).toInt)) := by
  intro m
  induction m with
  | zero => intro D hD d G GA X Y S h1 h2 h3; exact absurd h2.1 (by omega)
  | succ m ih => intro D hD d G GA X Y S h1 h2 h3; exact sg_waitTree (D := D + 1) (fr_waitTree m) (ih (D + 1) (by omega)) h2 h3 (by omega)
theorem sq_waitTree {nx n : Nat} {so pl : Nat → Int32} {wo ws : Nat → Int64} {S0 : mS} {d : Nat} {G GA X Y : Int} {S : mS} (hL : LV d G GA X Y) (h : XI nx n so pl wo ws S0 d G GA X Y S) : wq_waitTree S (fun S1 => XI nx n so pl wo ws S0 d G GA X Y S1 ∧ ((S1.1 4) = 0 → (S.1 4) = 0 ∧ (S.1 3).toInt < (S1.1 3).toInt)) := rp_waitTree 12 0 (by omega) d G GA X Y S (Nat.zero_le _) hL h
