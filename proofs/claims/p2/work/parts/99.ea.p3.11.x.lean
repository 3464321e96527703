
theorem rp_part {nx n : Nat} {so pl : Nat → Int32} {wo ws : Nat → Int64} {S0 : mS} : ∀ (m D : Nat), 11 ≤ m + D → ∀ (d : Nat) (G GA X Y : Int) (S : mS), D ≤ d → LV d G GA X Y → XI nx n so pl wo ws S0 d G GA X Y S → wr_part m S (fun S1 => XI nx n so pl wo ws S0 d (G - 1) GA X Y S1 ∧ ((S1.1 4) = 0 → (S.1 4) = 0 ∧ (S.1 3).toInt < (S1.1 3).toInt)) := by
  intro m
  induction m with
  | zero => intro D hD d G GA X Y S h1 h2 h3; exact absurd h2.1 (by omega)
  | succ m ih => intro D hD d G GA X Y S h1 h2 h3; exact sg_part (D := D + 1) (fr_part m) (ih (D + 1) (by omega)) h2 h3 (by omega)
theorem sq_expression {nx n : Nat} {so pl : Nat → Int32} {wo ws : Nat → Int64} {S0 : mS} {d : Nat} {G GA X Y : Int} {S : mS} (hL : LV d G GA X Y) (h : XI nx n so pl wo ws S0 d G GA X Y S) : wq_expression S (fun S1 => XI nx n so pl wo ws S0 d (G - 1) GA (X + 6) (Y + 1) S1 ∧ ((S1.1 4) = 0 → (S.1 4) = 0 ∧ (S.1 3).toInt < (S1.1 3).toInt)) := sg_expression (D := 0) (fr_part 12) (rp_part 12 0 (by omega)) hL h (Nat.zero_le _)
