
theorem lw_neg {L : Nat} (h : L < 7) : (Int32.ofNat L - 7 : Int32) < 0 := by
  match L, h with
  | 0, _ => decide
  | 1, _ => decide
  | 2, _ => decide
  | 3, _ => decide
  | 4, _ => decide
  | 5, _ => decide
  | 6, _ => decide
