
def dpx (D : Nat → Nat) : Option Nat → Nat
  | none => 0
  | some q => D q + 1
theorem dpx_s {D : Nat → Nat} {q : Nat} {z : Option Nat} (h : ∀ p, z = some p → D q = D p + 1) : dpx D z < dpx D (some q) := by
  cases hz : z with
  | none => exact Nat.succ_pos _
  | some p =>
    have e9 := h p hz
    show D p + 1 < D q + 1
    omega
