
def sx_sp (bs : List Int32) : Nat → Nat
  | 0 => 0
  | k + 1 => sx_sp bs k + (if sx_c bs k = 32 then 1 else 0)
theorem sx_sp1 {bs : List Int32} {k : Nat} (h : sx_c bs k = 32) : sx_sp bs (k + 1) = sx_sp bs k + 1 := by show sx_sp bs k + _ = _; rw [if_pos h]
theorem sx_sp0 {bs : List Int32} {k : Nat} (h : ¬ sx_c bs k = 32) : sx_sp bs (k + 1) = sx_sp bs k := by show sx_sp bs k + _ = _; rw [if_neg h]; rfl
