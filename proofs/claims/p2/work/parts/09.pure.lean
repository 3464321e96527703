
theorem ln_eq {a0 a1 a2 a3 a4 a5 a6 a7 : Nat} : va_up (va_up (va_up (va_up (va_up (va_up (va_up (va_up (fun _ => none) (0 : Int32).toNatClampNeg (some a0)) (1 : Int32).toNatClampNeg (some a1)) (2 : Int32).toNatClampNeg (some a2)) (3 : Int32).toNatClampNeg (some a3)) (4 : Int32).toNatClampNeg (some a4)) (5 : Int32).toNatClampNeg (some a5)) (6 : Int32).toNatClampNeg (some a6)) (7 : Int32).toNatClampNeg (some a7) = fun i => [a0, a1, a2, a3, a4, a5, a6, a7][i]? := by
  funext i
  rw [show (0 : Int32).toNatClampNeg = 0 from rfl, show (1 : Int32).toNatClampNeg = 1 from rfl, show (2 : Int32).toNatClampNeg = 2 from rfl, show (3 : Int32).toNatClampNeg = 3 from rfl, show (4 : Int32).toNatClampNeg = 4 from rfl, show (5 : Int32).toNatClampNeg = 5 from rfl, show (6 : Int32).toNatClampNeg = 6 from rfl, show (7 : Int32).toNatClampNeg = 7 from rfl]
  match i with
  | 0 => rfl
  | 1 => rfl
  | 2 => rfl
  | 3 => rfl
  | 4 => rfl
  | 5 => rfl
  | 6 => rfl
  | 7 => rfl
  | n + 8 => simp [va_up]
