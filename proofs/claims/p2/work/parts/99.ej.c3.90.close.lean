
theorem sv_X3_waitFor : ∀ n : Nat, ∀ (tk pg sc : Nat) (t0 : Nat) (a0 : Int32) (S : kS), INJ S → S.2.1 14 t0 = some tk → S.2.1 15 t0 = some pg → S.2.1 16 t0 = some sc → RG (vw t0 tk pg sc S) → BG 12 (vw t0 tk pg sc S) → TY ((2 * a0.toInt)) (vw t0 tk pg sc S) → (0 ≤ a0.toInt ∧ a0.toInt ≤ 10) → (11 - a0.toInt ≤ (n : Int)) → wV_X3_waitFor n t0 a0 S (fun S1 => Rx (-1) (vw t0 tk pg sc S) (vw t0 tk pg sc S1) ∧ TY ((wo a0.toInt)) (vw t0 tk pg sc S1)) := by
  intro n
  induction n with
  | zero =>
    intros
    exfalso
    omega
  | succ n ih =>
    intro tk pg sc t0 a0 S h0 h1 h2 h3 h4 h5 h6 q0 q1
    exact sk_X3_waitFor (n := (n : Int)) (krT_X3_waitFor n) ih t0 a0 h0 h1 h2 h3 h4 h5 h6 q0 (by omega)
theorem sq_X3_waitFor {tk pg sc : Nat} (t0 : Nat) (a0 : Int32) {S : kS} (hI : INJ S) (hO14_t0 : S.2.1 14 t0 = some tk) (hO15_t0 : S.2.1 15 t0 = some pg) (hO16_t0 : S.2.1 16 t0 = some sc) (hG_S : RG (vw t0 tk pg sc S)) (hB_S : BG 12 (vw t0 tk pg sc S)) (hT_S : TY ((2 * a0.toInt)) (vw t0 tk pg sc S)) (ha : 0 ≤ a0.toInt ∧ a0.toInt ≤ 10) : wU_X3_waitFor t0 a0 S (fun S1 => Rx (-1) (vw t0 tk pg sc S) (vw t0 tk pg sc S1) ∧ TY ((wo a0.toInt)) (vw t0 tk pg sc S1)) := sv_X3_waitFor 12 tk pg sc t0 a0 S hI hO14_t0 hO15_t0 hO16_t0 hG_S hB_S hT_S ha (by omega)
