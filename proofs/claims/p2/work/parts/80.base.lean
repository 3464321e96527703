
theorem q_zz {S : mS} {k j : Nat} {v : Int32} : (sZ S k v).1 j = if j = k then v else S.1 j := rfl
theorem q_zf {S : mS} {k : Nat} {v : Int32} : (sZ S k v).2.1 = S.2.1 := rfl
theorem q_zg {S : mS} {k : Nat} {v : Int32} : (sZ S k v).2.2 = S.2.2 := rfl
theorem q_fz {S : mS} {k i : Nat} {v : Int32} : (sF S k i v).1 = S.1 := rfl
theorem q_ff {S : mS} {k i j : Nat} {v : Int32} : (sF S k i v).2.1 j = if j = k then upd (S.2.1 k) i v else S.2.1 j := rfl
theorem q_fg {S : mS} {k i : Nat} {v : Int32} : (sF S k i v).2.2 = S.2.2 := rfl
theorem q_gz {S : mS} {k i : Nat} {v : Int64} : (sG S k i v).1 = S.1 := rfl
theorem q_gf {S : mS} {k i : Nat} {v : Int64} : (sG S k i v).2.1 = S.2.1 := rfl
theorem q_gg {S : mS} {k i j : Nat} {v : Int64} : (sG S k i v).2.2 j = if j = k then vp_updL (S.2.2 k) i v else S.2.2 j := rfl
theorem up_at {f : Nat → Int32} {i : Nat} {v : Int32} : upd f i v i = v := by unfold upd; rw [if_pos rfl]
theorem up_ne {f : Nat → Int32} {i j : Nat} {v : Int32} (h : j ≠ i) : upd f i v j = f j := by unfold upd; rw [if_neg h]
theorem uL_at {f : Nat → Int64} {i : Nat} {v : Int64} : vp_updL f i v i = v := by unfold vp_updL; rw [if_pos rfl]
theorem uL_ne {f : Nat → Int64} {i j : Nat} {v : Int64} (h : j ≠ i) : vp_updL f i v j = f j := by unfold vp_updL; rw [if_neg h]
theorem w_lt {x y : Int32} (h : x < y) : x.toInt < y.toInt := Int32.lt_iff_toInt_lt.mp h
theorem w_le {x y : Int32} (h : x ≤ y) : x.toInt ≤ y.toInt := Int32.le_iff_toInt_le.mp h
theorem w_nlt {x y : Int32} (h : ¬ x < y) : y.toInt ≤ x.toInt := Int32.le_iff_toInt_le.mp (Int32.not_lt.mp h)
theorem w_nle {x y : Int32} (h : ¬ x ≤ y) : y.toInt < x.toInt := Int32.lt_iff_toInt_lt.mp (Int32.not_le.mp h)
theorem w_eq {x y : Int32} (h : x = y) : x.toInt = y.toInt := by rw [h]
theorem w_ne {x y : Int32} (h : ¬ x = y) : x.toInt ≠ y.toInt := fun q => h (Int32.toInt_inj.mp q)
theorem w_add {x y z : Int32} (e : z = x + y) (h : -2147483648 ≤ x.toInt + y.toInt ∧ x.toInt + y.toInt < 2147483648) : z.toInt = x.toInt + y.toInt := ti_add e rfl rfl h
theorem w_sub {x y z : Int32} (e : z = x - y) (h : -2147483648 ≤ x.toInt - y.toInt ∧ x.toInt - y.toInt < 2147483648) : z.toInt = x.toInt - y.toInt := ti_sub e rfl rfl h
theorem w_mul {x y z : Int32} (e : z = x * y) (h : -2147483648 ≤ x.toInt * y.toInt ∧ x.toInt * y.toInt < 2147483648) : z.toInt = x.toInt * y.toInt := ti_mul e rfl rfl h
theorem ix_of {x : Int32} {n : Nat} (h : x.toInt = (n : Int)) : ix x = n := by unfold ix; rw [h]; rfl
