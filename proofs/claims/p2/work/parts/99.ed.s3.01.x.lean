
theorem ofn (t : Nat) (h : (t : Int) < 2147483648) : ∃ n : Int32, n.toInt = t ∧ ix n = t := by
  have e : (Int32.ofInt t).toInt = t := by rw [Int32.toInt_ofInt]; exact ti_bm ⟨by omega, h⟩
  exact ⟨Int32.ofInt t, e, by unfold ix; omega⟩
theorem OPN_u {up en so : Nat → Int32} {ro : Int} {n : Nat} {u : Int32} {hi ow : Int} (h : OPN up en so ro n u hi ow) : u = -1 ∨ (ro ≤ u.toInt ∧ u.toInt < hi) := by
  cases n with
  | zero => exact Or.inl h.1
  | succ n => exact Or.inr ⟨h.1, h.2.1⟩
theorem OPN_dpt {up en so : Nat → Int32} {ro : Int} (h0 : 0 ≤ ro) : ∀ (n : Nat) (u : Int32) (hi ow : Int), OPN up en so ro n u hi ow → dpt up n u := by
  intro n
  induction n with
  | zero => intro u hi ow h; rw [h.1]; show (-1 : Int32).toInt < 0; decide
  | succ n ih => intro u hi ow h; exact ⟨by have := h.1; omega, ih _ _ _ h.2.2.2⟩
theorem OPN_ext {up en so up1 en1 so1 : Nat → Int32} {ro : Int} (h0 : 0 ≤ ro) : ∀ (n : Nat) (u : Int32) (hi ow : Int), (∀ i : Nat, (i : Int) < hi → up1 i = up i ∧ en1 i = en i ∧ so1 i = so i) → OPN up en so ro n u hi ow → OPN up1 en1 so1 ro n u hi ow := by
  intro n
  induction n with
  | zero => intro u hi ow he h; exact ⟨h.1, h.2.1, fun k k1 k2 => by rw [(he (ix k) (by unfold ix; omega)).2.1]; exact h.2.2 k k1 k2⟩
  | succ n ih =>
    intro u hi ow he h
    have a := h.1
    have b := h.2.1
    have e := he (ix u) (by unfold ix; omega)
    refine ⟨a, b, fun k k1 k2 => by rw [(he (ix k) (by unfold ix; omega)).2.1]; exact h.2.2.1 k k1 k2, ?_⟩
    rw [e.1, e.2.2]
    exact ih _ _ _ (fun i hi2 => he i (by omega)) h.2.2.2
theorem OPN_leaf {up en so : Nat → Int32} {ro : Int} {n : Nat} {u m : Int32} {hi ow : Int} (h : OPN up en so ro n u m.toInt ow) (hm : 0 < (en (ix m)).toInt) (hh : hi = m.toInt + 1) : OPN up en so ro n u hi ow := by
  cases n with
  | zero =>
    refine ⟨h.1, h.2.1, fun k k1 k2 => ?_⟩
    rcases Decidable.em (k.toInt = m.toInt) with d | d
    · rw [Int32.toInt_inj.mp d]; exact hm
    · exact h.2.2 k k1 (by omega)
  | succ n =>
    refine ⟨h.1, by have := h.2.1; omega, fun k k1 k2 => ?_, h.2.2.2⟩
    rcases Decidable.em (k.toInt = m.toInt) with d | d
    · rw [Int32.toInt_inj.mp d]; exact hm
    · exact h.2.2.1 k k1 (by omega)
theorem OPN_open {up en so : Nat → Int32} {ro : Int} {n : Nat} {u m : Int32} {hi ow ow1 : Int} (h : OPN up en so ro n u m.toInt ow) (hu : up (ix m) = u) (hr : ro ≤ m.toInt) (hh : hi = m.toInt + 1) (ho : ow1 = ow + if so (ix m) = 2 then 1 else 0) : OPN up en so ro (n + 1) m hi ow1 := by
  refine ⟨hr, by omega, fun k k1 k2 => absurd k2 (by omega), ?_⟩
  rw [hu, ho]
  have e : ow + (if so (ix m) = 2 then 1 else 0) - (if so (ix m) = 2 then 1 else 0) = ow := by omega
  rw [e]
  exact h
theorem OPN_shut {up en so : Nat → Int32} {ro : Int} {n : Nat} {u : Int32} {hi ow : Int} (h : OPN up en so ro (n + 1) u hi ow) (hm : 0 < (en (ix u)).toInt) : OPN up en so ro n (up (ix u)) hi (ow - if so (ix u) = 2 then 1 else 0) := by
  obtain ⟨a, b, c, d⟩ := h
  have key : ∀ k : Int32, k.toInt < hi → (k.toInt < u.toInt → 0 < (en (ix k)).toInt) → 0 < (en (ix k)).toInt := by
    intro k k1 k2
    rcases Decidable.em (k.toInt < u.toInt) with g | g
    · exact k2 g
    · rcases Decidable.em (k.toInt = u.toInt) with q | q
      · rw [Int32.toInt_inj.mp q]; exact hm
      · exact c k (by omega) k1
  cases n with
  | zero => exact ⟨d.1, d.2.1, fun k k1 k2 => key k k2 (fun g => d.2.2 k k1 g)⟩
  | succ n => exact ⟨d.1, by have := d.2.1; omega, fun k k1 k2 => key k k2 (fun g => d.2.2.1 k k1 g), d.2.2.2⟩
/-- how the trees grow -/
theorem dpt_nd {S S1 : mS} {x : Int32} (hT : TREE S) (e81 : S1.2.1 81 = upd (S.2.1 81) (ix (S.1 29)) x) : ∀ (h : Nat) (n : Int32), (n.toInt < 0 ∨ (0 ≤ n.toInt ∧ n.toInt < (S.1 29).toInt)) → dpt ((S.2.1 81)) h n → dpt ((S1.2.1 81)) h n := by
  have hb := hT.1
  refine dpt_up (b := 0) (nt := (S.1 29).toInt) (fun t h0 h1 => ?_) (fun t h0 h1 => ?_) (by omega)
  · obtain ⟨n, a, b⟩ := ofn t (by omega)
    have q := (hT.2.1 n (by omega) (by omega)).1
    rw [b] at q
    rcases q with q | q
    · exact Or.inl q
    · exact Or.inr ⟨by have := q.1; omega, by have := q.2; omega⟩
  · show S1.2.1 81 t = S.2.1 81 t
    rw [e81, upd_n (by unfold ix; omega)]
/-- a node more -/
theorem W0_nn {hx : Nat} {cd nt nw : Int} {ty : Nat → T6} {P S S1 : mS} {so st va tk : Int32} (hW : W0 hx cd nt nw ty P S) (hn : (S.1 29).toInt + 1 ≤ 100000) (hz : (S1.1 29).toInt = (S.1 29).toInt + 1) (ht : 0 ≤ tk.toInt ∧ tk.toInt < (S.1 22).toInt) (hu : (S.1 36) = -1 ∨ (0 ≤ (S.1 36).toInt ∧ (S.1 36).toInt < (S.1 29).toInt)) {en : Int32} (he : en = 0 ∨ en.toInt = (S.1 29).toInt + 1) (hd : ∃ h, h ≤ 11 ∧ dpt ((S.2.1 81)) h (S.1 36)) (e80 : S1.2.1 80 = upd (S.2.1 80) (ix (S.1 29)) so) (e81 : S1.2.1 81 = upd (S.2.1 81) (ix (S.1 29)) (S.1 36)) (e82 : S1.2.1 82 = upd (S.2.1 82) (ix (S.1 29)) en) (e83 : S1.2.1 83 = upd (S.2.1 83) (ix (S.1 29)) st) (e84 : S1.2.1 84 = upd (S.2.1 84) (ix (S.1 29)) va) (e85 : S1.2.1 85 = upd (S.2.1 85) (ix (S.1 29)) tk) (h6 : so = 6 → ¬ st = 0) (hs : STG (S1.1 30).toInt (S1.1 29).toInt ((S1.2.1 87)) ((S1.2.1 80)) (S1.2.2 86)) (z5 : S1.1 5 = S.1 5) (z22 : S1.1 22 = S.1 22) (z23 : S1.1 23 = S.1 23) (z28 : S1.1 28 = S.1 28) (e51 : S1.2.1 51 = S.2.1 51) (e52 : S1.2.1 52 = S.2.1 52) (e53 : S1.2.1 53 = S.2.1 53) (e54 : S1.2.1 54 = S.2.1 54) (e57 : S1.2.1 57 = S.2.1 57) (e60 : S1.2.1 60 = S.2.1 60) (e61 : S1.2.1 61 = S.2.1 61) (e64 : S1.2.1 64 = S.2.1 64) (e65 : S1.2.1 65 = S.2.1 65) (e66 : S1.2.1 66 = S.2.1 66) (e68 : S1.2.1 68 = S.2.1 68) (e69 : S1.2.1 69 = S.2.1 69) (e70 : S1.2.1 70 = S.2.1 70) (e71 : S1.2.1 71 = S.2.1 71) (e72 : S1.2.1 72 = S.2.1 72) (e73 : S1.2.1 73 = S.2.1 73) (e78 : S1.2.1 78 = S.2.1 78) (e45 : ∀ k, k ≤ 45 → S1.2.1 k = S.2.1 k) : W0 hx cd nt nw ty P S1 := by
  obtain ⟨wE, wT, wD, wY, wC, wL, wR⟩ := hW
  have hb := wT.1
  have en0 : ((ix (S.1 29) : Nat) : Int) = (S.1 29).toInt := by unfold ix; omega
  have old : ∀ n : Int32, 0 ≤ n.toInt → n.toInt < (S.1 29).toInt → ¬ ix n = ix (S.1 29) := fun n a b => by unfold ix; omega
  have new : ∀ n : Int32, 0 ≤ n.toInt → n.toInt < (S1.1 29).toInt → ¬ n.toInt < (S.1 29).toInt → n = (S.1 29) := fun n a b c => Int32.toInt_inj.mp (by omega)
  have oft : ∀ tau a b, b ≤ (S.1 29).toInt → 0 ≤ a → OFT S tau a b → OFT S1 tau a b := fun tau a b hb9 ha9 h n n1 n2 => by
    show (S1.2.1 85 (ix n)).toInt = tau
    rw [e85, upd_n (old n (by omega) (by omega))]
    exact h n n1 n2
  have dpu := dpt_nd wT e81
  refine ⟨⟨z5.trans wE.1, fun j h5 hj => (e45 j hj).trans (wE.2 j h5 hj)⟩, ⟨?_, fun n n0 n1 => ?_, ?_⟩, ⟨ET_rf, ?_, ?_, fun n n0 n1 n2 n3 => ?_, fun t t0 t1 t2 => ?_, ?_, hs⟩, TYP_tr z22 e57 e68 e69 e70 e71 e72 (fun i q => by rw [e54] at q; exact q) wY, ?_, ?_, ?_⟩
  · rw [z22]; omega
  · rcases Decidable.em (n.toInt < (S.1 29).toInt) with d | d
    · have q := wT.2.1 n n0 d
      have o := old n n0 d
      rw [e81, e82, e85, upd_n o, upd_n o, upd_n o, z22]
      refine ⟨q.1, q.2.1, by have := q.2.2.1; omega, fun q9 => ⟨(q.2.2.2.1 q9).1, fun k k1 k2 => ?_⟩, ?_⟩
      · have q8 := (q.2.2.2.1 q9).2 k k1 k2
        have k3 := q.2.2.1
        have o2 := old k (by omega) (by omega)
        rw [upd_n o2, upd_n o2]
        exact q8
      · obtain ⟨h, h1, h2⟩ := q.2.2.2.2
        refine ⟨h, h1, ?_⟩
        have := dpu h n (Or.inr ⟨n0, d⟩) h2
        rw [← e81]
        exact this
    · have e := new n n0 n1 d
      subst e
      rw [e81, e82, e85, upd_s, upd_s, upd_s, z22]
      refine ⟨?_, ht, ?_, ?_, ?_⟩
      · rcases hu with g | g
        · exact Or.inl (by rw [g]; decide)
        · exact Or.inr ⟨by omega, g.2⟩
      · rcases he with g | g
        · rw [g]; show (0 : Int32).toInt ≤ _; have : (0 : Int32).toInt = 0 := rfl; omega
        · omega
      · intro q9
        refine ⟨?_, fun k k1 k2 => ?_⟩
        · rcases he with g | g
          · rw [g] at q9; exact absurd q9 (by decide)
          · omega
        · rcases he with g | g
          · rw [g] at q9; exact absurd q9 (by decide)
          · omega
      · obtain ⟨h, h1, h2⟩ := hd
        refine ⟨h + 1, by omega, n0, ?_⟩
        rw [upd_s, ← e81]
        refine dpu h _ ?_ h2
        rcases hu with g | g
        · exact Or.inl (by rw [g]; decide)
        · exact Or.inr g
  · intro t t0 t1
    rw [z22] at t1
    have q := wT.2.2 t t0 t1
    rw [e52, e53]
    exact ⟨q.1, fun g => ⟨(q.2 g).1, by have := (q.2 g).2; omega⟩⟩
  · have q := wD.2.1; rw [z22, z23, e54, e73]; exact q
  · have q := wD.2.2.1; unfold D2 at q ⊢; rw [z22, e54, e60]; exact q
  · rw [e80] at n2
    rw [e83] at n3
    rcases Decidable.em (n.toInt < (S.1 29).toInt) with d | d
    · have o := old n n0 d
      rw [upd_n o] at n2 n3
      have q := wD.2.2.2.1 n n0 d n2 n3
      rw [e84, e85, e53, z22, upd_n o, upd_n o]
      exact q
    · have e := new n n0 n1 d
      subst e
      rw [upd_s] at n2 n3
      exact absurd n3 (h6 n2)
  · rw [z22] at t1
    rw [e54] at t2
    have q := wD.2.2.2.2.1 t t0 t1 t2
    rw [e65, e66]
    exact ⟨q.1, q.2.1, by have := q.2.2.1; omega, oft _ _ _ q.2.2.1 q.1 q.2.2.2⟩
  · have q := wD.2.2.2.2.2.1; rw [z22, z28, e61]; exact q
  · rw [e64]; exact wC
  · rw [e78]; exact wL
  · rw [z22, e51, e60]; exact wR
theorem STG_ap {nd m1 nd1 : Int} {sg sg1 so so1 : Nat → Int32} {da da1 : Nat → Int64} {n s : Int32} (h : STG s.toInt nd sg so da) (hn : n.toInt = nd) (h0 : 0 ≤ nd) (h1 : nd1 = nd + 1) (hm : m1 = s.toInt + 1) (eg : sg1 = upd sg (ix s) n) (es : ∀ i : Nat, (i : Int) < nd → so1 i = so i ∧ da1 i = da i) (hd : so1 (ix n) = 4 → 1 ≤ (da1 (ix n)).toInt) : STG m1 nd1 sg1 so1 da1 := by
  have hs := h.1
  have es0 : ((ix s : Nat) : Int) = s.toInt := by unfold ix; omega
  subst eg
  refine ⟨by omega, fun i hi => ?_, fun i j hij hj => ?_⟩
  · unfold upd
    rcases Decidable.em (i = ix s) with d | d
    · rw [if_pos d]; exact ⟨by omega, by omega, hd⟩
    · rw [if_neg d]
      have q := h.2.1 i (by omega)
      have e := es (ix (sg i)) (by unfold ix; omega)
      rw [e.1, e.2]
      exact ⟨q.1, by omega, q.2.2⟩
  · unfold upd
    rw [if_neg (by omega)]
    rcases Decidable.em (j = ix s) with d | d
    · rw [if_pos d]
      have q := h.2.1 i (by omega)
      omega
    · rw [if_neg d]
      exact h.2.2 i j hij (by omega)
theorem STG_ex {m nd nd1 : Int} {sg so so1 : Nat → Int32} {da da1 : Nat → Int64} (h : STG m nd sg so da) (h1 : nd ≤ nd1) (es : ∀ i : Nat, (i : Int) < nd → so1 i = so i ∧ da1 i = da i) : STG m nd1 sg so1 da1 := ⟨h.1, fun i hi => by
  have q := h.2.1 i hi
  have e := es (ix (sg i)) (by unfold ix; omega)
  rw [e.1, e.2]
  exact ⟨q.1, by omega, q.2.2⟩, h.2.2⟩
/-- a task more -/
theorem W0_nt {hx : Nat} {cd nt nw : Int} {ty : Nat → T6} {P S S1 : mS} {r par nd pcx : Int32} (hW : W0 hx cd nt nw ty P S) (hk : (S.1 22).toInt < 200) (hz : (S1.1 22).toInt = (S.1 22).toInt + 1) (hm : (S1.1 23).toInt = (S.1 23).toInt + 1) (hp : par = -1 ∨ (0 ≤ par.toInt ∧ par.toInt < (S.1 22).toInt ∧ 0 ≤ nd.toInt ∧ nd.toInt < (S.1 29).toInt)) (hr : 0 ≤ r.toInt ∧ r.toInt < ((P.2.1 5) hx).toInt) (hc : TG hx cd ty pcx (-1)) (e51 : S1.2.1 51 = upd (S.2.1 51) (ix (S.1 22)) r) (e52 : S1.2.1 52 = upd (S.2.1 52) (ix (S.1 22)) par) (e53 : S1.2.1 53 = upd (S.2.1 53) (ix (S.1 22)) nd) (e54 : S1.2.1 54 = upd (S.2.1 54) (ix (S.1 22)) 0) (e57 : S1.2.1 57 = upd (S.2.1 57) (ix (S.1 22)) pcx) (e60 : S1.2.1 60 = upd (S.2.1 60) (ix (S.1 22)) 0) (e61 : S1.2.1 61 = upd (S.2.1 61) (ix (S.1 22)) 0) (e68 : S1.2.1 68 = upd (S.2.1 68) (ix (S.1 22)) 0) (e73 : S1.2.1 73 = upd (S.2.1 73) (ix (S.1 23)) (S.1 22)) (z5 : S1.1 5 = S.1 5) (z28 : S1.1 28 = S.1 28) (z29 : S1.1 29 = S.1 29) (z30 : S1.1 30 = S.1 30) (e64 : S1.2.1 64 = S.2.1 64) (e65 : S1.2.1 65 = S.2.1 65) (e66 : S1.2.1 66 = S.2.1 66) (e69 : S1.2.1 69 = S.2.1 69) (e70 : S1.2.1 70 = S.2.1 70) (e71 : S1.2.1 71 = S.2.1 71) (e72 : S1.2.1 72 = S.2.1 72) (e78 : S1.2.1 78 = S.2.1 78) (e80 : S1.2.1 80 = S.2.1 80) (e81 : S1.2.1 81 = S.2.1 81) (e82 : S1.2.1 82 = S.2.1 82) (e83 : S1.2.1 83 = S.2.1 83) (e84 : S1.2.1 84 = S.2.1 84) (e85 : S1.2.1 85 = S.2.1 85) (e87 : S1.2.1 87 = S.2.1 87) (e86 : S1.2.2 86 = S.2.2 86) (e45 : ∀ k, k ≤ 45 → S1.2.1 k = S.2.1 k) : W0 hx cd nt nw ty P S1 := by
  obtain ⟨wE, wT, wD, wY, wC, wL, wR⟩ := hW
  have hb := wT.1
  have old : ∀ n : Int32, 0 ≤ n.toInt → n.toInt < (S.1 22).toInt → ¬ ix n = ix (S.1 22) := fun n a b => by unfold ix; omega
  have new : ∀ n : Int32, 0 ≤ n.toInt → n.toInt < (S1.1 22).toInt → ¬ n.toInt < (S.1 22).toInt → n = (S.1 22) := fun n a b c => Int32.toInt_inj.mp (by omega)
  have hrw := wD.2.1
  have hx1 : RWX ((S1.1 22).toInt) (S.1 23).toInt (S.1 22).toInt ((S.2.1 54)) ((S.2.1 73)) := by
    refine ⟨hrw.1, fun i hi => ?_, hrw.2.2.1, fun t t0 t1 tx te => hrw.2.2.2 t t0 (by omega) (by omega) te⟩
    have q := hrw.2.1 i hi
    exact ⟨q.1, by omega, by omega, q.2.2.2⟩
  have hx2 := RWX_to hx1 (t := (S.1 22)) (by omega) (by omega) (Or.inr rfl) (Or.inr rfl) hm
  refine ⟨⟨z5.trans wE.1, fun j h5 hj => (e45 j hj).trans (wE.2 j h5 hj)⟩, ⟨?_, fun n n0 n1 => ?_, fun t t0 t1 => ?_⟩, ⟨ET_rf, ?_, fun t t0 t1 t2 => ?_, fun n n0 n1 n2 n3 => ?_, fun t t0 t1 t2 => ?_, ?_, ?_⟩, fun t t0 t1 t2 => ?_, ?_, ?_, fun t t1 => ?_, ?_⟩
  · rw [z29]; omega
  · rw [z29] at n1
    have q := wT.2.1 n n0 n1
    rw [e81, e82, e85, z29]
    exact ⟨q.1, ⟨q.2.1.1, by have := q.2.1.2; omega⟩, q.2.2⟩
  · rcases Decidable.em (t.toInt < (S.1 22).toInt) with d | d
    · have q := wT.2.2 t t0 d
      have o := old t t0 d
      rw [e52, e53, upd_n o, upd_n o, z29]
      exact q
    · have e := new t t0 t1 d
      subst e
      rw [e52, e53, upd_s, upd_s, z29]
      rcases hp with g | g
      · rw [g]; exact ⟨Or.inl (by decide), fun g9 => absurd g9 (by decide)⟩
      · exact ⟨Or.inr ⟨by omega, g.2.1⟩, fun _ => g.2.2⟩
  · rw [e54, e73]; exact hx2
  · rw [e54]
    rcases Decidable.em (t.toInt < (S.1 22).toInt) with d | d
    · have o := old t t0 d
      rw [e60, upd_n o] at t2
      rw [upd_n o]
      exact wD.2.2.1 t t0 d t2
    · have e := new t t0 t1 d
      subst e
      rw [upd_s]; exact Or.inl rfl
  · rw [z29] at n1
    rw [e80] at n2
    rw [e83] at n3
    have q := wD.2.2.2.1 n n0 n1 n2 n3
    have a := (wT.2.1 n n0 n1).2.1
    rw [e84, e85, e53, upd_n (old _ (by omega) q.2.1)]
    exact ⟨q.1, by omega, q.2.2⟩
  · rw [e54] at t2
    rcases Decidable.em (t.toInt < (S.1 22).toInt) with d | d
    · rw [upd_n (old t t0 d)] at t2
      have q := wD.2.2.2.2.1 t t0 d t2
      rw [e65, e66, z29]
      refine ⟨q.1, q.2.1, q.2.2.1, fun n n1 n2 => ?_⟩
      rw [e85]
      exact q.2.2.2 n n1 n2
    · have e := new t t0 t1 d
      subst e
      rw [upd_s] at t2
      exact absurd t2 (by decide)
  · have q := wD.2.2.2.2.2.1
    rw [z28, e61]
    refine ⟨q.1, ?_⟩
    have e1 : (S1.1 22).toInt.toNat = (S.1 22).toInt.toNat + 1 := by omega
    rw [e1]
    show _ ≤ ((cn (upd (S.2.1 61) (ix (S.1 22)) 0) ((S.1 22).toInt.toNat) + (if upd (S.2.1 61) (ix (S.1 22)) 0 (S.1 22).toInt.toNat = 0 then 0 else 1) : Nat) : Int)
    have e2 := cn_ne (f := S.2.1 61) (k := ix (S.1 22)) (v := 0) ((S.1 22).toInt.toNat) (by unfold ix; omega)
    rw [e2]
    have := q.2
    split <;> omega
  · have q := wD.2.2.2.2.2.2
    rw [z30, z29, e87, e80, e86]
    exact q
  · rw [e54] at t2
    rcases Decidable.em (t.toInt < (S.1 22).toInt) with d | d
    · have o := old t t0 d
      rw [upd_n o] at t2
      obtain ⟨tr, a, b⟩ := wY t t0 d t2
      refine ⟨tr, by rw [e57, upd_n o]; exact a, ?_⟩
      rw [e68, e69, e70, e71, e72, upd_n o]
      exact b
    · have e := new t t0 t1 d
      subst e
      refine ⟨-1, by rw [e57, upd_s]; exact hc, ?_⟩
      rw [e68, upd_s]
      refine ⟨by decide, by decide, by show (-1 : Int32).toInt < 0; decide, Or.inl (by decide), fun i hi => absurd hi (by show ¬ i < 0; omega)⟩
  · rw [e64]; exact wC
  · rw [e78]; exact wL
  · rw [e51]
    rcases Decidable.em (t = ix (S.1 22)) with d | d
    · rw [d, upd_s]; exact hr
    · rw [upd_n d]; exact wR.1 t (by unfold ix at d; omega)
  · rw [e60]
    refine ⟨wR.2.1, fun i => ?_⟩
    unfold upd
    split
    · exact ⟨by decide, wR.2.1⟩
    · exact wR.2.2 i
/-- a child's node is open -/
theorem W0_n0 {hx : Nat} {cd nt nw : Int} {ty : Nat → T6} {P S S1 : mS} {n : Int32} (hW : W0 hx cd nt nw ty P S) (hn : 0 ≤ n.toInt ∧ n.toInt < (S.1 29).toInt) (e83 : S1.2.1 83 = upd (S.2.1 83) (ix n) 0) (h3 : (S.2.1 80) (ix n) = 6 → ((S.2.1 85) (ix n)).toInt < ((S.2.1 84) (ix n)).toInt ∧ ((S.2.1 84) (ix n)).toInt < (S.1 22).toInt ∧ (S.2.1 53) (ix ((S.2.1 84) (ix n))) = n) (ez : ∀ k, k ∈ WZ9 → S1.1 k = S.1 k) (ef : ∀ k, k ≤ 45 ∨ (k ∈ WF9 ∧ k ≠ 83) → S1.2.1 k = S.2.1 k) (e86 : S1.2.2 86 = S.2.2 86) : W0 hx cd nt nw ty P S1 := by
  obtain ⟨wE, wT, wD, wY, wC, wL, wR⟩ := hW
  have z5 := ez 5 (by decide)
  have z22 := ez 22 (by decide)
  have z23 := ez 23 (by decide)
  have z28 := ez 28 (by decide)
  have z29 := ez 29 (by decide)
  have z30 := ez 30 (by decide)
  have e51 := ef 51 (Or.inr (by decide))
  have e52 := ef 52 (Or.inr (by decide))
  have e53 := ef 53 (Or.inr (by decide))
  have e54 := ef 54 (Or.inr (by decide))
  have e57 := ef 57 (Or.inr (by decide))
  have e60 := ef 60 (Or.inr (by decide))
  have e61 := ef 61 (Or.inr (by decide))
  have e64 := ef 64 (Or.inr (by decide))
  have e65 := ef 65 (Or.inr (by decide))
  have e66 := ef 66 (Or.inr (by decide))
  have e68 := ef 68 (Or.inr (by decide))
  have e69 := ef 69 (Or.inr (by decide))
  have e70 := ef 70 (Or.inr (by decide))
  have e71 := ef 71 (Or.inr (by decide))
  have e72 := ef 72 (Or.inr (by decide))
  have e73 := ef 73 (Or.inr (by decide))
  have e78 := ef 78 (Or.inr (by decide))
  have e80 := ef 80 (Or.inr (by decide))
  have e81 := ef 81 (Or.inr (by decide))
  have e82 := ef 82 (Or.inr (by decide))
  have e84 := ef 84 (Or.inr (by decide))
  have e85 := ef 85 (Or.inr (by decide))
  have e87 := ef 87 (Or.inr (by decide))
  refine ⟨⟨z5.trans wE.1, fun j h5 hj => (ef j (Or.inl hj)).trans (wE.2 j h5 hj)⟩, ?_, ⟨ET_rf, ?_, ?_, fun m m0 m1 m2 m3 => ?_, ?_, ?_, ?_⟩, TYP_tr z22 e57 e68 e69 e70 e71 e72 (fun i q => by rw [e54] at q; exact q) wY, ?_, ?_, ?_⟩
  · unfold TREE at wT ⊢; rw [z22, z29, e52, e53, e81, e82, e85]; exact wT
  · rw [z22, z23, e54, e73]; exact wD.2.1
  · have q := wD.2.2.1; unfold D2 at q ⊢; rw [z22, e54, e60]; exact q
  · rw [z29] at m1
    rw [e80] at m2
    rw [e83] at m3
    rw [e84, e85, e53, z22]
    rcases Decidable.em (ix m = ix n) with d | d
    · have e : m = n := ix_inj m0 hn.1 d
      subst e
      exact h3 m2
    · rw [upd_n d] at m3
      exact wD.2.2.2.1 m m0 m1 m2 m3
  · have q := wD.2.2.2.2.1; unfold D4 OFT at q ⊢; rw [z22, z29, e54, e65, e66, e85]; exact q
  · rw [z22, z28, e61]; exact wD.2.2.2.2.2.1
  · rw [z30, z29, e87, e80, e86]; exact wD.2.2.2.2.2.2
  · rw [e64]; exact wC
  · rw [e78]; exact wL
  · rw [z22, e51, e60]; exact wR
/-- a task stops -/
theorem W0_stop {hx : Nat} {cd nt nw : Int} {ty : Nat → T6} {P S S1 : mS} {t q ro re v tr : Int32} (hW : W0 hx cd nt nw ty P S) (hs : (S.2.1 54) (ix t) = 4) (ht : 0 ≤ t.toInt ∧ t.toInt < (S.1 22).toInt) (hu : ¬ (S.2.1 60) (ix t) = 0) (hR : FRM hx nt nw ((P.2.1 25)) ((P.2.1 40)) t ((S.2.1 68) (ix t)) tr ((S.2.1 69)) ((S.2.1 70)) ((S.2.1 71)) ((S.2.1 72))) (hp : TG hx cd ty q tr) (hr : 0 ≤ ro.toInt ∧ ro.toInt ≤ re.toInt ∧ re.toInt ≤ (S.1 29).toInt ∧ OFT S t.toInt ro.toInt re.toInt) (e57 : S1.2.1 57 = upd (S.2.1 57) (ix t) q) (e65 : S1.2.1 65 = upd (S.2.1 65) (ix t) ro) (e66 : S1.2.1 66 = upd (S.2.1 66) (ix t) re) (e54 : S1.2.1 54 = upd (S.2.1 54) (ix t) v) (hRW : RWX (S.1 22).toInt (S1.1 23).toInt (-1) ((S1.2.1 54)) ((S1.2.1 73))) (z5 : S1.1 5 = S.1 5) (z22 : S1.1 22 = S.1 22) (z28 : S1.1 28 = S.1 28) (z29 : S1.1 29 = S.1 29) (z30 : S1.1 30 = S.1 30) (e51 : S1.2.1 51 = S.2.1 51) (e52 : S1.2.1 52 = S.2.1 52) (e53 : S1.2.1 53 = S.2.1 53) (e60 : S1.2.1 60 = S.2.1 60) (e61 : S1.2.1 61 = S.2.1 61) (e64 : S1.2.1 64 = S.2.1 64) (e68 : S1.2.1 68 = S.2.1 68) (e69 : S1.2.1 69 = S.2.1 69) (e70 : S1.2.1 70 = S.2.1 70) (e71 : S1.2.1 71 = S.2.1 71) (e72 : S1.2.1 72 = S.2.1 72) (e78 : S1.2.1 78 = S.2.1 78) (e80 : S1.2.1 80 = S.2.1 80) (e81 : S1.2.1 81 = S.2.1 81) (e82 : S1.2.1 82 = S.2.1 82) (e83 : S1.2.1 83 = S.2.1 83) (e84 : S1.2.1 84 = S.2.1 84) (e85 : S1.2.1 85 = S.2.1 85) (e87 : S1.2.1 87 = S.2.1 87) (e86 : S1.2.2 86 = S.2.2 86) (e45 : ∀ k, k ≤ 45 → S1.2.1 k = S.2.1 k) : W0 hx cd nt nw ty P S1 := by
  obtain ⟨wE, wT, wD, wY, wC, wL, wR⟩ := hW
  refine ⟨⟨z5.trans wE.1, fun j h5 hj => (e45 j hj).trans (wE.2 j h5 hj)⟩, ?_, ⟨ET_rf, ?_, fun m m0 m1 m2 => ?_, ?_, fun m m0 m1 m2 => ?_, ?_, ?_⟩, fun m m0 m1 m2 => ?_, ?_, ?_, ?_⟩
  · unfold TREE at wT ⊢; rw [z22, z29, e52, e53, e81, e82, e85]; exact wT
  · rw [z22]; exact hRW
  · rw [z22] at m1
    rw [e60] at m2
    rw [e54]
    rcases Decidable.em (ix m = ix t) with d | d
    · rw [d] at m2; exact absurd m2 hu
    · rw [upd_n d]; exact wD.2.2.1 m m0 m1 m2
  · have q := wD.2.2.2.1; unfold D3 at q ⊢; rw [z22, z29, e80, e83, e84, e85, e53]; exact q
  · rw [z22] at m1
    rw [e54] at m2
    rw [e65, e66, z29]
    rcases Decidable.em (ix m = ix t) with d | d
    · have e : m = t := ix_inj m0 ht.1 d
      subst e
      rw [upd_s, upd_s]
      refine ⟨hr.1, hr.2.1, hr.2.2.1, fun n n1 n2 => ?_⟩
      rw [e85]; exact hr.2.2.2 n n1 n2
    · rw [upd_n d] at m2
      rw [upd_n d, upd_n d]
      have q := wD.2.2.2.2.1 m m0 m1 m2
      refine ⟨q.1, q.2.1, q.2.2.1, fun n n1 n2 => ?_⟩
      rw [e85]; exact q.2.2.2 n n1 n2
  · rw [z22, z28, e61]; exact wD.2.2.2.2.2.1
  · rw [z30, z29, e87, e80, e86]; exact wD.2.2.2.2.2.2
  · rw [z22] at m1
    rw [e54] at m2
    rw [e57, e68, e69, e70, e71, e72]
    rcases Decidable.em (ix m = ix t) with d | d
    · have e : m = t := ix_inj m0 ht.1 d
      subst e
      rw [upd_s]
      exact ⟨tr, hp, hR⟩
    · rw [upd_n d] at m2 ⊢
      exact wY m m0 m1 m2
  · rw [e64]; exact wC
  · rw [e78]; exact wL
  · rw [z22, e51, e60]; exact wR
/-- between two doings, but task x is out of the row -/
def W0x (hx : Nat) (cd nt nw : Int) (ty : Nat → T6) (P : mS) (x : Int) (S : mS) : Prop := EQ P S ∧ TREE S ∧ DY S x S ∧ TYP hx cd nt nw ty P S ∧ CC ((S.2.1 64)) ∧ LTR ((S.2.1 78)) ∧ ROF (S.1 22).toInt ((P.2.1 5) hx).toInt ((S.2.1 51)) ∧ TNB (P.1 60) ((S.2.1 60))
theorem W0_out {hx : Nat} {cd nt nw : Int} {ty : Nat → T6} {P S S1 : mS} {k : Int32} {x y : Int} (hW : W0 hx cd nt nw ty P S) (hs : SH k.toInt y ((S.2.1 73)) ((S1.2.1 73))) (h0 : 0 ≤ k.toInt) (h1 : k.toInt < (S.1 23).toInt) (hy : y = (S.1 23).toInt - 1) (hm : (S1.1 23).toInt = (S.1 23).toInt - 1) (hx9 : x = ((S.2.1 73) (ix k)).toInt) (ez : ∀ j, j ≠ 23 → S1.1 j = S.1 j) (ef : ∀ j, j ≠ 73 → S1.2.1 j = S.2.1 j) (eg : S1.2.2 86 = S.2.2 86) : W0x hx cd nt nw ty P x S1 := by
  obtain ⟨wE, wT, wD, wY, wC, wL, wR⟩ := hW
  have z22 := ez 22 (by decide)
  have z28 := ez 28 (by decide)
  have z29 := ez 29 (by decide)
  have z30 := ez 30 (by decide)
  have e51 := ef 51 (by decide)
  have e52 := ef 52 (by decide)
  have e53 := ef 53 (by decide)
  have e54 := ef 54 (by decide)
  have e57 := ef 57 (by decide)
  have e60 := ef 60 (by decide)
  have e61 := ef 61 (by decide)
  have e64 := ef 64 (by decide)
  have e65 := ef 65 (by decide)
  have e66 := ef 66 (by decide)
  have e68 := ef 68 (by decide)
  have e69 := ef 69 (by decide)
  have e70 := ef 70 (by decide)
  have e71 := ef 71 (by decide)
  have e72 := ef 72 (by decide)
  have e78 := ef 78 (by decide)
  have e80 := ef 80 (by decide)
  have e81 := ef 81 (by decide)
  have e82 := ef 82 (by decide)
  have e83 := ef 83 (by decide)
  have e84 := ef 84 (by decide)
  have e85 := ef 85 (by decide)
  have e87 := ef 87 (by decide)
  refine ⟨⟨(ez 5 (by decide)).trans wE.1, fun j h5 hj => (ef j (by omega)).trans (wE.2 j h5 hj)⟩, ?_, ⟨ET_rf, ?_, ?_, ?_, ?_, ?_, ?_⟩, TYP_tr z22 e57 e68 e69 e70 e71 e72 (fun i q => by rw [e54] at q; exact q) wY, ?_, ?_, ?_⟩
  · unfold TREE at wT ⊢; rw [z22, z29, e52, e53, e81, e82, e85]; exact wT
  · rw [z22, e54]; exact RWX_sh wD.2.1 hs h0 h1 hy hm hx9
  · have q := wD.2.2.1; unfold D2 at q ⊢; rw [z22, e54, e60]; exact q
  · have q := wD.2.2.2.1; unfold D3 at q ⊢; rw [z22, z29, e80, e83, e84, e85, e53]; exact q
  · have q := wD.2.2.2.2.1; unfold D4 OFT at q ⊢; rw [z22, z29, e54, e65, e66, e85]; exact q
  · rw [z22, z28, e61]; exact wD.2.2.2.2.2.1
  · rw [z30, z29, e87, e80, eg]; exact wD.2.2.2.2.2.2
  · rw [e64]; exact wC
  · rw [e78]; exact wL
  · rw [z22, e51, e60]; exact wR
theorem W0_run {hx : Nat} {cd nt nw : Int} {ty : Nat → T6} {P S S1 : mS} {t n : Int32} (hW : W0x hx cd nt nw ty P t.toInt S) (ht : 0 ≤ t.toInt ∧ t.toInt < (S.1 22).toInt) (hn : ¬ n = 0) (hnb : 0 ≤ n.toInt ∧ n.toInt ≤ (P.1 60).toInt) (e54 : S1.2.1 54 = upd (S.2.1 54) (ix t) 4) (e60 : S1.2.1 60 = upd (S.2.1 60) (ix t) n) (z5 : S1.1 5 = S.1 5) (z22 : S1.1 22 = S.1 22) (z23 : S1.1 23 = S.1 23) (z28 : S1.1 28 = S.1 28) (z29 : S1.1 29 = S.1 29) (z30 : S1.1 30 = S.1 30) (e51 : S1.2.1 51 = S.2.1 51) (e52 : S1.2.1 52 = S.2.1 52) (e53 : S1.2.1 53 = S.2.1 53) (e57 : S1.2.1 57 = S.2.1 57) (e61 : S1.2.1 61 = S.2.1 61) (e64 : S1.2.1 64 = S.2.1 64) (e65 : S1.2.1 65 = S.2.1 65) (e66 : S1.2.1 66 = S.2.1 66) (e68 : S1.2.1 68 = S.2.1 68) (e69 : S1.2.1 69 = S.2.1 69) (e70 : S1.2.1 70 = S.2.1 70) (e71 : S1.2.1 71 = S.2.1 71) (e72 : S1.2.1 72 = S.2.1 72) (e73 : S1.2.1 73 = S.2.1 73) (e78 : S1.2.1 78 = S.2.1 78) (e80 : S1.2.1 80 = S.2.1 80) (e81 : S1.2.1 81 = S.2.1 81) (e82 : S1.2.1 82 = S.2.1 82) (e83 : S1.2.1 83 = S.2.1 83) (e84 : S1.2.1 84 = S.2.1 84) (e85 : S1.2.1 85 = S.2.1 85) (e87 : S1.2.1 87 = S.2.1 87) (e86 : S1.2.2 86 = S.2.2 86) (e45 : ∀ k, k ≤ 45 → S1.2.1 k = S.2.1 k) : W0 hx cd nt nw ty P S1 := by
  obtain ⟨wE, wT, wD, wY, wC, wL, wR⟩ := hW
  refine ⟨⟨z5.trans wE.1, fun j h5 hj => (e45 j hj).trans (wE.2 j h5 hj)⟩, ?_, ⟨ET_rf, ?_, fun m m0 m1 m2 => ?_, ?_, fun m m0 m1 m2 => ?_, ?_, ?_⟩, fun m m0 m1 m2 => ?_, ?_, ?_, ?_⟩
  · unfold TREE at wT ⊢; rw [z22, z29, e52, e53, e81, e82, e85]; exact wT
  · rw [z22, z23, e54, e73]; exact RWX_st wD.2.1 ht.1 (Or.inr rfl) (Or.inr rfl) (by decide)
  · rw [z22] at m1
    rw [e60] at m2
    rw [e54]
    rcases Decidable.em (ix m = ix t) with d | d
    · rw [d, upd_s] at m2; exact absurd m2 hn
    · rw [upd_n d] at m2 ⊢; exact wD.2.2.1 m m0 m1 m2
  · have q := wD.2.2.2.1; unfold D3 at q ⊢; rw [z22, z29, e80, e83, e84, e85, e53]; exact q
  · rw [z22] at m1
    rw [e54] at m2
    rw [e65, e66, z29]
    rcases Decidable.em (ix m = ix t) with d | d
    · rw [d, upd_s] at m2; exact absurd m2 (by decide)
    · rw [upd_n d] at m2
      have q := wD.2.2.2.2.1 m m0 m1 m2
      refine ⟨q.1, q.2.1, q.2.2.1, fun n n1 n2 => ?_⟩
      rw [e85]; exact q.2.2.2 n n1 n2
  · rw [z22, z28, e61]; exact wD.2.2.2.2.2.1
  · rw [z30, z29, e87, e80, e86]; exact wD.2.2.2.2.2.2
  · rw [z22] at m1
    rw [e54] at m2
    rw [e57, e68, e69, e70, e71, e72]
    rcases Decidable.em (ix m = ix t) with d | d
    · rw [d, upd_s] at m2; exact absurd m2 (by decide)
    · rw [upd_n d] at m2
      exact wY m m0 m1 m2
  · rw [e64]; exact wC
  · rw [e78]; exact wL
  · rw [z22, e51, e60]
    refine ⟨wR.1, wR.2.1, fun i => ?_⟩
    unfold upd
    split
    · exact hnb
    · exact wR.2.2 i
/-- a node is shut -/
theorem W0_82 {hx : Nat} {cd nt nw : Int} {ty : Nat → T6} {P S S1 : mS} {n en : Int32} (hW : W0 hx cd nt nw ty P S) (hn : 0 ≤ n.toInt ∧ n.toInt < (S.1 29).toInt) (hen : en.toInt = (S.1 29).toInt) (e82 : S1.2.1 82 = upd (S.2.1 82) (ix n) en) (hk : ∀ k : Int32, n.toInt < k.toInt → k.toInt < (S.1 29).toInt → 0 < ((S.2.1 82) (ix k)).toInt ∧ (S.2.1 85) (ix k) = (S.2.1 85) (ix n)) (ez : ∀ k, k ∈ WZ9 → S1.1 k = S.1 k) (ef : ∀ k, k ≤ 45 ∨ (k ∈ WF9 ∧ k ≠ 82) → S1.2.1 k = S.2.1 k) (e86 : S1.2.2 86 = S.2.2 86) : W0 hx cd nt nw ty P S1 := by
  obtain ⟨wE, wT, wD, wY, wC, wL, wR⟩ := hW
  have z5 := ez 5 (by decide)
  have z22 := ez 22 (by decide)
  have z23 := ez 23 (by decide)
  have z28 := ez 28 (by decide)
  have z29 := ez 29 (by decide)
  have z30 := ez 30 (by decide)
  have e51 := ef 51 (Or.inr (by decide))
  have e52 := ef 52 (Or.inr (by decide))
  have e53 := ef 53 (Or.inr (by decide))
  have e54 := ef 54 (Or.inr (by decide))
  have e57 := ef 57 (Or.inr (by decide))
  have e60 := ef 60 (Or.inr (by decide))
  have e61 := ef 61 (Or.inr (by decide))
  have e64 := ef 64 (Or.inr (by decide))
  have e65 := ef 65 (Or.inr (by decide))
  have e66 := ef 66 (Or.inr (by decide))
  have e68 := ef 68 (Or.inr (by decide))
  have e69 := ef 69 (Or.inr (by decide))
  have e70 := ef 70 (Or.inr (by decide))
  have e71 := ef 71 (Or.inr (by decide))
  have e72 := ef 72 (Or.inr (by decide))
  have e73 := ef 73 (Or.inr (by decide))
  have e78 := ef 78 (Or.inr (by decide))
  have e80 := ef 80 (Or.inr (by decide))
  have e81 := ef 81 (Or.inr (by decide))
  have e83 := ef 83 (Or.inr (by decide))
  have e84 := ef 84 (Or.inr (by decide))
  have e85 := ef 85 (Or.inr (by decide))
  have e87 := ef 87 (Or.inr (by decide))
  refine ⟨⟨z5.trans wE.1, fun j h5 hj => (ef j (Or.inl hj)).trans (wE.2 j h5 hj)⟩, ⟨?_, fun m m0 m1 => ?_, ?_⟩, ⟨ET_rf, ?_, ?_, ?_, ?_, ?_, ?_⟩, TYP_tr z22 e57 e68 e69 e70 e71 e72 (fun i q => by rw [e54] at q; exact q) wY, ?_, ?_, ?_⟩
  · rw [z22, z29]; exact wT.1
  · rw [z29] at m1
    have q := wT.2.1 m m0 m1
    rw [e81, e82, e85, z22, z29]
    have key : ∀ k : Int32, 0 ≤ k.toInt → 0 < (S.2.1 82 (ix k)).toInt → 0 < (upd (S.2.1 82) (ix n) en (ix k)).toInt := by
      intro k k0 k1
      rcases Decidable.em (ix k = ix n) with d | d
      · rw [d, upd_s]; omega
      · rw [upd_n d]; exact k1
    rcases Decidable.em (ix m = ix n) with d | d
    · have e : m = n := ix_inj m0 hn.1 d
      subst e
      rw [upd_s]
      refine ⟨q.1, q.2.1, by omega, fun _ => ⟨by omega, fun k k1 k2 => ?_⟩, q.2.2.2.2⟩
      have g := hk k k1 (by omega)
      exact ⟨key k (by omega) g.1, g.2⟩
    · rw [upd_n d]
      refine ⟨q.1, q.2.1, q.2.2.1, fun g => ⟨(q.2.2.2.1 g).1, fun k k1 k2 => ?_⟩, q.2.2.2.2⟩
      have g2 := (q.2.2.2.1 g).2 k k1 k2
      exact ⟨key k (by omega) g2.1, g2.2⟩
  · rw [z22, z29, e52, e53]; exact wT.2.2
  · rw [z22, z23, e54, e73]; exact wD.2.1
  · have q := wD.2.2.1; unfold D2 at q ⊢; rw [z22, e54, e60]; exact q
  · have q := wD.2.2.2.1; unfold D3 at q ⊢; rw [z22, z29, e80, e83, e84, e85, e53]; exact q
  · have q := wD.2.2.2.2.1; unfold D4 OFT at q ⊢; rw [z22, z29, e54, e65, e66, e85]; exact q
  · rw [z22, z28, e61]; exact wD.2.2.2.2.2.1
  · rw [z30, z29, e87, e80, e86]; exact wD.2.2.2.2.2.2
  · rw [e64]; exact wC
  · rw [e78]; exact wL
  · rw [z22, e51, e60]; exact wR
/-- the cell for what comes; the letters of a box -/
theorem W0_64 {hx : Nat} {cd nt nw : Int} {ty : Nat → T6} {P S S1 : mS} {i : Nat} {v : Int32} (e : S1 = sF S 64 i v) (hv : v.toInt < 12) (hW : W0 hx cd nt nw ty P S) : W0 hx cd nt nw ty P S1 := by
  have h0 : W0 hx cd nt nw ty P S := hW
  obtain ⟨wE, wT, wD, wY, wC, wL, wR⟩ := hW
  subst e
  refine ⟨⟨wE.1, fun j h5 hj => ?_⟩, wT, ⟨ET_rf, wD.2⟩, wY, ?_, wL, wR⟩
  · rw [q_ff, if_neg (by omega)]; exact wE.2 j h5 hj
  · show CC (upd ((S.2.1 64)) i v)
    intro j hj
    unfold upd
    split
    · exact hv
    · exact wC j hj
theorem W0_78 {hx : Nat} {cd nt nw : Int} {ty : Nat → T6} {P S S1 : mS} {i : Nat} {v : Int32} (e : S1 = sF S 78 i v) (hv : 0 ≤ v.toInt ∧ v.toInt ≤ 50) (hW : W0 hx cd nt nw ty P S) : W0 hx cd nt nw ty P S1 := by
  obtain ⟨wE, wT, wD, wY, wC, wL, wR⟩ := hW
  subst e
  refine ⟨⟨wE.1, fun j h5 hj => ?_⟩, wT, ⟨ET_rf, wD.2⟩, wY, wC, ?_, wR⟩
  · rw [q_ff, if_neg (by omega)]; exact wE.2 j h5 hj
  · show LTR (upd ((S.2.1 78)) i v)
    intro j hj
    unfold upd
    split
    · exact hv
    · exact wL j hj
theorem RB_rc {hx : Nat} {cd : Int} {ty : Nat → T6} {u : T6} {S S1 : mS} (hF : Fr RCz RCf [] S S1) (ht : TRs ((S.2.1 54)) ((S1.2.1 54))) (h : RB hx cd ty u S) : RB hx cd ty u S1 := by
  have z22 := hF.1 22 (by decide)
  have z25 := hF.1 25 (by decide)
  have z26 := hF.1 26 (by decide)
  have z29 := hF.1 29 (by decide)
  have z33 := hF.1 33 (by decide)
  have z34 := hF.1 34 (by decide)
  have z35 := hF.1 35 (by decide)
  have z36 := hF.1 36 (by decide)
  have z37 := hF.1 37 (by decide)
  have e60 := hF.2.1 60 (by decide)
  have e80 := hF.2.1 80 (by decide)
  have e81 := hF.2.1 81 (by decide)
  have e82 := hF.2.1 82 (by decide)
  have e85 := hF.2.1 85 (by decide)
  have h4 := TRs_4 ht h.1.2.2.1
  unfold RB RW1 OFT at h ⊢
  rw [z22, z25, z26, z29, z33, z34, z35, z36, z37, e60, e80, e81, e82, e85]
  exact ⟨⟨h.1.1, h.1.2.1, h4, h.1.2.2.2⟩, h.2⟩
/-- a leaf of the wait that begins -/
theorem RB_nn {hx : Nat} {cd : Int} {ty : Nat → T6} {u v : T6} {so en : Int32} {S S1 : mS} (h : RB hx cd ty u S) (h1 : u.2.2.1 = 1) (hv : v.2.2.1 = u.2.2.1 ∧ v.2.2.2.1 ≤ u.2.2.2.1 - 1 ∧ v.2.2.2.2.1 = u.2.2.2.2.1 ∧ v.2.2.2.2.2 = u.2.2.2.2.2) (hc : 1 ≤ u.2.2.2.1) (hen : en.toInt = (S.1 29).toInt + 1) (hz : (S1.1 29).toInt = (S.1 29).toInt + 1) (e80 : S1.2.1 80 = upd (S.2.1 80) (ix (S.1 29)) so) (e81 : S1.2.1 81 = upd (S.2.1 81) (ix (S.1 29)) (S.1 36)) (e82 : S1.2.1 82 = upd (S.2.1 82) (ix (S.1 29)) en) (e85 : S1.2.1 85 = upd (S.2.1 85) (ix (S.1 29)) (S.1 33)) (z22 : (S.1 22).toInt ≤ (S1.1 22).toInt) (z25 : S1.1 25 = S.1 25) (z26 : S1.1 26 = S.1 26) (z33 : S1.1 33 = S.1 33) (z34 : S1.1 34 = S.1 34) (z35 : S1.1 35 = S.1 35) (z36 : S1.1 36 = S.1 36) (z37 : S1.1 37 = S.1 37) (e54 : S1.2.1 54 (ix (S.1 33)) = S.2.1 54 (ix (S.1 33))) (e60 : S1.2.1 60 (ix (S.1 33)) = S.2.1 60 (ix (S.1 33))) : RB hx cd ty v S1 := by
  have g := h.2.2.2.1 h1
  obtain ⟨a1, a2, a3, a4, a5, oc, ow, b1, b2, b3, b4⟩ := g
  have h2 := h.2.1
  have en0 : ((ix (S.1 29) : Nat) : Int) = (S.1 29).toInt := by unfold ix; omega
  refine ⟨⟨by rw [z33]; exact h.1.1, by rw [z33]; have := h.1.2.1; omega, by rw [z33, e54]; exact h.1.2.2.1, by rw [z33, e60]; exact h.1.2.2.2⟩, ?_, fun q => absurd q (by omega), fun _ => ⟨by rw [z34]; exact a1, by rw [z35]; exact a2, by rw [z35]; omega, fun n n1 n2 => ?_, ?_, oc, ow, by omega, b2, ?_, by rw [z25]; omega⟩, by rw [hv.1]; exact h.2.2.2.2.1, by rw [hv.2.2.1]; exact h.2.2.2.2.2⟩
  · rw [z25, z26]; omega
  · rw [z35] at n1
    rw [z33, e85]
    rcases Decidable.em (ix n = ix (S.1 29)) with d | d
    · rw [d, upd_s]
    · rw [upd_n d]; exact a4 n n1 (by unfold ix at d; omega)
  · rw [z37, hv.2.2.2]; exact a5
  · rw [z35, z36]
    have ext : ∀ i : Nat, (i : Int) < (S.1 29).toInt → S1.2.1 81 i = S.2.1 81 i ∧ S1.2.1 82 i = S.2.1 82 i ∧ S1.2.1 80 i = S.2.1 80 i := fun i hi => by
      rw [e80, e81, e82, upd_n (by omega), upd_n (by omega), upd_n (by omega)]
      exact ⟨rfl, rfl, rfl⟩
    exact OPN_leaf (m := (S.1 29)) (OPN_ext a2 _ _ _ _ ext b3) (by rw [e82, upd_s]; omega) (by omega)
/-- an inner node of the wait that begins -/
theorem RB_op {hx : Nat} {cd : Int} {ty : Nat → T6} {u v : T6} {so en : Int32} {S S1 : mS} (h : RB hx cd ty u S) (h1 : u.2.2.1 = 1) (ho : u.2.2.2.2.1 ≤ 10) (hv : v.2.2.1 = u.2.2.1 ∧ v.2.2.2.1 ≤ u.2.2.2.1 - 1 - (if so = 2 then 1 else 0) ∧ v.2.2.2.2.1 = u.2.2.2.2.1 + 1 ∧ v.2.2.2.2.2 = u.2.2.2.2.2) (hc : 1 + (if so = 2 then 1 else 0) ≤ u.2.2.2.1) (hz : (S1.1 29).toInt = (S.1 29).toInt + 1) (e80 : S1.2.1 80 = upd (S.2.1 80) (ix (S.1 29)) so) (e81 : S1.2.1 81 = upd (S.2.1 81) (ix (S.1 29)) (S.1 36)) (e82 : S1.2.1 82 = upd (S.2.1 82) (ix (S.1 29)) en) (e85 : S1.2.1 85 = upd (S.2.1 85) (ix (S.1 29)) (S.1 33)) (z22 : S1.1 22 = S.1 22) (z25 : S1.1 25 = S.1 25) (z26 : S1.1 26 = S.1 26) (z33 : S1.1 33 = S.1 33) (z34 : S1.1 34 = S.1 34) (z35 : S1.1 35 = S.1 35) (z36 : S1.1 36 = S.1 29) (z37 : S1.1 37 = S.1 37) (e54 : S1.2.1 54 = S.2.1 54) (e60 : S1.2.1 60 = S.2.1 60) : RB hx cd ty v S1 := by
  have g := h.2.2.2.1 h1
  obtain ⟨a1, a2, a3, a4, a5, oc, ow, b1, b2, b3, b4⟩ := g
  have h2 := h.2.1
  have en0 : ((ix (S.1 29) : Nat) : Int) = (S.1 29).toInt := by unfold ix; omega
  have hi9 : (0 : Int) ≤ (if so = 2 then 1 else 0) := by split <;> omega
  refine ⟨⟨by rw [z33]; exact h.1.1, by rw [z33, z22]; exact h.1.2.1, by rw [z33, e54]; exact h.1.2.2.1, by rw [z33, e60]; exact h.1.2.2.2⟩, ?_, fun q => absurd q (by omega), fun _ => ⟨by rw [z34]; exact a1, by rw [z35]; exact a2, by rw [z35]; omega, fun n n1 n2 => ?_, ?_, oc + 1, ow + (if so = 2 then 1 else 0), by omega, by omega, ?_, by rw [z25]; omega⟩, by rw [hv.1]; exact h.2.2.2.2.1, by omega⟩
  · rw [z25, z26]; omega
  · rw [z35] at n1
    rw [z33, e85]
    rcases Decidable.em (ix n = ix (S.1 29)) with d | d
    · rw [d, upd_s]
    · rw [upd_n d]; exact a4 n n1 (by unfold ix at d; omega)
  · rw [z37, hv.2.2.2]; exact a5
  · rw [z35, z36]
    have ext : ∀ i : Nat, (i : Int) < (S.1 29).toInt → S1.2.1 81 i = S.2.1 81 i ∧ S1.2.1 82 i = S.2.1 82 i ∧ S1.2.1 80 i = S.2.1 80 i := fun i hi => by
      rw [e80, e81, e82, upd_n (by omega), upd_n (by omega), upd_n (by omega)]
      exact ⟨rfl, rfl, rfl⟩
    exact OPN_open (u := (S.1 36)) (OPN_ext a2 _ _ _ _ ext b3) (by rw [e81, upd_s]) a3 hz (by rw [e80, upd_s])
theorem OPN_ow {up en so : Nat → Int32} {ro : Int} : ∀ (n : Nat) (u : Int32) (hi ow : Int), OPN up en so ro n u hi ow → 0 ≤ ow := by
  intro n
  induction n with
  | zero => intro u hi ow h; have := h.2.1; omega
  | succ n ih =>
    intro u hi ow h
    have q := ih _ _ _ h.2.2.2
    split at q <;> omega
/-- a task in the midst of a wait's beginning, without its credit -/
def RP (hx : Nat) (cd : Int) (ty : Nat → T6) (tr : Int32) (S : mS) : Prop := (0 ≤ (S.1 33).toInt ∧ (S.1 33).toInt < (S.1 22).toInt ∧ (S.2.1 54) (ix (S.1 33)) = 4 ∧ ¬ (S.2.1 60) (ix (S.1 33)) = 0) ∧ (0 ≤ (S.1 26).toInt ∧ (S.1 26).toInt ≤ 3000 ∧ 0 ≤ (S.1 25).toInt ∧ (S.1 25).toInt ≤ 100000 ∧ (S.1 29).toInt ≤ (S.1 25).toInt) ∧ (S.1 34) = 1 ∧ 0 ≤ (S.1 35).toInt ∧ (S.1 35).toInt ≤ (S.1 29).toInt ∧ OFT S (S.1 33).toInt (S.1 35).toInt (S.1 29).toInt ∧ TG hx cd ty (S.1 37) tr
theorem RP_of {hx : Nat} {cd : Int} {ty : Nat → T6} {u : T6} {S : mS} (h : RB hx cd ty u S) (h1 : u.2.2.1 = 1) : RP hx cd ty u.2.2.2.2.2 S := by
  obtain ⟨a1, a2, a3, a4, a5, _⟩ := h.2.2.2.1 h1
  exact ⟨h.1, h.2.1, a1, a2, a3, a4, a5⟩
theorem RP_nn {hx : Nat} {cd : Int} {ty : Nat → T6} {tr : Int32} {S S1 : mS} (h : RP hx cd ty tr S) (hn : (S.1 29).toInt + 1 ≤ (S.1 25).toInt) (h0 : 0 ≤ (S.1 29).toInt) (hz : (S1.1 29).toInt = (S.1 29).toInt + 1) (e85 : S1.2.1 85 = upd (S.2.1 85) (ix (S.1 29)) (S.1 33)) (z22 : S1.1 22 = S.1 22) (z25 : S1.1 25 = S.1 25) (z26 : S1.1 26 = S.1 26) (z33 : S1.1 33 = S.1 33) (z34 : S1.1 34 = S.1 34) (z35 : S1.1 35 = S.1 35) (z37 : S1.1 37 = S.1 37) (e54 : S1.2.1 54 = S.2.1 54) (e60 : S1.2.1 60 = S.2.1 60) : RP hx cd ty tr S1 := by
  obtain ⟨c1, c2, a1, a2, a3, a4, a5⟩ := h
  refine ⟨by rw [z33, z22, e54, e60]; exact c1, by rw [z25, z26]; omega, by rw [z34]; exact a1, by rw [z35]; exact a2, by rw [z35]; omega, fun n n1 n2 => ?_, by rw [z37]; exact a5⟩
  rw [z35] at n1
  rw [z33, e85]
  rcases Decidable.em (ix n = ix (S.1 29)) with d | d
  · rw [d, upd_s]
  · rw [upd_n d]; exact a4 n n1 (by unfold ix at d; omega)
/-- an inner node is shut -/
theorem RB_sh {hx : Nat} {cd : Int} {ty : Nat → T6} {v : T6} {en : Int32} {S S1 : mS} {oc : Nat} {ow : Int} (h : RP hx cd ty v.2.2.2.2.2 S) (hv : v.2.2.1 = 1) (hb : OPN ((S.2.1 81)) ((S.2.1 82)) ((S.2.1 80)) (S.1 35).toInt (oc + 1) (S.1 36) (S.1 29).toInt ow) (hoc : (oc : Int) = v.2.2.2.2.1) (ho : (oc : Int) ≤ 11) (how : (S.1 29).toInt + v.2.2.2.1 + (ow - if (S.2.1 80) (ix (S.1 36)) = 2 then 1 else 0) ≤ (S.1 25).toInt ∧ (S.1 29).toInt + (ow - if (S.2.1 80) (ix (S.1 36)) = 2 then 1 else 0) ≤ (S.1 25).toInt) (hen : 0 < en.toInt) (e80 : S1.2.1 80 = S.2.1 80) (e81 : S1.2.1 81 = S.2.1 81) (e82 : S1.2.1 82 = upd (S.2.1 82) (ix (S.1 36)) en) (e85 : S1.2.1 85 = S.2.1 85) (z22 : S1.1 22 = S.1 22) (z25 : S1.1 25 = S.1 25) (z26 : S1.1 26 = S.1 26) (z29 : S1.1 29 = S.1 29) (z33 : S1.1 33 = S.1 33) (z34 : S1.1 34 = S.1 34) (z35 : S1.1 35 = S.1 35) (z36 : S1.1 36 = S.2.1 81 (ix (S.1 36))) (z37 : S1.1 37 = S.1 37) (e54 : S1.2.1 54 = S.2.1 54) (e60 : S1.2.1 60 = S.2.1 60) : RB hx cd ty v S1 := by
  obtain ⟨c1, h2, a1, a2, a3, a4, a5⟩ := h
  have hu := hb.1
  have hu2 := hb.2.1
  have k2 : OPN ((S.2.1 81)) (upd (S.2.1 82) (ix (S.1 36)) en) ((S.2.1 80)) (S.1 35).toInt (oc + 1) (S.1 36) (S.1 29).toInt ow := by
    refine ⟨hb.1, hb.2.1, fun k k1 k2 => ?_, OPN_ext a2 _ _ _ _ (fun i hi => ⟨rfl, upd_n (by unfold ix; omega), rfl⟩) hb.2.2.2⟩
    rw [upd_n (by unfold ix; omega)]
    exact hb.2.2.1 k k1 k2
  have k3 := OPN_shut k2 (by rw [upd_s]; exact hen)
  refine ⟨by rw [z33, z22, e54, e60]; exact c1, by rw [z25, z26, z29]; exact h2, fun q => absurd q (by omega), fun _ => ⟨by rw [z34]; exact a1, by rw [z35]; exact a2, by rw [z35, z29]; exact a3, fun n n1 n2 => ?_, by rw [z37]; exact a5, oc, _, hoc, OPN_ow _ _ _ _ k3, ?_, by rw [z25, z29]; exact how⟩, Or.inr hv, by omega⟩
  · rw [z35] at n1
    rw [z29] at n2
    rw [z33, e85]
    exact a4 n n1 n2
  · rw [z35, z36, z29, e80, e81, e82]
    exact k3
/-- a wait begins -/
theorem RB_beg {hx : Nat} {cd : Int} {ty : Nat → T6} {u v : T6} {S S1 : mS} (h : RB hx cd ty u S) (hv : v.2.2.1 = 1 ∧ v.2.2.2.1 ≤ 0 ∧ v.2.2.2.2.1 = 0 ∧ v.2.2.2.2.2 = u.2.2.2.2.2) (hT : TG hx cd ty (S1.1 37) u.2.2.2.2.2) (hn : 0 ≤ (S.1 29).toInt) (e80 : S1.2.1 80 = S.2.1 80) (e81 : S1.2.1 81 = S.2.1 81) (e82 : S1.2.1 82 = S.2.1 82) (e85 : S1.2.1 85 = S.2.1 85) (z22 : S1.1 22 = S.1 22) (z25 : S1.1 25 = S.1 25) (z26 : S1.1 26 = S.1 26) (z29 : S1.1 29 = S.1 29) (z33 : S1.1 33 = S.1 33) (z34 : S1.1 34 = 1) (z35 : S1.1 35 = S.1 29) (z36 : S1.1 36 = -1) (e54 : S1.2.1 54 = S.2.1 54) (e60 : S1.2.1 60 = S.2.1 60) : RB hx cd ty v S1 := by
  have h2 := h.2.1
  refine ⟨⟨by rw [z33]; exact h.1.1, by rw [z33, z22]; exact h.1.2.1, by rw [z33, e54]; exact h.1.2.2.1, by rw [z33, e60]; exact h.1.2.2.2⟩, by rw [z25, z26, z29]; exact h2, fun q => absurd q (by omega), fun _ => ⟨z34, by rw [z35]; exact hn, by rw [z35, z29]; exact Int.le_refl _, fun n n1 n2 => absurd n2 (by rw [z35] at n1; rw [z29]; omega), by rw [hv.2.2.2]; exact hT, 0, 0, by omega, Int.le_refl _, ⟨z36, rfl, fun k k1 k2 => absurd k2 (by rw [z35] at k1; rw [z29]; omega)⟩, by rw [z25, z29]; omega⟩, Or.inr hv.1, by omega⟩
theorem RB_step {hx : Nat} {cd : Int} {ty : Nat → T6} {u v : T6} {S S1 : mS} (h : RB hx cd ty u S) (hv : v.2.2.1 = u.2.2.1 ∧ v.2.2.2.1 ≤ u.2.2.2.1 + 1 ∧ v.2.2.2.2.1 = u.2.2.2.2.1 ∧ v.2.2.2.2.2 = u.2.2.2.2.2) (hl : (S1.1 26).toInt = (S.1 26).toInt + 1 ∧ (S1.1 26).toInt ≤ 3000) (hs : (S1.1 25).toInt = (S.1 25).toInt + 1 ∧ (S1.1 25).toInt ≤ 100000) (ez : ∀ k, k ∈ [22, 29, 33, 34, 35, 36, 37] → S1.1 k = S.1 k) (ef : S1.2.1 = S.2.1) : RB hx cd ty v S1 := by
  have z22 := ez 22 (by decide)
  have z29 := ez 29 (by decide)
  have z33 := ez 33 (by decide)
  have z34 := ez 34 (by decide)
  have z35 := ez 35 (by decide)
  have z36 := ez 36 (by decide)
  have z37 := ez 37 (by decide)
  have h2 := h.2.1
  refine ⟨by rw [z33, z22, ef]; exact h.1, by rw [z29]; omega, fun q => by rw [z34]; exact h.2.2.1 (by omega), fun q => ?_, by rw [hv.1]; exact h.2.2.2.2.1, by rw [hv.2.2.1]; exact h.2.2.2.2.2⟩
  obtain ⟨a1, a2, a3, a4, a5, oc, ow, b1, b2, b3, b4⟩ := h.2.2.2.1 (by omega)
  refine ⟨by rw [z34]; exact a1, by rw [z35]; exact a2, by rw [z35, z29]; exact a3, fun n n1 n2 => ?_, by rw [z37, hv.2.2.2]; exact a5, oc, ow, by omega, b2, by rw [z35, z36, z29, ef]; exact b3, by rw [z29]; omega⟩
  rw [z35] at n1
  rw [z29] at n2
  rw [z33, ef]
  exact a4 n n1 n2
theorem ti_bm64 {a : Int} (h : -9223372036854775808 ≤ a ∧ a < 9223372036854775808) : a.bmod (2 ^ 64) = a := by
  rw [Int.bmod_def]
  omega
theorem dat_1 {x y : Int32} : (Int32.toInt64 x + Int32.toInt64 y).toInt = x.toInt + y.toInt := by
  have r1 := ti_rng x
  have r2 := ti_rng y
  rw [Int64.toInt_add, Int32.toInt_toInt64, Int32.toInt_toInt64]
  exact ti_bm64 ⟨by omega, by omega⟩
/-- what newNode does -/
def NNB (a0 a1 a2 : Int32) (S S1 : mS) : Prop := (S1.1 29).toInt = (S.1 29).toInt + 1 ∧ S1.2.1 80 = upd (S.2.1 80) (ix (S.1 29)) a0 ∧ S1.2.1 81 = upd (S.2.1 81) (ix (S.1 29)) (S.1 36) ∧ (∃ en : Int32, S1.2.1 82 = upd (S.2.1 82) (ix (S.1 29)) en ∧ (3 ≤ a0.toInt → en.toInt = (S.1 29).toInt + 1) ∧ (a0.toInt < 3 → en = 0)) ∧ S1.2.1 83 = upd (S.2.1 83) (ix (S.1 29)) a1 ∧ S1.2.1 84 = upd (S.2.1 84) (ix (S.1 29)) a2 ∧ S1.2.1 85 = upd (S.2.1 85) (ix (S.1 29)) (S.1 33)
def STD (a0 a1 : Int32) (S S1 : mS) : Prop := (a1 = 0 ∧ (a0 = 3 ∨ a0 = 4) ∧ S1.2.1 87 = upd (S.2.1 87) (ix (S.1 30)) (S.1 29) ∧ (S1.1 30).toInt = (S.1 30).toInt + 1) ∨ (¬ (a1 = 0 ∧ (a0 = 3 ∨ a0 = 4)) ∧ S1.2.1 87 = S.2.1 87 ∧ S1.1 30 = S.1 30)
theorem sp_newNode (a0 a1 a2 : Int32) {S : mS} (hn : 0 ≤ (S.1 29).toInt ∧ (S.1 29).toInt < 100000) (hs : 0 ≤ (S.1 30).toInt ∧ (S.1 30).toInt ≤ (S.1 29).toInt) : wp_newNode a0 a1 a2 S (fun S1 r => NNB a0 a1 a2 S S1 ∧ STD a0 a1 S S1 ∧ r = (S.1 29)) := by
  have inn : inR (S.1 29) 100300 := ⟨hn.1, by show (S.1 29).toInt < 100300; omega⟩
  have q1 : (1 : Int32).toInt = 1 := rfl
  have hz := w_add (z := S.1 29 + 1) rfl (by rw [q1]; omega)
  rw [q1] at hz
  have hst := w_add (z := S.1 30 + 1) rfl (by rw [q1]; omega)
  rw [q1] at hst
  unfold wp_newNode
  intro z1 e1 S2 e2
  refine ⟨inn, fun S3 e3 => ⟨inn, fun S4 e4 => ?_⟩⟩
  have key : ∀ y2 : Int32, ((3 : Int) ≤ a0.toInt → y2.toInt = (S.1 29).toInt + 1) → (a0.toInt < 3 → y2 = 0) → wp_newNode_54 (fun S1 r => NNB a0 a1 a2 S S1 ∧ STD a0 a1 S S1 ∧ r = (S.1 29)) a0 a1 a2 (S.1 29) (S.1 29) y2 S4 := by
    intro y2 h1 h2
    unfold wp_newNode_54
    refine ⟨inn, fun S7 e7 => ⟨inn, fun S8 e8 => ⟨inn, fun S9 e9 => ⟨inn, fun S10 e10 => ?_⟩⟩⟩⟩
    have b29 : S10.1 29 = S.1 29 + 1 := by rw [e10, e9, e8, e7, e4, e3, e2, e1]; rfl
    have b80 : S10.2.1 80 = upd (S.2.1 80) (ix (S.1 29)) a0 := by rw [e10, e9, e8, e7, e4, e3, e2]; rfl
    have b81 : S10.2.1 81 = upd (S.2.1 81) (ix (S.1 29)) (S.1 36) := by rw [e10, e9, e8, e7, e4, e3, e2]; rfl
    have b82 : S10.2.1 82 = upd (S.2.1 82) (ix (S.1 29)) y2 := by rw [e10, e9, e8, e7, e4, e3, e2]; rfl
    have b83 : S10.2.1 83 = upd (S.2.1 83) (ix (S.1 29)) a1 := by rw [e10, e9, e8, e7, e4, e3, e2]; rfl
    have b84 : S10.2.1 84 = upd (S.2.1 84) (ix (S.1 29)) a2 := by rw [e10, e9, e8, e7, e4, e3, e2]; rfl
    have b85 : S10.2.1 85 = upd (S.2.1 85) (ix (S.1 29)) (S.1 33) := by rw [e10, e9, e8, e7, e4, e3, e2]; rfl
    have b87 : S10.2.1 87 = S.2.1 87 := by rw [e10, e9, e8, e7, e4, e3, e2]; rfl
    have b30 : S10.1 30 = S.1 30 := by rw [e10, e9, e8, e7, e4, e3, e2]; rfl
    have base : ∀ S1 : mS, S1.1 29 = S10.1 29 → (∀ k, k ≠ 87 → S1.2.1 k = S10.2.1 k) → NNB a0 a1 a2 S S1 := fun S1 f1 f2 => ⟨by rw [f1, b29]; exact hz, by rw [f2 80 (by decide)]; exact b80, by rw [f2 81 (by decide)]; exact b81, ⟨y2, by rw [f2 82 (by decide)]; exact b82, h1, h2⟩, by rw [f2 83 (by decide)]; exact b83, by rw [f2 84 (by decide)]; exact b84, by rw [f2 85 (by decide)]; exact b85⟩
    have go96 : a1 = 0 → (a0 = 3 ∨ a0 = 4) → wp_newNode_96 (fun S1 r => NNB a0 a1 a2 S S1 ∧ STD a0 a1 S S1 ∧ r = (S.1 29)) (S.1 29) S10 := by
      intro ha hb
      unfold wp_newNode_96
      refine ⟨by rw [b30]; exact ⟨hs.1, by show (S.1 30).toInt < 100300; omega⟩, fun S14 e14 z15 e15 S16 e16 => ⟨base S16 (by rw [e16, e14]; rfl) (fun k hk => ?_), Or.inl ⟨ha, hb, ?_, ?_⟩, rfl⟩⟩
      · rw [e16, e14]
        show (sF S10 87 _ _).2.1 k = _
        rw [q_ff, if_neg hk]
      · rw [e16, e14, b30]
        show upd (S10.2.1 87) _ _ = _
        rw [b87]
      · have e : S16.1 30 = S.1 30 + 1 := by rw [e16]; show z15 = _; rw [e15, e14]; show S10.1 30 + 1 = _; rw [b30]
        rw [e]; exact hst
    have old : ¬ (a1 = 0 ∧ (a0 = 3 ∨ a0 = 4)) → NNB a0 a1 a2 S S10 ∧ STD a0 a1 S S10 ∧ S.1 29 = (S.1 29) := fun h => ⟨base S10 rfl (fun _ _ => rfl), Or.inr ⟨h, b87, b30⟩, rfl⟩
    refine ⟨fun c => old (fun h => c h.1), fun c => ⟨fun c3 => go96 c (Or.inl c3), fun c3 => ⟨fun c4 => old (fun h => h.2.elim c3 c4), fun c4 => go96 c (Or.inr c4)⟩⟩⟩
  have q3 : (3 : Int32).toInt = 3 := rfl
  refine ⟨fun c z6 e6 => key z6 (fun _ => by rw [e6]; exact hz) (fun h => absurd (w_le c) (by rw [q3]; omega)), fun c => key 0 (fun h => absurd (Int32.le_iff_toInt_le.mpr (by rw [q3]; exact h)) c) (fun _ => rfl)⟩
theorem sg_newNode (a0 a1 a2 : Int32) {S : mS} (hn : 0 ≤ (S.1 29).toInt ∧ (S.1 29).toInt < 100000) (hs : 0 ≤ (S.1 30).toInt ∧ (S.1 30).toInt ≤ (S.1 29).toInt) : wp_newNode a0 a1 a2 S (fun S1 r => (r = (S.1 29) ∧ (S1.1 29).toInt = (S.1 29).toInt + 1) ∧ (NNB a0 a1 a2 S S1 ∧ STD a0 a1 S S1)) := fm_newNode _ _ _ _ _ _ (fun S1 r _ p => ⟨⟨p.2.2, p.1.1⟩, p.1, p.2.1⟩) (sp_newNode a0 a1 a2 hn hs)
abbrev NDz : List Nat := [29, 30]
abbrev NDf : List Nat := [80, 81, 82, 83, 84, 85, 87]
theorem W0_st {hx : Nat} {cd nt nw : Int} {ty : Nat → T6} {P S : mS} (hW : W0 hx cd nt nw ty P S) : 0 ≤ (S.1 30).toInt ∧ (S.1 30).toInt ≤ (S.1 29).toInt := ⟨hW.2.2.1.2.2.2.2.2.2.1, STG_le hW.2.2.1.2.2.2.2.2.2 hW.2.1.1.2.2.1⟩
theorem RB_up {hx : Nat} {cd nt nw : Int} {ty : Nat → T6} {P S : mS} {u : T6} (hW : W0 hx cd nt nw ty P S) (hB : RB hx cd ty u S) (h1 : u.2.2.1 = 1) : ((S.1 36) = -1 ∨ (0 ≤ (S.1 36).toInt ∧ (S.1 36).toInt < (S.1 29).toInt)) ∧ ∃ h, h ≤ 11 ∧ dpt ((S.2.1 81)) h (S.1 36) := by
  obtain ⟨a1, a2, a3, a4, a5, oc, ow, b1, b2, b3, b4⟩ := hB.2.2.2.1 h1
  have q := OPN_u b3
  have ho := hB.2.2.2.2.2
  exact ⟨q.imp id (fun q => ⟨by omega, q.2⟩), oc, by omega, OPN_dpt a2 _ _ _ _ b3⟩
/-- W0 behind newNode -/
theorem W0_nnb {hx : Nat} {cd nt nw : Int} {ty : Nat → T6} {P S : mS} {a0 a1 a2 : Int32} {S1 : mS} {gs : List Nat} (hW : W0 hx cd nt nw ty P S) (hn : (S.1 29).toInt + 1 ≤ 100000) (ht : 0 ≤ (S.1 33).toInt ∧ (S.1 33).toInt < (S.1 22).toInt) (hu : (S.1 36) = -1 ∨ (0 ≤ (S.1 36).toInt ∧ (S.1 36).toInt < (S.1 29).toInt)) (hd : ∃ h, h ≤ 11 ∧ dpt ((S.2.1 81)) h (S.1 36)) (hb : NNB a0 a1 a2 S S1) (hs : STD a0 a1 S S1) (hF : Fr NDz NDf gs S S1) (hg : ∀ i : Nat, (i : Int) < (S.1 29).toInt → S1.2.2 86 i = S.2.2 86 i) (h6 : a0 = 6 → ¬ a1 = 0) (h4 : a0 = 4 → a1 = 0 → 1 ≤ (S1.2.2 86 (ix (S.1 29))).toInt) : W0 hx cd nt nw ty P S1 := by
  obtain ⟨en, c1, c2, c3⟩ := hb.2.2.2.1
  have hnb := hW.2.1.1.2.2.1
  have stg := hW.2.2.1.2.2.2.2.2.2
  have e80 := hb.2.1
  refine W0_nn (so := a0) (st := a1) (va := a2) (tk := (S.1 33)) (en := en) hW hn hb.1 ht hu ?_ hd e80 hb.2.2.1 c1 hb.2.2.2.2.1 hb.2.2.2.2.2.1 hb.2.2.2.2.2.2 h6 ?_ (hF.1 5 (by decide)) (hF.1 22 (by decide)) (hF.1 23 (by decide)) (hF.1 28 (by decide)) (hF.2.1 51 (by decide)) (hF.2.1 52 (by decide)) (hF.2.1 53 (by decide)) (hF.2.1 54 (by decide)) (hF.2.1 57 (by decide)) (hF.2.1 60 (by decide)) (hF.2.1 61 (by decide)) (hF.2.1 64 (by decide)) (hF.2.1 65 (by decide)) (hF.2.1 66 (by decide)) (hF.2.1 68 (by decide)) (hF.2.1 69 (by decide)) (hF.2.1 70 (by decide)) (hF.2.1 71 (by decide)) (hF.2.1 72 (by decide)) (hF.2.1 73 (by decide)) (hF.2.1 78 (by decide)) (fun k hk => hF.2.1 k (fun q => by simp [NDf] at q; omega))
  · rcases Int.lt_or_le a0.toInt 3 with g | g
    · exact Or.inl (c3 g)
    · exact Or.inr (c2 g)
  · have ex : ∀ i : Nat, (i : Int) < (S.1 29).toInt → S1.2.1 80 i = S.2.1 80 i ∧ S1.2.2 86 i = S.2.2 86 i := fun i hi => ⟨by rw [e80, upd_n (by unfold ix; omega)], hg i hi⟩
    rcases hs with g | g
    · exact STG_ap stg rfl hnb hb.1 g.2.2.2 g.2.2.1 ex (fun q => by
        rw [e80, upd_s] at q
        exact h4 q g.1)
    · rw [g.2.1, g.2.2]
      exact STG_ex stg (by have := hb.1; omega) ex
theorem RB_nb2 {hx : Nat} {cd : Int} {ty : Nat → T6} {u : T6} {S : mS} (hB : RB hx cd ty u S) (h1 : u.2.2.1 = 1) (hc : 1 ≤ u.2.2.2.1) : (S.1 29).toInt + 1 ≤ (S.1 25).toInt ∧ (S.1 25).toInt ≤ 100000 := by
  obtain ⟨a1, a2, a3, a4, a5, oc, ow, b1, b2, b3, b4⟩ := hB.2.2.2.1 h1
  have := hB.2.1
  omega
/-- RB behind a leaf -/
theorem RB_lf {hx : Nat} {cd : Int} {ty : Nat → T6} {u v : T6} {a0 a1 a2 : Int32} {S S1 : mS} {gs : List Nat} (hB : RB hx cd ty u S) (h1 : u.2.2.1 = 1) (hc : 1 ≤ u.2.2.2.1) (hv : v.2.2.1 = u.2.2.1 ∧ v.2.2.2.1 ≤ u.2.2.2.1 - 1 ∧ v.2.2.2.2.1 = u.2.2.2.2.1 ∧ v.2.2.2.2.2 = u.2.2.2.2.2) (hb : NNB a0 a1 a2 S S1) (hF : Fr NDz NDf gs S S1) (h3 : 3 ≤ a0.toInt) : RB hx cd ty v S1 := by
  obtain ⟨en, c1, c2, c3⟩ := hb.2.2.2.1
  exact RB_nn hB h1 hv hc (c2 h3) hb.1 hb.2.1 hb.2.2.1 c1 hb.2.2.2.2.2.2 (by rw [hF.1 22 (by decide)]; exact Int.le_refl _) (hF.1 25 (by decide)) (hF.1 26 (by decide)) (hF.1 33 (by decide)) (hF.1 34 (by decide)) (hF.1 35 (by decide)) (hF.1 36 (by decide)) (hF.1 37 (by decide)) (by rw [hF.2.1 54 (by decide)]) (by rw [hF.2.1 60 (by decide)])
theorem LEAF {hx : Nat} {cd nt nw : Int} {ty : Nat → T6} {P S : mS} {u v : T6} {a0 a1 a2 : Int32} {S1 : mS} (hW : W0 hx cd nt nw ty P S) (hB : RB hx cd ty u S) (h1 : u.2.2.1 = 1) (hc : 1 ≤ u.2.2.2.1) (hv : v.2.2.1 = u.2.2.1 ∧ v.2.2.2.1 ≤ u.2.2.2.1 - 1 ∧ v.2.2.2.2.1 = u.2.2.2.2.1 ∧ v.2.2.2.2.2 = u.2.2.2.2.2) (hb : NNB a0 a1 a2 S S1) (hs : STD a0 a1 S S1) (hF : Fr NDz NDf [] S S1) (h3 : 3 ≤ a0.toInt) (h6 : a0 = 6 → ¬ a1 = 0) (h4 : a0 = 4 → ¬ a1 = 0) : W0 hx cd nt nw ty P S1 ∧ RB hx cd ty v S1 := by
  have hn := RB_nb2 hB h1 hc
  have hu := RB_up hW hB h1
  exact ⟨W0_nnb hW (by omega) ⟨hB.1.1, hB.1.2.1⟩ hu.1 hu.2 hb hs hF (fun i _ => by rw [hF.2.2 86 (by simp)]) h6 (fun q q2 => absurd q2 (h4 q)), RB_lf hB h1 hc hv hb hF h3⟩
theorem sg_tickNode {hx : Nat} {cd nt nw : Int} {ty : Nat → T6} {P : mS} (a0 : Int32) {S : mS} (hc : 0 ≤ (S.1 24).toInt) (hn : (S.1 29).toInt + 1 ≤ 100000) (hW : W0 hx cd nt nw ty P S) (ht : 0 ≤ (S.1 33).toInt ∧ (S.1 33).toInt < (S.1 22).toInt) (hu : (S.1 36) = -1 ∨ (0 ≤ (S.1 36).toInt ∧ (S.1 36).toInt < (S.1 29).toInt)) (hd : ∃ h, h ≤ 11 ∧ dpt ((S.2.1 81)) h (S.1 36)) : wp_tickNode a0 S (fun S1 => (S1.1 29).toInt = (S.1 29).toInt + 1 ∧ ((∃ st, NNB 4 st 0 S S1) ∧ W0 hx cd nt nw ty P S1)) := by
  have hnb := hW.2.1.1.2.2.1
  have q0 : (0 : Int32).toInt = 0 := rfl
  have key : ∀ st : Int32, (st = 0 → 0 < a0.toInt) → wp_tickNode_11 (fun S1 => (S1.1 29).toInt = (S.1 29).toInt + 1 ∧ ((∃ st, NNB 4 st 0 S S1) ∧ W0 hx cd nt nw ty P S1)) a0 4 st S := by
    intro st hst
    unfold wp_tickNode_11
    refine fm_newNode _ _ _ _ _ _ (fun S2 r2 hF p => ?_) (sp_newNode 4 st 0 ⟨hnb, by omega⟩ (W0_st hW))
    intro z3 e3 z4 e4 z5 e5
    have c2 : S2.1 24 = S.1 24 := hF.1 24 (by decide)
    have d5 : z5.toInt = (S.1 24).toInt + a0.toInt := by rw [e5, e3, e4, c2]; exact dat_1
    have er : r2 = (S.1 29) := p.2.2
    refine ⟨by rw [er]; exact ⟨hnb, by show (S.1 29).toInt < 100300; omega⟩, fun S6 e6 => ?_⟩
    have f6 : S6.2.1 = S2.2.1 := by rw [e6]; rfl
    have g6 : S6.1 = S2.1 := by rw [e6]; rfl
    have nb : NNB 4 st 0 S S6 := by
      have q := p.1
      unfold NNB at q ⊢
      rw [f6, g6]
      exact q
    have sd : STD 4 st S S6 := by
      have q := p.2.1
      unfold STD at q ⊢
      rw [f6, g6]
      exact q
    have g86 : S6.2.2 86 = vp_updL (S2.2.2 86) (ix r2) z5 := by rw [e6]; rfl
    have hF6 : Fr NDz NDf [86] S S6 := ⟨fun k hk => by rw [g6]; exact hF.1 k hk, fun k hk => by rw [f6]; exact hF.2.1 k hk, fun k hk => by
      rw [e6]
      show upG S2.2.2 86 _ k = _
      unfold upG
      rw [if_neg (fun h => hk (by rw [h]; exact List.mem_singleton.mpr rfl))]
      exact hF.2.2 k (by simp)⟩
    refine ⟨nb.1, ⟨st, nb⟩, W0_nnb hW hn ht hu hd nb sd hF6 (fun i hi => ?_) (fun q => absurd q (by decide)) (fun _ q => ?_)⟩
    · rw [g86, er]
      unfold vp_updL
      rw [if_neg (by unfold ix; omega), hF.2.2 86 (by simp)]
    · rw [g86, er]
      unfold vp_updL
      rw [if_pos rfl, d5]
      have := hst q
      omega
  unfold wp_tickNode
  refine ⟨fun c => key 1 (fun q => absurd q (by decide)), fun c => key 0 (fun _ => ?_)⟩
  rcases Int.lt_or_le 0 a0.toInt with g | g
  · exact g
  · exact absurd (Int32.le_iff_toInt_le.mpr (by rw [q0]; exact g)) c
