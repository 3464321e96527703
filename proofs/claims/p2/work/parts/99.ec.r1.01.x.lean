
theorem php : ∀ (n m : Nat) (f : Nat → Nat), (∀ i, i < m → f i < n) → (∀ i j, i < m → j < m → f i = f j → i = j) → m ≤ n := by
  intro n
  induction n with
  | zero =>
    intro m f h1 h2
    rcases Nat.eq_zero_or_pos m with e | e
    · omega
    · exact absurd (h1 0 e) (by omega)
  | succ n ih =>
    intro m f h1 h2
    cases m with
    | zero => omega
    | succ m =>
      have q := ih m (fun i => if f i = n then f m else f i) (fun i hi => ?_) (fun i j hi hj e => ?_)
      · omega
      · show (if f i = n then f m else f i) < n
        have a := h1 i (by omega)
        have b := h1 m (by omega)
        split
        · rename_i e
          rcases Decidable.em (f m = n) with d | d
          · have := h2 i m (by omega) (by omega) (by omega); omega
          · omega
        · omega
      · have e : (if f i = n then f m else f i) = (if f j = n then f m else f j) := e
        rcases Decidable.em (f i = n) with a | a
        · rcases Decidable.em (f j = n) with b | b
          · exact h2 i j (by omega) (by omega) (by omega)
          · rw [if_pos a, if_neg b] at e
            have := h2 m j (by omega) (by omega) e
            omega
        · rcases Decidable.em (f j = n) with b | b
          · rw [if_neg a, if_pos b] at e
            have := h2 i m (by omega) (by omega) e
            omega
          · rw [if_neg a, if_neg b] at e
            exact h2 i j (by omega) (by omega) e
/-- the row: tk tasks, rm of them in the row ro, which are just those of state 0, but x -/
def RWX (tk rm x : Int) (st ro : Nat → Int32) : Prop := 0 ≤ rm ∧ (∀ i : Nat, (i : Int) < rm → 0 ≤ (ro i).toInt ∧ (ro i).toInt < tk ∧ (ro i).toInt ≠ x ∧ st (ix (ro i)) = 0) ∧ (∀ i j : Nat, (i : Int) < rm → (j : Int) < rm → ro i = ro j → i = j) ∧ (∀ t : Int32, 0 ≤ t.toInt → t.toInt < tk → t.toInt ≠ x → st (ix t) = 0 → ∃ i : Nat, (i : Int) < rm ∧ ro i = t)
theorem RWX_lt {tk rm x : Int} {st ro : Nat → Int32} {t : Int32} (h : RWX tk rm x st ro) (h0 : 0 ≤ t.toInt) (h1 : t.toInt < tk) (h2 : ¬ st (ix t) = 0 ∨ t.toInt = x) : rm < tk := by
  have q := php tk.toNat (rm.toNat + 1) (fun i => if i = rm.toNat then ix t else ix (ro i)) (fun i hi => ?_) (fun i j hi hj e => ?_)
  · have := h.1; omega
  · show (if i = rm.toNat then ix t else ix (ro i)) < tk.toNat
    split
    · unfold ix; omega
    · have := h.2.1 i (by have := h.1; omega)
      unfold ix; omega
  · have e : (if i = rm.toNat then ix t else ix (ro i)) = (if j = rm.toNat then ix t else ix (ro j)) := e
    have key : ∀ i, i < rm.toNat → ¬ ix (ro i) = ix t := by
      intro i hi e
      have a := h.2.1 i (by omega)
      have b : ro i = t := ix_inj a.1 h0 e
      rw [b] at a
      rcases h2 with g | g
      · exact g a.2.2.2
      · exact a.2.2.1 g
    rcases Decidable.em (i = rm.toNat) with a | a
    · rcases Decidable.em (j = rm.toNat) with b | b
      · omega
      · rw [if_pos a, if_neg b] at e
        exact absurd e.symm (key j (by omega))
    · rcases Decidable.em (j = rm.toNat) with b | b
      · rw [if_neg a, if_pos b] at e
        exact absurd e (key i (by omega))
      · rw [if_neg a, if_neg b] at e
        have c := h.2.1 i (by omega)
        have d := h.2.1 j (by omega)
        exact h.2.2.1 i j (by omega) (by omega) (ix_inj c.1 d.1 e)
/-- a task goes to the row's end -/
theorem RWX_to {tk x m : Int} {st ro : Nat → Int32} {t r : Int32} (h : RWX tk r.toInt x st ro) (h0 : 0 ≤ t.toInt) (h1 : t.toInt < tk) (h2 : ¬ st (ix t) = 0 ∨ t.toInt = x) (hx : x = -1 ∨ x = t.toInt) (hm : m = r.toInt + 1) : RWX tk m (-1) (upd st (ix t) 0) (upd ro (ix r) t) := by
  have hr := h.1
  have er : ((ix r : Nat) : Int) = r.toInt := by unfold ix; omega
  have ne : ∀ i : Nat, (i : Int) < r.toInt → ¬ ro i = t := by
    intro i hi e
    have a := h.2.1 i hi
    rw [e] at a
    rcases h2 with g | g
    · exact g a.2.2.2
    · exact a.2.2.1 g
  refine ⟨by omega, fun i hi => ?_, fun i j hi hj e => ?_, fun s s0 s1 _ se => ?_⟩
  · unfold upd
    rcases Decidable.em (i = ix r) with d | d
    · rw [if_pos d, if_pos rfl]; exact ⟨h0, h1, by omega, rfl⟩
    · rw [if_neg d]
      have a := h.2.1 i (by omega)
      refine ⟨a.1, a.2.1, by omega, ?_⟩
      split
      · rfl
      · exact a.2.2.2
  · unfold upd at e
    rcases Decidable.em (i = ix r) with d | d
    · rcases Decidable.em (j = ix r) with b | b
      · omega
      · rw [if_pos d, if_neg b] at e; exact absurd e.symm (ne j (by omega))
    · rcases Decidable.em (j = ix r) with b | b
      · rw [if_neg d, if_pos b] at e; exact absurd e (ne i (by omega))
      · rw [if_neg d, if_neg b] at e; exact h.2.2.1 i j (by omega) (by omega) e
  · rcases Decidable.em (s = t) with d | d
    · exact ⟨ix r, by omega, by unfold upd; rw [if_pos rfl, d]⟩
    · have d2 : ¬ ix s = ix t := fun e => d (ix_inj s0 h0 e)
      unfold upd at se
      rw [if_neg d2] at se
      have sx : s.toInt ≠ x := by
        rcases hx with g | g
        · omega
        · intro e; exact d (Int32.toInt_inj.mp (by omega))
      obtain ⟨i, a, b⟩ := h.2.2.2 s s0 s1 sx se
      exact ⟨i, by omega, by unfold upd; rw [if_neg (by omega)]; exact b⟩
/-- a task out of the row gets another state -/
theorem RWX_st {tk rm x : Int} {st ro : Nat → Int32} {t v : Int32} (h : RWX tk rm x st ro) (h0 : 0 ≤ t.toInt) (h2 : ¬ st (ix t) = 0 ∨ t.toInt = x) (hx : x = -1 ∨ x = t.toInt) (hv : ¬ v = 0) : RWX tk rm (-1) (upd st (ix t) v) ro := by
  refine ⟨h.1, fun i hi => ?_, h.2.2.1, fun s s0 s1 _ se => ?_⟩
  · have a := h.2.1 i hi
    refine ⟨a.1, a.2.1, by omega, ?_⟩
    unfold upd
    rw [if_neg]
    · exact a.2.2.2
    · intro e
      have b : ro i = t := ix_inj a.1 h0 e
      rw [b] at a
      rcases h2 with g | g
      · exact g a.2.2.2
      · exact a.2.2.1 g
  · rcases Decidable.em (ix s = ix t) with d | d
    · unfold upd at se; rw [if_pos d] at se; exact absurd se hv
    · unfold upd at se; rw [if_neg d] at se
      refine h.2.2.2 s s0 s1 ?_ se
      rcases hx with g | g
      · omega
      · intro e; exact d (by rw [Int32.toInt_inj.mp (show s.toInt = t.toInt by omega)])
theorem RWX_in {tk rm x : Int} {st ro : Nat → Int32} {i : Int32} (h : RWX tk rm x st ro) (h0 : 0 ≤ i.toInt) (h1 : i.toInt < rm) : 0 ≤ (ro (ix i)).toInt ∧ (ro (ix i)).toInt < tk ∧ (ro (ix i)).toInt ≠ x ∧ st (ix (ro (ix i))) = 0 := h.2.1 (ix i) (by unfold ix; omega)
/-- a stretch of a row is moved down by one -/
def SH (k x : Int) (r r1 : Nat → Int32) : Prop := ∀ i : Nat, r1 i = if k ≤ (i : Int) ∧ (i : Int) < x then r (i + 1) else r i
theorem SH_0 {k x : Int} {r : Nat → Int32} (h : x ≤ k) : SH k x r r := fun i => by rw [if_neg (by omega)]
theorem SH_s {k m : Int} {r r1 : Nat → Int32} {x z : Int32} (h : SH k x.toInt r r1) (h0 : 0 ≤ x.toInt) (hk : k ≤ x.toInt) (hz : z.toInt = x.toInt + 1) (hm : m = x.toInt + 1) : SH k m r (upd r1 (ix x) (r1 (ix z))) := fun i => by
  have ex : ((ix x : Nat) : Int) = x.toInt := by unfold ix; omega
  have ez : ix z = ix x + 1 := by unfold ix; omega
  unfold upd
  rcases Decidable.em (i = ix x) with d | d
  · rw [if_pos d, if_pos (by omega), h (ix z), if_neg (by omega), ez, d]
  · rw [if_neg d, h i]
    rcases Decidable.em (k ≤ (i : Int) ∧ (i : Int) < x.toInt) with e | e
    · rw [if_pos e, if_pos (by omega)]
    · rw [if_neg e, if_neg (by omega)]
theorem RWX_sh {tk rm rm1 x y : Int} {st ro r1 : Nat → Int32} {k : Int32} (h : RWX tk rm (-1) st ro) (hs : SH k.toInt y ro r1) (h0 : 0 ≤ k.toInt) (h1 : k.toInt < rm) (hy : y = rm - 1) (hm : rm1 = rm - 1) (hx : x = (ro (ix k)).toInt) : RWX tk rm1 x st r1 := by
  subst hy hm hx
  have ek : ((ix k : Nat) : Int) = k.toInt := by unfold ix; omega
  refine ⟨by omega, fun i hi => ?_, fun i j hi hj e => ?_, fun t t0 t1 tx te => ?_⟩
  · rw [hs i]
    split
    · have a := h.2.1 (i + 1) (by omega)
      refine ⟨a.1, a.2.1, fun e => ?_, a.2.2.2⟩
      have := h.2.2.1 (i + 1) (ix k) (by omega) (by omega) (Int32.toInt_inj.mp e)
      omega
    · have a := h.2.1 i (by omega)
      refine ⟨a.1, a.2.1, fun e => ?_, a.2.2.2⟩
      have := h.2.2.1 i (ix k) (by omega) (by omega) (Int32.toInt_inj.mp e)
      omega
  · rw [hs i, hs j] at e
    rcases Decidable.em (k.toInt ≤ (i : Int) ∧ (i : Int) < rm - 1) with a | a
    · rcases Decidable.em (k.toInt ≤ (j : Int) ∧ (j : Int) < rm - 1) with b | b
      · rw [if_pos a, if_pos b] at e; have := h.2.2.1 _ _ (by omega) (by omega) e; omega
      · rw [if_pos a, if_neg b] at e; have := h.2.2.1 _ _ (by omega) (by omega) e; omega
    · rcases Decidable.em (k.toInt ≤ (j : Int) ∧ (j : Int) < rm - 1) with b | b
      · rw [if_neg a, if_pos b] at e; have := h.2.2.1 _ _ (by omega) (by omega) e; omega
      · rw [if_neg a, if_neg b] at e; exact h.2.2.1 _ _ (by omega) (by omega) e
  · obtain ⟨i, a, b⟩ := h.2.2.2 t t0 t1 (by omega) te
    have c : ¬ i = ix k := fun e => tx (by rw [← b, e])
    rcases Decidable.em ((i : Int) < k.toInt) with d | d
    · exact ⟨i, by omega, by rw [hs i, if_neg (by omega)]; exact b⟩
    · refine ⟨i - 1, by omega, ?_⟩
      rw [hs (i - 1), if_pos (by omega), show i - 1 + 1 = i by omega]
      exact b
/-- what stands: increasing nodes, ticks of a date -/
def STG (m nd : Int) (sg so : Nat → Int32) (da : Nat → Int64) : Prop := 0 ≤ m ∧ (∀ i : Nat, (i : Int) < m → 0 ≤ (sg i).toInt ∧ (sg i).toInt < nd ∧ (so (ix (sg i)) = 4 → 1 ≤ (da (ix (sg i))).toInt)) ∧ (∀ i j : Nat, i < j → (j : Int) < m → (sg i).toInt < (sg j).toInt)
theorem STG_le {m nd : Int} {sg so : Nat → Int32} {da : Nat → Int64} (h : STG m nd sg so da) (hn : 0 ≤ nd) : m ≤ nd := by
  have key : ∀ i : Nat, (i : Int) < m → (i : Int) ≤ (sg i).toInt := by
    intro i
    induction i with
    | zero => intro hi; exact (h.2.1 0 hi).1
    | succ i ih => intro hi; have a := ih (by omega); have b := h.2.2 i (i + 1) (by omega) hi; omega
  rcases Decidable.em (m ≤ nd) with d | d
  · exact d
  · have a := key (m - 1).toNat (by omega)
    have b := h.2.1 (m - 1).toNat (by omega)
    omega
theorem STG_in {m nd : Int} {sg so : Nat → Int32} {da : Nat → Int64} {i : Int32} (h : STG m nd sg so da) (h0 : 0 ≤ i.toInt) (h1 : i.toInt < m) : 0 ≤ (sg (ix i)).toInt ∧ (sg (ix i)).toInt < nd := by
  have a := h.2.1 (ix i) (by unfold ix; omega)
  exact ⟨a.1, a.2.1⟩
theorem STG_sh {m m1 x nd : Int} {sg s1 so : Nat → Int32} {da : Nat → Int64} {k : Int32} (h : STG m nd sg so da) (hs : SH k.toInt x sg s1) (h0 : 0 ≤ k.toInt) (h1 : k.toInt < m) (hx : x = m - 1) (hm : m1 = m - 1) : STG m1 nd s1 so da := by
  subst hx hm
  refine ⟨by omega, fun i hi => ?_, fun i j hij hj => ?_⟩
  · rw [hs i]
    split
    · exact h.2.1 (i + 1) (by omega)
    · exact h.2.1 i (by omega)
  · rw [hs i, hs j]
    split
    · split
      · exact h.2.2 _ _ (by omega) (by omega)
      · omega
    · split
      · exact h.2.2 _ _ (by omega) (by omega)
      · exact h.2.2 _ _ hij (by omega)
/-- v is not among the first m -/
def NIN (m : Int) (f : Nat → Int32) (v : Int32) : Prop := ∀ i : Nat, (i : Int) < m → ¬ f i = v
theorem NIN_0 {m : Int} {f : Nat → Int32} {v : Int32} (h : m ≤ 0) : NIN m f v := fun i hi => absurd hi (by omega)
theorem NIN_s {m : Int} {f : Nat → Int32} {x v : Int32} (h : NIN x.toInt f v) (h1 : ¬ f (ix x) = v) (h0 : 0 ≤ x.toInt) (hm : m = x.toInt + 1) : NIN m f v := fun i hi => by
  rcases Decidable.em (i = ix x) with d | d
  · rw [d]; exact h1
  · exact h i (by unfold ix at d; omega)
/-- of T: what a wait's end, a cancelling does not touch -/
def ET (T S : mS) : Prop := S.1 22 = T.1 22 ∧ S.1 29 = T.1 29 ∧ (∀ k, k ∈ [52, 53, 60, 65, 66, 80, 81, 82, 85] → S.2.1 k = T.2.1 k) ∧ S.2.2 86 = T.2.2 86
theorem ET_rf {S : mS} : ET S S := ⟨rfl, rfl, fun _ _ => rfl, rfl⟩
theorem ET_z {T S : mS} (h : ET T S) : S.1 22 = T.1 22 ∧ S.1 29 = T.1 29 ∧ S.2.2 86 = T.2.2 86 := ⟨h.1, h.2.1, h.2.2.2⟩
theorem ET_52 {T S : mS} {i : Nat} (h : ET T S) : S.2.1 52 i = T.2.1 52 i := by rw [h.2.2.1 52 (by decide)]
theorem ET_53 {T S : mS} {i : Nat} (h : ET T S) : S.2.1 53 i = T.2.1 53 i := by rw [h.2.2.1 53 (by decide)]
theorem ET_60 {T S : mS} {i : Nat} (h : ET T S) : S.2.1 60 i = T.2.1 60 i := by rw [h.2.2.1 60 (by decide)]
theorem ET_65 {T S : mS} {i : Nat} (h : ET T S) : S.2.1 65 i = T.2.1 65 i := by rw [h.2.2.1 65 (by decide)]
theorem ET_66 {T S : mS} {i : Nat} (h : ET T S) : S.2.1 66 i = T.2.1 66 i := by rw [h.2.2.1 66 (by decide)]
theorem ET_80 {T S : mS} {i : Nat} (h : ET T S) : S.2.1 80 i = T.2.1 80 i := by rw [h.2.2.1 80 (by decide)]
theorem ET_81 {T S : mS} {i : Nat} (h : ET T S) : S.2.1 81 i = T.2.1 81 i := by rw [h.2.2.1 81 (by decide)]
theorem ET_82 {T S : mS} {i : Nat} (h : ET T S) : S.2.1 82 i = T.2.1 82 i := by rw [h.2.2.1 82 (by decide)]
theorem ET_85 {T S : mS} {i : Nat} (h : ET T S) : S.2.1 85 i = T.2.1 85 i := by rw [h.2.2.1 85 (by decide)]
theorem ET_f {T S S1 : mS} {k i : Nat} {v : Int32} (e : S1 = sF S k i v) (hk : k ∉ [52, 53, 60, 65, 66, 80, 81, 82, 85]) (h : ET T S) : ET T S1 := by
  subst e
  refine ⟨h.1, h.2.1, fun j hj => ?_, h.2.2.2⟩
  rw [q_ff, if_neg (fun e : j = k => hk (e ▸ hj))]
  exact h.2.2.1 j hj
theorem ET_zz {T S S1 : mS} {k : Nat} {v : Int32} (e : S1 = sZ S k v) (hk : 22 ≠ k ∧ 29 ≠ k) (h : ET T S) : ET T S1 := by
  subst e
  refine ⟨?_, ?_, h.2.2⟩
  · show upd S.1 k v 22 = _
    unfold upd; rw [if_neg hk.1]; exact h.1
  · show upd S.1 k v 29 = _
    unfold upd; rw [if_neg hk.2]; exact h.2.1
theorem ET_fr {T S S1 : mS} {zs fs gs : List Nat} (hF : Fr zs fs gs S S1) (h1 : 22 ∉ zs ∧ 29 ∉ zs) (h2 : ∀ k, k ∈ [52, 53, 60, 65, 66, 80, 81, 82, 85] → k ∉ fs) (h3 : 86 ∉ gs) (h : ET T S) : ET T S1 := ⟨(hF.1 22 h1.1).trans h.1, (hF.1 29 h1.2).trans h.2.1, fun k hk => (hF.2.1 k (h2 k hk)).trans (h.2.2.1 k hk), (hF.2.2 86 h3).trans h.2.2.2⟩
theorem ET_f54 {T S : mS} {i : Nat} {v : Int32} (h : ET T S) : ET T (sF S 54 i v) := ET_f rfl (by decide) h
theorem ET_f55 {T S : mS} {i : Nat} {v : Int32} (h : ET T S) : ET T (sF S 55 i v) := ET_f rfl (by decide) h
theorem ET_f56 {T S : mS} {i : Nat} {v : Int32} (h : ET T S) : ET T (sF S 56 i v) := ET_f rfl (by decide) h
theorem ET_f61 {T S : mS} {i : Nat} {v : Int32} (h : ET T S) : ET T (sF S 61 i v) := ET_f rfl (by decide) h
theorem ET_f62 {T S : mS} {i : Nat} {v : Int32} (h : ET T S) : ET T (sF S 62 i v) := ET_f rfl (by decide) h
theorem ET_f63 {T S : mS} {i : Nat} {v : Int32} (h : ET T S) : ET T (sF S 63 i v) := ET_f rfl (by decide) h
theorem ET_f67 {T S : mS} {i : Nat} {v : Int32} (h : ET T S) : ET T (sF S 67 i v) := ET_f rfl (by decide) h
theorem ET_f73 {T S : mS} {i : Nat} {v : Int32} (h : ET T S) : ET T (sF S 73 i v) := ET_f rfl (by decide) h
theorem ET_f76 {T S : mS} {i : Nat} {v : Int32} (h : ET T S) : ET T (sF S 76 i v) := ET_f rfl (by decide) h
theorem ET_f77 {T S : mS} {i : Nat} {v : Int32} (h : ET T S) : ET T (sF S 77 i v) := ET_f rfl (by decide) h
theorem ET_f83 {T S : mS} {i : Nat} {v : Int32} (h : ET T S) : ET T (sF S 83 i v) := ET_f rfl (by decide) h
theorem ET_f84 {T S : mS} {i : Nat} {v : Int32} (h : ET T S) : ET T (sF S 84 i v) := ET_f rfl (by decide) h
theorem ET_f87 {T S : mS} {i : Nat} {v : Int32} (h : ET T S) : ET T (sF S 87 i v) := ET_f rfl (by decide) h
theorem ET_z23 {T S : mS} {v : Int32} (h : ET T S) : ET T (sZ S 23 v) := ET_zz rfl (by decide) h
theorem ET_z28 {T S : mS} {v : Int32} (h : ET T S) : ET T (sZ S 28 v) := ET_zz rfl (by decide) h
theorem ET_z30 {T S : mS} {v : Int32} (h : ET T S) : ET T (sZ S 30 v) := ET_zz rfl (by decide) h

