
/-- the type of a place in the code: -2 between statements, -1 behind a step of a sum, 2 w + c in a wait (w: 0 fresh, 1 to 10 open, 11 done; c: a START paid), -9 wrong -/
def stp (o t : Int) : Int :=
  if t < -2 then -9
  else if t < 0 then
    (if o = 0 then -2 else if 1 ≤ o ∧ o ≤ 4 then -1 else if 5 ≤ o ∧ o ≤ 12 then t else if o = 14 then (if t = -1 then -2 else -9) else if 13 ≤ o ∧ o ≤ 24 then -2 else if o = 25 then 0 else -9)
  else
    (if 1 ≤ o ∧ o ≤ 12 then t else if o = 26 then (if t % 2 = 0 then t + 1 else -9) else if o = 27 ∨ o = 29 then (if t = 0 then 22 else if t % 2 = 0 ∧ t ≤ 20 then t else -9) else if o = 28 ∨ o = 30 then (if t = 1 then 22 else if t % 2 = 1 ∧ t ≤ 21 then t - 1 else -9) else if o = 31 ∨ o = 32 then (if t % 2 = 0 ∧ t ≤ 18 then t + 2 else -9) else if o = 33 then (if t % 2 = 1 ∧ t ≤ 19 then t + 1 else -9) else if o = 34 then (if t = 2 then 22 else if t % 2 = 0 ∧ 4 ≤ t ∧ t ≤ 20 then t - 2 else -9) else if o = 35 then (if t = 22 then -2 else -9) else -9)
def tyf (o : Nat → Int) : Nat → Int
  | 0 => -2
  | n + 1 => stp (o n) (tyf o n)
theorem tyf_c {o o1 : Nat → Int} {n : Nat} (h : ∀ i, i < n → o1 i = o i) : tyf o1 n = tyf o n := by
  induction n with
  | zero => rfl
  | succ n ih =>
    show stp (o1 n) (tyf o1 n) = stp (o n) (tyf o n)
    rw [ih (fun i hi => h i (Nat.lt_succ_of_lt hi)), h n (Nat.lt_succ_self n)]
theorem stp_9 {o : Int} : stp o (-9) = -9 := by unfold stp; rfl
theorem tyf_9 {o : Nat → Int} {n m : Nat} (h : n ≤ m) (hm : tyf o m ≠ -9) : tyf o n ≠ -9 := by
  induction h with
  | refl => exact hm
  | step h ih =>
    apply ih
    intro e
    apply hm
    show stp _ _ = _
    rw [e]
    exact stp_9
/-- the type behind a sum -/
def exo (t : Int) : Int := if t < 0 then -1 else t
theorem exo_x {t : Int} : exo (exo t) = exo t := by unfold exo; grind
theorem exo_p {t : Int} (h : 0 ≤ t) : exo t = t := by unfold exo; grind
theorem exo_2 {t : Int} (h : -2 ≤ t) : -2 ≤ exo t := by unfold exo; grind
theorem stp_op {o t : Int} (h0 : 5 ≤ o) (h1 : o ≤ 12) (ht : -2 ≤ t) : stp o t = t := by unfold stp; grind
theorem stp_st {o t : Int} (h0 : 1 ≤ o) (h1 : o ≤ 4) (ht : -2 ≤ t) : stp o t = exo t := by unfold stp exo; grind
def AR (lo hi : Int) (f : Nat → Int) : Prop := ∀ i, lo ≤ f i ∧ f i ≤ hi
theorem AR_u {lo hi v : Int} {f f1 : Nat → Int} {k : Nat} (h : AR lo hi f) (hv : lo ≤ v ∧ v ≤ hi) (e : ∀ i, f1 i = if i = k then v else f i) : AR lo hi f1 := fun i => by
  rw [e i]
  split
  · exact hv
  · exact h i
/-- what is known of the children: their acts -/
def CHI (V : PV) : Prop := ∀ i : Nat, (i : Int) < V.1 11 → 0 ≤ V.2 17 i ∧ V.2 17 i < V.1 17 ∧ V.2 28 (V.2 17 i).toNat = 30
/-- the tokens and where the parser stands -/
def jRA (V : PV) : Prop := 0 ≤ V.1 6 ∧ V.1 6 ≤ 4001 ∧ 1 ≤ V.1 40 ∧ V.1 40 ≤ 4001 ∧ V.2 64 4001 = 4 ∧ (V.1 7 ≠ 0 → V.1 6 = 4001) ∧ (V.1 7 = 0 → V.1 6 < V.1 40) ∧ V.2 64 (V.1 40 - 1).toNat = 0 ∧ AR 0 4000 (V.2 65) ∧ (V.1 7 = 0 → CHI V)
/-- the counts and ranges of what it writes -/
def jRB (V : PV) : Prop := (0 ≤ V.1 17 ∧ V.1 17 ≤ 8064) ∧ (0 ≤ V.1 18 ∧ V.1 18 ≤ 12) ∧ (0 ≤ V.1 24 ∧ V.1 24 ≤ 460) ∧ (0 ≤ V.1 25 ∧ V.1 25 ≤ 460) ∧ (0 ≤ V.1 11 ∧ V.1 11 ≤ 460) ∧ (-1 ≤ V.1 8 ∧ V.1 8 < 3 * V.1 24) ∧ (-1 ≤ V.1 9 ∧ V.1 9 < V.1 25) ∧ AR 0 12 (V.2 35) ∧ AR 0 16 (V.2 36) ∧ AR (-1) 1379 (V.2 43) ∧ AR (-1) 1379 (V.2 30) ∧ AR 0 9 (V.2 44) ∧ AR (-1) 459 (V.2 45) ∧ AR 0 8063 (V.2 37) ∧ AR 0 8063 (V.2 17)
def RG (V : PV) : Prop := jRA V ∧ jRB V
/-- scope b lies about scope a, or is it -/
def ONC (nt : Int) (o : Nat → Int) : Nat → Int → Int → Prop
  | 0, a, b => a = b
  | n + 1, a, b => a = b ∨ (0 ≤ a ∧ a / 3 < nt ∧ ONC nt o n (o (a / 3).toNat) b)
def onc (nt : Int) (o : Nat → Int) (a b : Int) : Prop := ∃ n, ONC nt o n a b
theorem onc_r {nt : Int} {o : Nat → Int} {a : Int} : onc nt o a a := ⟨0, rfl⟩
theorem onc_s {nt : Int} {o : Nat → Int} {a b : Int} (h0 : 0 ≤ a) (h1 : a / 3 < nt) (h : onc nt o (o (a / 3).toNat) b) : onc nt o a b := by
  obtain ⟨n, h⟩ := h
  exact ⟨n + 1, Or.inr ⟨h0, h1, h⟩⟩
theorem onc_t {nt : Int} {o : Nat → Int} {a b c : Int} (h : onc nt o a b) (h1 : onc nt o b c) : onc nt o a c := by
  obtain ⟨n, h⟩ := h
  induction n generalizing a with
  | zero => have e : a = b := h; rw [e]; exact h1
  | succ n ih =>
    rcases h with e | ⟨h2, h3, h4⟩
    · rw [e]; exact h1
    · exact onc_s h2 h3 (ih h4)
theorem onc_k {nt nt1 : Int} {o o1 : Nat → Int} {a b : Int} (hn : nt ≤ nt1) (ho : ∀ k : Nat, (k : Int) < nt → o1 k = o k) (h : onc nt o a b) : onc nt1 o1 a b := by
  obtain ⟨n, h⟩ := h
  induction n generalizing a with
  | zero => have e : a = b := h; rw [e]; exact onc_r
  | succ n ih =>
    rcases h with e | ⟨h2, h3, h4⟩
    · rw [e]; exact onc_r
    · refine onc_s h2 (by omega) ?_
      rw [ho _ (by omega)]
      exact ih h4
/-- an act of scope a may come next where scope s was left -/
def CP (V : PV) (a s : Int) : Prop := a = s ∨ (0 ≤ a ∧ a % 3 = 0 ∧ a / 3 < V.1 24 ∧ V.2 43 (a / 3).toNat = s)
/-- q is a place to go to for scope s -/
def jTG (V : PV) (q s : Int) : Prop := 0 ≤ q ∧ q ≤ V.1 17 ∧ tyf (V.2 28) q.toNat = -2 ∧ (q < V.1 17 → CP V (V.2 30 q.toNat) s) ∧ (q = V.1 17 → s = V.1 8)
def ACT (V : PV) (i : Nat) : Prop := ((V.2 28 i = 15 ∨ V.2 28 i = 16) → jTG V (V.2 29 i) (V.2 30 i)) ∧ ((V.2 28 i = 17 ∨ V.2 28 i = 18) → 0 ≤ V.2 29 i ∧ V.2 29 i < V.1 25 ∧ onc (V.1 24) (V.2 43) (V.2 30 i) (V.2 50 (V.2 29 i).toNat)) ∧ (V.2 28 i = 21 → 0 ≤ V.2 29 i ∧ V.2 29 i < V.1 24 ∧ (V.2 30 i = 3 * V.2 29 i ∨ V.2 30 i = 3 * V.2 29 i + 1)) ∧ (V.2 28 i = 23 → 0 ≤ V.2 29 i ∧ V.2 29 i < V.1 24 ∧ V.2 30 i = 3 * V.2 29 i + 2) ∧ (V.2 28 i = 27 → 0 ≤ V.2 29 i ∧ V.2 29 i < 8) ∧ (V.2 28 i = 30 → 0 ≤ V.2 29 i ∧ V.2 29 i < 1)
def LPO (V : PV) (l : Nat) : Prop := jTG V (V.2 51 l) (V.2 50 l) ∧ jTG V (V.2 52 l) (V.2 50 l)
def TRO (V : PV) (k : Nat) : Prop := (V.2 149 k % 2 = 1 → jTG V (V.2 46 k) (3 * (k : Int) + 1)) ∧ (2 ≤ V.2 149 k → jTG V (V.2 47 k) (3 * (k : Int) + 2)) ∧ jTG V (V.2 48 k) (V.2 43 k)
def FLS (o : Int) : Prop := o ≠ 16 ∧ o ≠ 17 ∧ o ≠ 18 ∧ o ≠ 19 ∧ o ≠ 20 ∧ o ≠ 21 ∧ o ≠ 23 ∧ o ≠ 24
/-- what stood stands -/
def jKP (V V1 : PV) : Prop := V.1 17 ≤ V1.1 17 ∧ V.1 24 ≤ V1.1 24 ∧ V.1 25 ≤ V1.1 25 ∧ (∀ i : Nat, (i : Int) < V.1 17 → V1.2 28 i = V.2 28 i ∧ V1.2 29 i = V.2 29 i ∧ V1.2 30 i = V.2 30 i) ∧ (∀ k : Nat, (k : Int) < V.1 24 → V1.2 43 k = V.2 43 k ∧ V1.2 44 k = V.2 44 k ∧ V1.2 46 k = V.2 46 k ∧ V1.2 47 k = V.2 47 k ∧ V1.2 48 k = V.2 48 k ∧ V1.2 149 k = V.2 149 k) ∧ (∀ l : Nat, (l : Int) < V.1 25 → V1.2 50 l = V.2 50 l ∧ V1.2 51 l = V.2 51 l ∧ V1.2 52 l = V.2 52 l)
theorem KP_rf {V : PV} : jKP V V := ⟨by omega, by omega, by omega, fun _ _ => ⟨rfl, rfl, rfl⟩, fun _ _ => ⟨rfl, rfl, rfl, rfl, rfl, rfl⟩, fun _ _ => ⟨rfl, rfl, rfl⟩⟩
theorem KP_tr {V V1 V2 : PV} (h : jKP V V1) (h1 : jKP V1 V2) : jKP V V2 := by
  obtain ⟨a1, a2, a3, a4, a5, a6⟩ := h
  obtain ⟨b1, b2, b3, b4, b5, b6⟩ := h1
  refine ⟨by omega, by omega, by omega, fun i hi => ?_, fun k hk => ?_, fun l hl => ?_⟩
  · have p := a4 i hi
    have q := b4 i (by omega)
    exact ⟨q.1.trans p.1, q.2.1.trans p.2.1, q.2.2.trans p.2.2⟩
  · have p := a5 k hk
    have q := b5 k (by omega)
    exact ⟨q.1.trans p.1, q.2.1.trans p.2.1, q.2.2.1.trans p.2.2.1, q.2.2.2.1.trans p.2.2.2.1, q.2.2.2.2.1.trans p.2.2.2.2.1, q.2.2.2.2.2.trans p.2.2.2.2.2⟩
  · have p := a6 l hl
    have q := b6 l (by omega)
    exact ⟨q.1.trans p.1, q.2.1.trans p.2.1, q.2.2.trans p.2.2⟩
theorem CP_st {V V1 : PV} {a s : Int} (hk : jKP V V1) (h : CP V a s) : CP V1 a s := by
  rcases h with e | ⟨h0, h1, h2, h3⟩
  · exact Or.inl e
  · refine Or.inr ⟨h0, h1, by have := hk.2.1; omega, ?_⟩
    rw [(hk.2.2.2.2.1 _ (by omega)).1]
    exact h3
theorem tyf_st {V V1 : PV} {q : Int} (hk : jKP V V1) (h : q ≤ V.1 17) : tyf (V1.2 28) q.toNat = tyf (V.2 28) q.toNat := tyf_c (fun i hi => (hk.2.2.2.1 i (by omega)).1)
/-- what comes first behind V -/
def N1 (V V1 : PV) : Prop := (V.1 17 < V1.1 17 → CP V1 (V1.2 30 (V.1 17).toNat) (V.1 8)) ∧ (V1.1 17 = V.1 17 → V1.1 8 = V.1 8)
theorem TG_st {V V1 : PV} {q s : Int} (hk : jKP V V1) (h1 : N1 V V1) (h : jTG V q s) : jTG V1 q s := by
  obtain ⟨a0, a1, a2, a3, a4⟩ := h
  have k1 := hk.1
  refine ⟨a0, by omega, (tyf_st hk a1).trans a2, fun hq => ?_, fun hq => ?_⟩
  · rcases Int.lt_or_le q (V.1 17) with h | h
    · rw [(hk.2.2.2.1 q.toNat (by omega)).2.2]
      exact CP_st hk (a3 h)
    · have e : q = V.1 17 := by omega
      rw [a4 e, e]
      exact h1.1 (by omega)
  · have e : q = V.1 17 := by omega
    rw [a4 e]
    exact (h1.2 (by omega)).symm
theorem ACT_st {V V1 : PV} {i : Nat} (hk : jKP V V1) (h1 : N1 V V1) (hi : (i : Int) < V.1 17) (h : ACT V i) : ACT V1 i := by
  obtain ⟨e1, e2, e3⟩ := hk.2.2.2.1 i hi
  obtain ⟨a1, a2, a3, a4, a5, a6⟩ := h
  have k2 := hk.2.1
  have k3 := hk.2.2.1
  unfold ACT
  rw [e1, e2, e3]
  refine ⟨fun h => TG_st hk h1 (a1 h), fun h => ?_, fun h => ?_, fun h => ?_, a5, a6⟩
  · obtain ⟨b1, b2, b3⟩ := a2 h
    refine ⟨b1, by omega, ?_⟩
    rw [(hk.2.2.2.2.2 _ (by omega)).1]
    exact onc_k k2 (fun k hk9 => (hk.2.2.2.2.1 k hk9).1) b3
  · obtain ⟨b1, b2, b3⟩ := a3 h
    exact ⟨b1, by omega, b3⟩
  · obtain ⟨b1, b2, b3⟩ := a4 h
    exact ⟨b1, by omega, b3⟩
theorem LPO_st {V V1 : PV} {l : Nat} (hk : jKP V V1) (h1 : N1 V V1) (hl : (l : Int) < V.1 25) (h : LPO V l) : LPO V1 l := by
  obtain ⟨e1, e2, e3⟩ := hk.2.2.2.2.2 l hl
  unfold LPO
  rw [e1, e2, e3]
  exact ⟨TG_st hk h1 h.1, TG_st hk h1 h.2⟩
theorem TRO_st {V V1 : PV} {k : Nat} (hk : jKP V V1) (h1 : N1 V V1) (hl : (k : Int) < V.1 24) (h : TRO V k) : TRO V1 k := by
  obtain ⟨e1, e2, e3, e4, e5, e6⟩ := hk.2.2.2.2.1 k hl
  unfold TRO
  rw [e1, e3, e4, e5, e6]
  exact ⟨fun q => TG_st hk h1 (h.1 q), fun q => TG_st hk h1 (h.2.1 q), TG_st hk h1 h.2.2⟩
