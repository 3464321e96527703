
abbrev T6 : Type := Int × Int × Int × Int × Int × Int32
def ST (tr : Int32) : T6 := (0, 0, 0, 0, 0, tr)
def DD : T6 := (-1, 0, 0, 0, 0, 0)
/-- w asks no more than v -/
def WK (v w : T6) : Prop := 0 ≤ w.1 ∧ w.1 = v.1 ∧ w.2.1 ≤ v.2.1 ∧ w.2.2.1 = v.2.2.1 ∧ w.2.2.2.1 ≤ v.2.2.2.1 ∧ w.2.2.2.2.1 = v.2.2.2.2.1 ∧ w.2.2.2.2.2 = v.2.2.2.2.2
theorem WK_i {h ec iw cr oc : Int} {tr : Int32} {h1 ec1 iw1 cr1 oc1 : Int} {tr1 : Int32} (h0 : 0 ≤ h1) (a : h1 = h) (b : ec1 ≤ ec) (c : iw1 = iw) (d : cr1 ≤ cr) (e : oc1 = oc) (f : tr1 = tr) : WK (h, ec, iw, cr, oc, tr) (h1, ec1, iw1, cr1, oc1, tr1) := ⟨h0, a, b, c, d, e, f⟩
def chn (tt : Nat → Int32) : Nat → Int32 → Int32
  | 0, t => t
  | n + 1, t => if t.toInt < 0 then t else chn tt n (tt (ix t))
def dpt (tt : Nat → Int32) : Nat → Int32 → Prop
  | 0, t => t.toInt < 0
  | n + 1, t => 0 ≤ t.toInt ∧ dpt tt n (tt (ix t))
/-- q lies on the way out of t -/
def an (tt : Nat → Int32) (q t : Int32) : Prop := ∃ j, chn tt j t = q
def TG (nx : Nat) (cd : Int) (ty : Nat → T6) (a tr : Int32) : Prop := 12000 * nx ≤ a.toInt ∧ a.toInt ≤ cd ∧ ty (ix a) = ST tr
def okJ (TP CP BP YP LP EP : Prop) (c a b : Int32) (u v : T6) : Prop := 0 ≤ c.toInt ∧ c.toInt ≤ 31 ∧ (c.toInt = 0 → u.2.2.1 = 0) ∧ (c.toInt = 1 → WK (u.1, 1, u.2.2.1, u.2.2.2.1 + 1, u.2.2.2.2.1, u.2.2.2.2.2) v) ∧ ((2 ≤ c.toInt ∧ c.toInt ≤ 4) → 1 ≤ u.2.1 ∧ WK (u.1 + 1, 0, u.2.2.1, u.2.2.2.1, u.2.2.2.2.1, u.2.2.2.2.2) v ∧ (c.toInt = 3 → 0 ≤ a.toInt ∧ a.toInt < 12)) ∧ (c.toInt = 5 → 1 ≤ u.1 ∧ WK (u.1, 0, u.2.2.1, u.2.2.2.1, u.2.2.2.2.1, u.2.2.2.2.2) v) ∧ ((6 ≤ c.toInt ∧ c.toInt ≤ 12) → 2 ≤ u.1 ∧ WK (u.1 - 1, 0, u.2.2.1, u.2.2.2.1, u.2.2.2.2.1, u.2.2.2.2.2) v) ∧ ((13 ≤ c.toInt ∧ c.toInt ≤ 14) → 1 ≤ u.1 ∧ u.2.2.1 = 0 ∧ WK (u.1 - 1, 0, u.2.2.1, u.2.2.2.1, u.2.2.2.2.1, u.2.2.2.2.2) v ∧ (c.toInt = 13 → 0 ≤ a.toInt ∧ a.toInt < 12)) ∧ (c.toInt = 15 → u.2.2.1 = 0 ∧ u.1 = 1 ∧ v = ST u.2.2.2.2.2 ∧ TP) ∧ (c.toInt = 16 → u.2.2.1 = 0 ∧ TP) ∧ (c.toInt = 17 → u.2.2.1 = 0) ∧ (c.toInt = 18 → u.2.2.1 = 0 ∧ 1 ≤ u.1) ∧ ((19 ≤ c.toInt ∧ c.toInt ≤ 20) → u.2.2.1 = 0 ∧ 1 ≤ u.2.1 ∧ BP) ∧ (c.toInt = 21 → u.2.2.1 = 0 ∧ 1 ≤ u.2.1 ∧ v = ST a ∧ YP) ∧ (c.toInt = 22 → u.2.2.1 = 0 ∧ u.2.2.2.2.2 = a ∧ EP) ∧ (c.toInt = 23 → u.2.2.1 = 0 ∧ u.2.2.2.2.2 = a ∧ LP) ∧ (c.toInt = 24 → u.2.2.1 = 1 ∧ 1 ≤ u.2.2.2.1 ∧ 0 ≤ a.toInt ∧ a.toInt < 8 ∧ WK (u.1, 0, u.2.2.1, u.2.2.2.1 - 1, u.2.2.2.2.1, u.2.2.2.2.2) v) ∧ (c.toInt = 25 → u.2.2.1 = 1 ∧ 1 ≤ u.2.2.2.1 ∧ 1 ≤ u.1 ∧ WK (u.1 - 1, 0, u.2.2.1, u.2.2.2.1 - 1, u.2.2.2.2.1, u.2.2.2.2.2) v) ∧ (c.toInt = 26 → u.2.2.1 = 1 ∧ 1 ≤ u.2.2.2.1 ∧ WK (u.1, 0, u.2.2.1, u.2.2.2.1 - 1, u.2.2.2.2.1, u.2.2.2.2.2) v) ∧ (c.toInt = 27 → u.2.2.1 = 1 ∧ 1 ≤ u.2.2.2.1 ∧ 0 ≤ b.toInt ∧ b.toInt ≤ u.1 ∧ WK (u.1 - b.toInt, 0, u.2.2.1, u.2.2.2.1 - 1, u.2.2.2.2.1, u.2.2.2.2.2) v ∧ CP) ∧ (c.toInt = 28 → u.2.2.1 = 1 ∧ 0 ≤ a.toInt ∧ a.toInt ≤ 2 ∧ u.2.2.2.2.1 ≤ 10 ∧ (a.toInt = 2 → 1 ≤ u.1 ∧ 2 ≤ u.2.2.2.1 ∧ WK (u.1 - 1, 0, u.2.2.1, u.2.2.2.1 - 2, u.2.2.2.2.1 + 1, u.2.2.2.2.2) v) ∧ (¬ a.toInt = 2 → 1 ≤ u.2.2.2.1 ∧ WK (u.1, 0, u.2.2.1, u.2.2.2.1 - 1, u.2.2.2.2.1 + 1, u.2.2.2.2.2) v)) ∧ (c.toInt = 29 → u.2.2.1 = 1 ∧ 1 ≤ u.2.2.2.2.1 ∧ WK (u.1, 0, u.2.2.1, u.2.2.2.1, u.2.2.2.2.1 - 1, u.2.2.2.2.2) v) ∧ (c.toInt = 30 → u.2.2.1 = 1 ∧ -1 ≤ a.toInt ∧ a.toInt < 12 ∧ v = ST u.2.2.2.2.2) ∧ (c.toInt = 31 → u.2.2.1 = 0 ∧ WK (0, 0, 1, 0, 0, u.2.2.2.2.2) v ∧ TP)
theorem okJ_d {TP CP BP YP LP EP : Prop} {c a b : Int32} {u v : T6} (h : okJ TP CP BP YP LP EP c a b u DD) : okJ TP CP BP YP LP EP c a b u v := by
  have nw_ : ∀ {v : T6}, ¬ WK v DD := fun h => absurd h.1 (by decide)
  have ns_ : ∀ tr : Int32, ¬ DD = ST tr := fun tr h => by
    have q : (-1 : Int) = 0 := congrArg Prod.fst h
    exact absurd q (by decide)
  exact ⟨h.1, h.2.1, h.2.2.1, fun g => absurd (h.2.2.2.1 g) nw_, fun g => absurd (h.2.2.2.2.1 g).2.1 nw_, fun g => absurd (h.2.2.2.2.2.1 g).2 nw_, fun g => absurd (h.2.2.2.2.2.2.1 g).2 nw_, fun g => absurd (h.2.2.2.2.2.2.2.1 g).2.2.1 nw_, fun g => absurd (h.2.2.2.2.2.2.2.2.1 g).2.2.1 (ns_ _), h.2.2.2.2.2.2.2.2.2.1, h.2.2.2.2.2.2.2.2.2.2.1, h.2.2.2.2.2.2.2.2.2.2.2.1, h.2.2.2.2.2.2.2.2.2.2.2.2.1, fun g => absurd (h.2.2.2.2.2.2.2.2.2.2.2.2.2.1 g).2.2.1 (ns_ _), h.2.2.2.2.2.2.2.2.2.2.2.2.2.2.1, h.2.2.2.2.2.2.2.2.2.2.2.2.2.2.2.1, fun g => absurd (h.2.2.2.2.2.2.2.2.2.2.2.2.2.2.2.2.1 g).2.2.2.2 nw_, fun g => absurd (h.2.2.2.2.2.2.2.2.2.2.2.2.2.2.2.2.2.1 g).2.2.2 nw_, fun g => absurd (h.2.2.2.2.2.2.2.2.2.2.2.2.2.2.2.2.2.2.1 g).2.2 nw_, fun g => absurd (h.2.2.2.2.2.2.2.2.2.2.2.2.2.2.2.2.2.2.2.1 g).2.2.2.2.1 nw_, fun g => (Decidable.em (a.toInt = 2)).elim (fun e => absurd ((h.2.2.2.2.2.2.2.2.2.2.2.2.2.2.2.2.2.2.2.2.1 g).2.2.2.2.1 e).2.2 nw_) (fun e => absurd ((h.2.2.2.2.2.2.2.2.2.2.2.2.2.2.2.2.2.2.2.2.1 g).2.2.2.2.2 e).2 nw_), fun g => absurd (h.2.2.2.2.2.2.2.2.2.2.2.2.2.2.2.2.2.2.2.2.2.1 g).2.2 nw_, fun g => absurd (h.2.2.2.2.2.2.2.2.2.2.2.2.2.2.2.2.2.2.2.2.2.2.1 g).2.2.2 (ns_ _), fun g => absurd (h.2.2.2.2.2.2.2.2.2.2.2.2.2.2.2.2.2.2.2.2.2.2.2 g).2.1 nw_⟩
theorem okJ_m {TP CP BP YP LP EP TP' CP' BP' YP' LP' EP' : Prop} {c a b : Int32} {u v : T6} (h : okJ TP CP BP YP LP EP c a b u v) (hTP : TP → TP') (hCP : CP → CP') (hBP : BP → BP') (hYP : YP → YP') (hLP : LP → LP') (hEP : EP → EP') : okJ TP' CP' BP' YP' LP' EP' c a b u v := ⟨h.1, h.2.1, h.2.2.1, h.2.2.2.1, h.2.2.2.2.1, h.2.2.2.2.2.1, h.2.2.2.2.2.2.1, h.2.2.2.2.2.2.2.1, fun g => ⟨(h.2.2.2.2.2.2.2.2.1 g).1, (h.2.2.2.2.2.2.2.2.1 g).2.1, (h.2.2.2.2.2.2.2.2.1 g).2.2.1, hTP (h.2.2.2.2.2.2.2.2.1 g).2.2.2⟩, fun g => ⟨(h.2.2.2.2.2.2.2.2.2.1 g).1, hTP (h.2.2.2.2.2.2.2.2.2.1 g).2⟩, h.2.2.2.2.2.2.2.2.2.2.1, h.2.2.2.2.2.2.2.2.2.2.2.1, fun g => ⟨(h.2.2.2.2.2.2.2.2.2.2.2.2.1 g).1, (h.2.2.2.2.2.2.2.2.2.2.2.2.1 g).2.1, hBP (h.2.2.2.2.2.2.2.2.2.2.2.2.1 g).2.2⟩, fun g => ⟨(h.2.2.2.2.2.2.2.2.2.2.2.2.2.1 g).1, (h.2.2.2.2.2.2.2.2.2.2.2.2.2.1 g).2.1, (h.2.2.2.2.2.2.2.2.2.2.2.2.2.1 g).2.2.1, hYP (h.2.2.2.2.2.2.2.2.2.2.2.2.2.1 g).2.2.2⟩, fun g => ⟨(h.2.2.2.2.2.2.2.2.2.2.2.2.2.2.1 g).1, (h.2.2.2.2.2.2.2.2.2.2.2.2.2.2.1 g).2.1, hEP (h.2.2.2.2.2.2.2.2.2.2.2.2.2.2.1 g).2.2⟩, fun g => ⟨(h.2.2.2.2.2.2.2.2.2.2.2.2.2.2.2.1 g).1, (h.2.2.2.2.2.2.2.2.2.2.2.2.2.2.2.1 g).2.1, hLP (h.2.2.2.2.2.2.2.2.2.2.2.2.2.2.2.1 g).2.2⟩, h.2.2.2.2.2.2.2.2.2.2.2.2.2.2.2.2.1, h.2.2.2.2.2.2.2.2.2.2.2.2.2.2.2.2.2.1, h.2.2.2.2.2.2.2.2.2.2.2.2.2.2.2.2.2.2.1, fun g => ⟨(h.2.2.2.2.2.2.2.2.2.2.2.2.2.2.2.2.2.2.2.1 g).1, (h.2.2.2.2.2.2.2.2.2.2.2.2.2.2.2.2.2.2.2.1 g).2.1, (h.2.2.2.2.2.2.2.2.2.2.2.2.2.2.2.2.2.2.2.1 g).2.2.1, (h.2.2.2.2.2.2.2.2.2.2.2.2.2.2.2.2.2.2.2.1 g).2.2.2.1, (h.2.2.2.2.2.2.2.2.2.2.2.2.2.2.2.2.2.2.2.1 g).2.2.2.2.1, hCP (h.2.2.2.2.2.2.2.2.2.2.2.2.2.2.2.2.2.2.2.1 g).2.2.2.2.2⟩, h.2.2.2.2.2.2.2.2.2.2.2.2.2.2.2.2.2.2.2.2.1, h.2.2.2.2.2.2.2.2.2.2.2.2.2.2.2.2.2.2.2.2.2.1, h.2.2.2.2.2.2.2.2.2.2.2.2.2.2.2.2.2.2.2.2.2.2.1, fun g => ⟨(h.2.2.2.2.2.2.2.2.2.2.2.2.2.2.2.2.2.2.2.2.2.2.2 g).1, (h.2.2.2.2.2.2.2.2.2.2.2.2.2.2.2.2.2.2.2.2.2.2.2 g).2.1, hTP (h.2.2.2.2.2.2.2.2.2.2.2.2.2.2.2.2.2.2.2.2.2.2.2 g).2.2⟩⟩
abbrev LT3 : Type := List (Nat × Nat × Int32)
/-- a jump goes on, or to a step -/
def ST1 (cd : Int) (O : Nat → Int32) (a : Int32) : Prop := a.toInt < cd ∧ O (ix a) = 1
def GO (cd : Int) (O : Nat → Int32) (q : Nat) (a : Int32) : Prop := (q : Int) < a.toInt ∨ ST1 cd O a
theorem ST1_m {cd cd1 : Int} {O : Nat → Int32} {a : Int32} (hc : cd ≤ cd1) (h : ST1 cd O a) : ST1 cd1 O a := ⟨by have := h.1; omega, h.2⟩
theorem GO_m {cd cd1 : Int} {O : Nat → Int32} {q : Nat} {a : Int32} (hc : cd ≤ cd1) (h : GO cd O q a) : GO cd1 O q a := h.imp id (ST1_m hc)
theorem ST1_o {cd : Int} {O O1 : Nat → Int32} {a : Int32} (he : ∀ x : Nat, (x : Int) < cd → O1 x = O x) (ha : 0 ≤ a.toInt) (h : ST1 cd O a) : ST1 cd O1 a := ⟨h.1, by rw [he _ (by have := h.1; unfold ix; omega)]; exact h.2⟩
theorem GO_o {cd : Int} {O O1 : Nat → Int32} {q : Nat} {a : Int32} (he : ∀ x : Nat, (x : Int) < cd → O1 x = O x) (ha : 0 ≤ a.toInt) (h : GO cd O q a) : GO cd O1 q a := h.imp id (ST1_o he ha)
def oTP (nx : Nat) (L : LT3) (cd : Int) (ty : Nat → T6) (O : Nat → Int32) (q : Nat) (a : Int32) (u : T6) : Prop := (q, 0, u.2.2.2.2.2) ∈ L ∨ (TG nx cd ty a u.2.2.2.2.2 ∧ GO cd O q a)
def oEP (nx : Nat) (L : LT3) (nt : Int) (hf fc : Nat → Int32) (q : Nat) (a : Int32) : Prop := 500 * nx ≤ a.toInt ∧ a.toInt < nt ∧ ((ix a, 2, (0 : Int32)) ∈ L ∨ hf (ix a) = 0 ∨ (q : Int) < (fc (ix a)).toInt)
def oCP (L : LT3) (lt : Int) (lm lc : Nat → Int32) (q : Nat) (b : Int32) : Prop := (q, 5, (0 : Int32)) ∈ L ∨ ∃ k : Nat, (k : Int) < lt ∧ (lc k).toInt = q ∧ lm k = b
def rg (nx : Nat) (nt : Int) (t : Int32) : Prop := t.toInt < 0 ∨ (500 * nx ≤ t.toInt ∧ t.toInt < nt)
def oBP (nx : Nat) (nt nw : Int) (tt wt : Nat → Int32) (a : Int32) (u : T6) : Prop := 500 * nx ≤ a.toInt ∧ a.toInt < nw ∧ an tt (wt (ix a)) u.2.2.2.2.2 ∧ rg nx nt u.2.2.2.2.2
theorem rg_m {nx : Nat} {a b : Int} {t : Int32} (h : a ≤ b) (q : rg nx a t) : rg nx b t := q.elim Or.inl (fun r => Or.inr ⟨r.1, by have := r.2; omega⟩)
def oYP (nx : Nat) (nt : Int) (tt : Nat → Int32) (a : Int32) (u : T6) : Prop := 500 * nx ≤ a.toInt ∧ a.toInt < nt ∧ tt (ix a) = u.2.2.2.2.2 ∧ ∃ n, n ≤ 10 ∧ dpt tt n u.2.2.2.2.2
def oLP (nx : Nat) (nt : Int) (a : Int32) : Prop := 500 * nx ≤ a.toInt ∧ a.toInt < nt
def okI (nx : Nat) (L : LT3) (cd nt nw lt : Int) (S : mS) (O : Nat → Int32) (ty : Nat → T6) (q : Nat) (c a b : Int32) (u v : T6) : Prop := okJ (oTP nx L cd ty O q a u) (oCP L lt ((S.2.1 47)) ((S.2.1 48)) q b) (oBP nx nt nw ((S.2.1 25)) ((S.2.1 40)) a u) (oYP nx nt ((S.2.1 25)) a u) (oLP nx nt a) (oEP nx L nt ((S.2.1 29)) ((S.2.1 32)) q a) c a b u v
def oTr (nx : Nat) (L : LT3) (cd : Int) (S : mS) (ty : Nat → T6) (t : Int32) : Prop := ((ix t, 1, (0 : Int32)) ∈ L ∨ (S.2.1 28) (ix t) = 0 ∨ (TG nx cd ty ((S.2.1 30) (ix t)) t ∧ 0 ≤ ((S.2.1 31) (ix t)).toInt ∧ ((S.2.1 31) (ix t)).toInt < 12)) ∧ ((ix t, 2, (0 : Int32)) ∈ L ∨ (S.2.1 29) (ix t) = 0 ∨ TG nx cd ty ((S.2.1 32) (ix t)) t) ∧ ((ix t, 3, (0 : Int32)) ∈ L ∨ TG nx cd ty ((S.2.1 33) (ix t)) ((S.2.1 25) (ix t)))
def oWh (nx : Nat) (L : LT3) (cd nt : Int) (S : mS) (O : Nat → Int32) (ty : Nat → T6) (w : Int32) : Prop := (TG nx cd ty ((S.2.1 42) (ix w)) ((S.2.1 40) (ix w)) ∧ ST1 cd O ((S.2.1 42) (ix w))) ∧ (0 ≤ ((S.2.1 41) (ix w)).toInt ∧ dpt ((S.2.1 25)) (ix ((S.2.1 41) (ix w))) ((S.2.1 40) (ix w)) ∧ rg nx nt ((S.2.1 40) (ix w))) ∧ ((ix w, 4, (0 : Int32)) ∈ L ∨ TG nx cd ty ((S.2.1 43) (ix w)) ((S.2.1 40) (ix w)))
def oPe (nx : Nat) (cd : Int) (S : mS) (ty : Nat → T6) (x : Nat × Nat × Int32) : Prop := 12000 * nx ≤ x.1 ∧ (x.1 : Int) < cd ∧ (ty x.1).2.2.2.2.2 = x.2.2 ∧ ((S.2.1 12) x.1 = 15 ∨ (S.2.1 12) x.1 = 16 ∨ (S.2.1 12) x.1 = 31)
def oLa (nx : Nat) (cd : Int) (S : mS) (k : Nat) : Prop := 12000 * nx ≤ ((S.2.1 48) k).toInt ∧ ((S.2.1 48) k).toInt < cd ∧ (S.2.1 12) (ix ((S.2.1 48) k)) = 27 ∧ (S.2.1 14) (ix ((S.2.1 48) k)) = (S.2.1 47) k
def CWt (nx : Nat) (L : LT3) (cd nt nw lt : Int) (S : mS) (ty : Nat → T6) : Prop := (∀ q : Nat, 12000 * nx ≤ q → (q : Int) < cd → okI nx L cd nt nw lt S ((S.2.1 12)) ty q ((S.2.1 12) q) ((S.2.1 13) q) ((S.2.1 14) q) (ty q) (ty (q + 1))) ∧ (∀ t : Int32, 500 * nx ≤ t.toInt → t.toInt < nt → oTr nx L cd S ty t) ∧ (∀ w : Int32, 500 * nx ≤ w.toInt → w.toInt < nw → oWh nx L cd nt S ((S.2.1 12)) ty w) ∧ (∀ x : Nat × Nat × Int32, x ∈ L → x.2.1 = 0 → oPe nx cd S ty x) ∧ (∀ k : Nat, (k : Int) < lt → oLa nx cd S k) ∧ (∀ x : Nat × Nat × Int32, x ∈ L → x.2.1 = 6 → TG nx cd ty x.2.2 (-1))
/-- the code of half nx up to cd is typed; in front of cd it is of type u; L: what is still open -/
def CW (nx : Nat) (L : LT3) (cd nt nw lt : Int) (u : T6) (S : mS) : Prop := ∃ ty : Nat → T6, CWt nx L cd nt nw lt S ty ∧ ty cd.toNat = u
abbrev AR9 : List Nat := [12, 13, 14, 25, 28, 29, 30, 31, 32, 33, 40, 41, 42, 43, 47, 48]
def CA (S S1 : mS) : Prop := ∀ k, k ∈ AR9 → S1.2.1 k = S.2.1 k
theorem CW_ca {nx : Nat} {L : LT3} {cd nt nw lt : Int} {u : T6} {S S1 : mS} (e : CA S S1) (h : CW nx L cd nt nw lt u S) : CW nx L cd nt nw lt u S1 := by
  have e12 : S1.2.1 12 = S.2.1 12 := e 12 (by decide)
  have e13 : S1.2.1 13 = S.2.1 13 := e 13 (by decide)
  have e14 : S1.2.1 14 = S.2.1 14 := e 14 (by decide)
  have e25 : S1.2.1 25 = S.2.1 25 := e 25 (by decide)
  have e28 : S1.2.1 28 = S.2.1 28 := e 28 (by decide)
  have e29 : S1.2.1 29 = S.2.1 29 := e 29 (by decide)
  have e30 : S1.2.1 30 = S.2.1 30 := e 30 (by decide)
  have e31 : S1.2.1 31 = S.2.1 31 := e 31 (by decide)
  have e32 : S1.2.1 32 = S.2.1 32 := e 32 (by decide)
  have e33 : S1.2.1 33 = S.2.1 33 := e 33 (by decide)
  have e40 : S1.2.1 40 = S.2.1 40 := e 40 (by decide)
  have e41 : S1.2.1 41 = S.2.1 41 := e 41 (by decide)
  have e42 : S1.2.1 42 = S.2.1 42 := e 42 (by decide)
  have e43 : S1.2.1 43 = S.2.1 43 := e 43 (by decide)
  have e47 : S1.2.1 47 = S.2.1 47 := e 47 (by decide)
  have e48 : S1.2.1 48 = S.2.1 48 := e 48 (by decide)
  obtain ⟨ty, h1, h2⟩ := h
  refine ⟨ty, ?_, h2⟩
  unfold CWt okI oTr oWh oPe oLa at h1 ⊢
  rw [e12, e13, e14, e25, e28, e29, e30, e31, e32, e33, e40, e41, e42, e43, e47, e48]
  exact h1
theorem TG_m {nx : Nat} {cd cd1 : Int} {ty ty1 : Nat → T6} {a tr : Int32} (hc : cd ≤ cd1) (ht : ∀ x : Nat, (x : Int) ≤ cd → ty1 x = ty x) (h : TG nx cd ty a tr) : TG nx cd1 ty1 a tr := by
  refine ⟨h.1, by have := h.2.1; omega, ?_⟩
  rw [ht _ (by have h1 := h.1; have h2 := h.2.1; unfold ix; omega)]
  exact h.2.2
theorem oTr_m {nx : Nat} {L L1 : LT3} {cd cd1 : Int} {S : mS} {ty ty1 : Nat → T6} {t : Int32} (hc : cd ≤ cd1) (ht : ∀ x : Nat, (x : Int) ≤ cd → ty1 x = ty x) (hL : ∀ x, x ∈ L → x ∈ L1) (h : oTr nx L cd S ty t) : oTr nx L1 cd1 S ty1 t :=
  ⟨h.1.elim (fun q => Or.inl (hL _ q)) (fun q => Or.inr (q.elim Or.inl (fun r => Or.inr ⟨TG_m hc ht r.1, r.2⟩))), h.2.1.elim (fun q => Or.inl (hL _ q)) (fun q => Or.inr (q.elim Or.inl (fun r => Or.inr (TG_m hc ht r)))), h.2.2.elim (fun q => Or.inl (hL _ q)) (fun q => Or.inr (TG_m hc ht q))⟩
theorem oWh_m {nx : Nat} {L L1 : LT3} {cd cd1 nt : Int} {S : mS} {O : Nat → Int32} {ty ty1 : Nat → T6} {w : Int32} (hc : cd ≤ cd1) (ht : ∀ x : Nat, (x : Int) ≤ cd → ty1 x = ty x) (hL : ∀ x, x ∈ L → x ∈ L1) (h : oWh nx L cd nt S O ty w) : oWh nx L1 cd1 nt S O ty1 w :=
  ⟨⟨TG_m hc ht h.1.1, ST1_m hc h.1.2⟩, h.2.1, h.2.2.elim (fun q => Or.inl (hL _ q)) (fun q => Or.inr (TG_m hc ht q))⟩
theorem oWh_o {nx : Nat} {L : LT3} {cd nt : Int} {S : mS} {O O1 : Nat → Int32} {ty : Nat → T6} {w : Int32} (he : ∀ x : Nat, (x : Int) < cd → O1 x = O x) (h : oWh nx L cd nt S O ty w) : oWh nx L cd nt S O1 ty w := ⟨⟨h.1.1, ST1_o he (by have := h.1.1.1; omega) h.1.2⟩, h.2⟩
theorem okI_m {nx : Nat} {L L1 : LT3} {cd cd1 nt nw lt : Int} {S : mS} {O : Nat → Int32} {ty ty1 : Nat → T6} {q : Nat} {c a b : Int32} {u v : T6} (hc : cd ≤ cd1) (ht : ∀ x : Nat, (x : Int) ≤ cd → ty1 x = ty x) (hL : ∀ x, x ∈ L → x ∈ L1) (h : okI nx L cd nt nw lt S O ty q c a b u v) : okI nx L1 cd1 nt nw lt S O ty1 q c a b u v :=
  okJ_m h (fun q => q.elim (fun r => Or.inl (hL _ r)) (fun r => Or.inr ⟨TG_m hc ht r.1, GO_m hc r.2⟩)) (fun q => q.elim (fun r => Or.inl (hL _ r)) Or.inr) id id id (fun r => ⟨r.1, r.2.1, r.2.2.imp (hL _) id⟩)
theorem okI_o {nx : Nat} {L : LT3} {cd nt nw lt : Int} {S : mS} {O O1 : Nat → Int32} {ty : Nat → T6} {q : Nat} {c a b : Int32} {u v : T6} (he : ∀ x : Nat, (x : Int) < cd → O1 x = O x) (h : okI nx L cd nt nw lt S O ty q c a b u v) : okI nx L cd nt nw lt S O1 ty q c a b u v :=
  okJ_m h (fun q => q.imp id (fun r => ⟨r.1, GO_o he (by have := r.1.1; omega) r.2⟩)) id id id id id
theorem CWt_m {nx : Nat} {L L1 : LT3} {cd nt nw lt : Int} {S : mS} {ty : Nat → T6} (hL : ∀ x, x ∈ L → x ∈ L1) (hN : ∀ x : Nat × Nat × Int32, x ∈ L1 → x.2.1 = 0 ∨ x.2.1 = 6 → x ∈ L) (h : CWt nx L cd nt nw lt S ty) : CWt nx L1 cd nt nw lt S ty :=
  ⟨fun q h1 h2 => okI_m (Int.le_refl _) (fun _ _ => rfl) hL (h.1 q h1 h2), fun t h1 h2 => oTr_m (Int.le_refl _) (fun _ _ => rfl) hL (h.2.1 t h1 h2), fun t h1 h2 => oWh_m (Int.le_refl _) (fun _ _ => rfl) hL (h.2.2.1 t h1 h2), fun x h1 h2 => h.2.2.2.1 x (hN x h1 (Or.inl h2)) h2, h.2.2.2.2.1, fun x h1 h2 => h.2.2.2.2.2 x (hN x h1 (Or.inr h2)) h2⟩
/-- what emit does -/
def EM (c a b : Int32) (S S1 : mS) : Prop := S1 = sZ (sF (sF (sF S 12 (ix (S.1 7)) c) 13 (ix (S.1 7)) a) 14 (ix (S.1 7)) b) 7 ((S.1 7) + 1)
theorem CW_emitt {nx : Nat} {L L1 : LT3} {nt nw lt : Int} {u v : T6} {c a b : Int32} {S S1 : mS} {ty : Nat → T6} (hE : EM c a b S S1) (h0 : 12000 * nx ≤ (S.1 7).toInt) (h1 : (S1.1 7).toInt = (S.1 7).toInt + 1) (hw : CWt nx L (S.1 7).toInt nt nw lt S ty) (hu : ty (S.1 7).toInt.toNat = u) (hL : ∀ x, x ∈ L → x ∈ L1) (hN : ∀ x : Nat × Nat × Int32, x ∈ L1 → x ∈ L ∨ (x.2.1 ≠ 6 ∧ (x.2.1 = 0 → x.1 = ix (S.1 7) ∧ u.2.2.2.2.2 = x.2.2 ∧ (c = 15 ∨ c = 16 ∨ c = 31)))) (hk : ∀ ty ty1 : Nat → T6, CWt nx L (S.1 7).toInt nt nw lt S ty → (∀ x : Nat, (x : Int) ≤ (S.1 7).toInt → ty1 x = ty x) → okI nx L1 ((S.1 7).toInt + 1) nt nw lt S (upd ((S.2.1 12)) (ix (S.1 7)) c) ty1 (ix (S.1 7)) c a b u v) : ∃ ty1 : Nat → T6, CWt nx L1 (S1.1 7).toInt nt nw lt S1 ty1 ∧ ty1 (S1.1 7).toInt.toNat = v ∧ ∀ x : Nat, (x : Int) ≤ (S.1 7).toInt → ty1 x = ty x := by
  have ha : ((ix (S.1 7) : Nat) : Int) = (S.1 7).toInt := by unfold ix; omega
  have hu : ty (ix (S.1 7)) = u := hu
  have ht : ∀ x : Nat, (x : Int) ≤ (S.1 7).toInt → (fun q : Nat => if q = ix (S.1 7) + 1 then v else ty q) x = ty x := by
    intro x hx
    show (if x = ix (S.1 7) + 1 then v else ty x) = ty x
    rw [if_neg (by omega)]
  have hle : (S.1 7).toInt ≤ (S.1 7).toInt + 1 := by omega
  have ho : ∀ x : Nat, (x : Int) < (S.1 7).toInt → upd ((S.2.1 12)) (ix (S.1 7)) c x = (S.2.1 12) x := by
    intro x hx
    unfold upd
    rw [if_neg (by omega)]
  rw [h1]
  refine ⟨fun q : Nat => if q = ix (S.1 7) + 1 then v else ty q, ⟨fun q hq1 hq2 => ?_, fun t ht1 ht2 => ?_, fun w hw1 hw2 => ?_, fun x hx1 hx2 => ?_, fun k hk1 => ?_, fun x hx1 hx6 => (hN x hx1).elim (fun q => TG_m hle ht (hw.2.2.2.2.2 x q hx6)) (fun q => absurd hx6 q.1)⟩, ?_, ht⟩
  · subst hE
    show okI nx L1 ((S.1 7).toInt + 1) nt nw lt S (upd ((S.2.1 12)) (ix (S.1 7)) c) _ q (upd ((S.2.1 12)) (ix (S.1 7)) c q) (upd ((S.2.1 13)) (ix (S.1 7)) a q) (upd ((S.2.1 14)) (ix (S.1 7)) b q) (if q = ix (S.1 7) + 1 then v else ty q) (if q + 1 = ix (S.1 7) + 1 then v else ty (q + 1))
    unfold upd
    rcases Decidable.em (q = ix (S.1 7)) with e | e
    · rw [if_pos e, if_pos e, if_pos e, if_neg (by omega), if_pos (by omega), e, hu]
      exact hk ty _ hw ht
    · rw [if_neg e, if_neg e, if_neg e, if_neg (by omega), if_neg (by omega)]
      exact okI_m hle ht hL (okI_o ho (hw.1 q hq1 (by omega)))
  · subst hE
    exact oTr_m hle ht hL (hw.2.1 t ht1 ht2)
  · subst hE
    exact oWh_m hle ht hL (oWh_o ho (hw.2.2.1 w hw1 hw2))
  · subst hE
    show 12000 * nx ≤ x.1 ∧ (x.1 : Int) < (S.1 7).toInt + 1 ∧ (if x.1 = ix (S.1 7) + 1 then v else ty x.1).2.2.2.2.2 = x.2.2 ∧ (upd ((S.2.1 12)) (ix (S.1 7)) c x.1 = 15 ∨ upd ((S.2.1 12)) (ix (S.1 7)) c x.1 = 16 ∨ upd ((S.2.1 12)) (ix (S.1 7)) c x.1 = 31)
    unfold upd
    rcases hN x hx1 with q | q
    · have k := hw.2.2.2.1 x q hx2
      have k2 := k.2.1
      rw [if_neg (by omega), if_neg (by omega)]
      exact ⟨k.1, by omega, k.2.2.1, k.2.2.2⟩
    · obtain ⟨q1, q2, q3⟩ := q.2 hx2
      rw [if_neg (by omega), if_pos q1, q1, hu]
      exact ⟨by omega, by omega, q2, q3⟩
  · have k2 := hw.2.2.2.2.1 k hk1
    have k3 := k2.2.1
    have k1 := k2.1
    subst hE
    show 12000 * nx ≤ ((S.2.1 48) k).toInt ∧ ((S.2.1 48) k).toInt < (S.1 7).toInt + 1 ∧ upd ((S.2.1 12)) (ix (S.1 7)) c (ix ((S.2.1 48) k)) = 27 ∧ upd ((S.2.1 14)) (ix (S.1 7)) b (ix ((S.2.1 48) k)) = (S.2.1 47) k
    unfold upd
    rw [if_neg (by unfold ix; omega), if_neg (by unfold ix; omega)]
    exact ⟨k1, by omega, k2.2.2⟩
  · show (if ((S.1 7).toInt + 1).toNat = ix (S.1 7) + 1 then v else _) = v
    rw [if_pos (by omega)]
/-- the frontier that nothing falls into may be of any type -/
theorem CW_emit {nx : Nat} {L L1 : LT3} {nt nw lt : Int} {u v : T6} {c a b : Int32} {S S1 : mS} (hE : EM c a b S S1) (h0 : 12000 * nx ≤ (S.1 7).toInt) (h1 : (S1.1 7).toInt = (S.1 7).toInt + 1) (h : CW nx L (S.1 7).toInt nt nw lt u S) (hL : ∀ x, x ∈ L → x ∈ L1) (hN : ∀ x : Nat × Nat × Int32, x ∈ L1 → x ∈ L ∨ (x.2.1 ≠ 6 ∧ (x.2.1 = 0 → x.1 = ix (S.1 7) ∧ u.2.2.2.2.2 = x.2.2 ∧ (c = 15 ∨ c = 16 ∨ c = 31)))) (hk : ∀ ty ty1 : Nat → T6, CWt nx L (S.1 7).toInt nt nw lt S ty → (∀ x : Nat, (x : Int) ≤ (S.1 7).toInt → ty1 x = ty x) → okI nx L1 ((S.1 7).toInt + 1) nt nw lt S (upd ((S.2.1 12)) (ix (S.1 7)) c) ty1 (ix (S.1 7)) c a b u v) : CW nx L1 (S1.1 7).toInt nt nw lt v S1 := by
  obtain ⟨ty, hw, hu⟩ := h
  obtain ⟨ty1, a1, a2, _⟩ := CW_emitt hE h0 h1 hw hu hL hN hk
  exact ⟨ty1, a1, a2⟩
theorem CW_any {nx : Nat} {L : LT3} {cd nt nw lt : Int} {u : T6} {S : mS} (h0 : 0 ≤ cd) (h : CW nx L cd nt nw lt DD S) : CW nx L cd nt nw lt u S := by
  obtain ⟨ty, hw, hu⟩ := h
  have nw_ : ∀ {v : T6}, ¬ WK v DD := fun h => absurd h.1 (by decide)
  have ns_ : ∀ tr : Int32, ¬ DD = ST tr := fun tr h => by
    have q : (-1 : Int) = 0 := congrArg Prod.fst h
    exact absurd q (by decide)
  have tg : ∀ {a tr : Int32}, TG nx cd ty a tr → TG nx cd (fun q : Nat => if q = cd.toNat then u else ty q) a tr := by
    intro a tr h
    refine ⟨h.1, h.2.1, ?_⟩
    show (if ix a = cd.toNat then u else ty (ix a)) = _
    rcases Decidable.em (ix a = cd.toNat) with e | e
    · have h3 := h.2.2; rw [e, hu] at h3; exact absurd h3 (ns_ _)
    · rw [if_neg e]; exact h.2.2
  refine ⟨fun q : Nat => if q = cd.toNat then u else ty q, ⟨fun q hq1 hq2 => ?_, fun t ht1 ht2 => ?_, fun w hw1 hw2 => ?_, fun x hx1 hx2 => ?_, hw.2.2.2.2.1, fun x h1 h2 => tg (hw.2.2.2.2.2 x h1 h2)⟩, if_pos rfl⟩
  · have k := okJ_m (hw.1 q hq1 hq2) (fun r => r.elim Or.inl (fun r => Or.inr (And.intro (tg r.1) r.2))) id id id id id
    show okJ _ _ _ _ _ _ _ _ _ (if q = cd.toNat then u else ty q) (if q + 1 = cd.toNat then u else ty (q + 1))
    have e9 : (fun q : Nat => if q = cd.toNat then u else ty q) q = ty q := if_neg (by omega)
    rw [e9, if_neg (show ¬ q = cd.toNat by omega)]
    rcases Decidable.em (q + 1 = cd.toNat) with e | e
    · rw [if_pos e]
      rw [e, hu] at k
      exact okJ_d k
    · rw [if_neg e]
      exact k
  · have k := hw.2.1 t ht1 ht2
    exact ⟨k.1.elim Or.inl (fun q => Or.inr (q.elim Or.inl (fun r => Or.inr ⟨tg r.1, r.2⟩))), k.2.1.elim Or.inl (fun q => Or.inr (q.elim Or.inl (fun r => Or.inr (tg r)))), k.2.2.elim Or.inl (fun q => Or.inr (tg q))⟩
  · have k := hw.2.2.1 w hw1 hw2
    exact ⟨⟨tg k.1.1, k.1.2⟩, k.2.1, k.2.2.elim Or.inl (fun q => Or.inr (tg q))⟩
  · have k := hw.2.2.2.1 x hx1 hx2
    have k2 := k.2.1
    show _ ∧ _ ∧ (if x.1 = cd.toNat then u else ty x.1).2.2.2.2.2 = x.2.2 ∧ _
    rw [if_neg (by omega)]
    exact k
/-- within a statement: h numbers on the pile, ec a step just paid, iw in a wait, cr steps in credit, oc open, tr the innermost try -/
def CF (nx : Nat) (L : LT3) (nt nw h ec iw cr oc : Int) (tr : Int32) (S : mS) : Prop := (S.1 4) = 0 → ∃ e9 c9 : Int, ec ≤ e9 ∧ cr ≤ c9 ∧ CW nx L (S.1 7).toInt nt nw (S.1 11).toInt (h, e9, iw, c9, oc, tr) S
/-- between two statements -/
def CS (nx : Nat) (L : LT3) (nt nw : Int) (tr : Int32) (S : mS) : Prop := (S.1 4) = 0 → CW nx L (S.1 7).toInt nt nw (S.1 11).toInt (ST tr) S
/-- behind a code that does not fall through -/
def CD (nx : Nat) (L : LT3) (nt nw : Int) (S : mS) : Prop := (S.1 4) = 0 → 0 ≤ (S.1 7).toInt ∧ CW nx L (S.1 7).toInt nt nw (S.1 11).toInt DD S
theorem CS_CF {nx : Nat} {L : LT3} {nt nw : Int} {tr : Int32} {S : mS} (h : CS nx L nt nw tr S) : CF nx L nt nw 0 0 0 0 0 tr S := fun hf => ⟨0, 0, Int.le_refl _, Int.le_refl _, h hf⟩
theorem CD_CS {nx : Nat} {L : LT3} {nt nw : Int} {S : mS} (tr : Int32) (h : CD nx L nt nw S) : CS nx L nt nw tr S := fun hf => CW_any (h hf).1 (h hf).2
theorem CF_ca {nx : Nat} {L : LT3} {nt nw : Int} {S S1 : mS} (e : CA S S1) (ec : (S1.1 7) = (S.1 7)) (el : (S1.1 11) = (S.1 11)) (hf : (S1.1 4) = 0 → (S.1 4) = 0) {h c i r o : Int} {tr : Int32} (q : CF nx L nt nw h c i r o tr S) : CF nx L nt nw h c i r o tr S1 := fun h1 => by
  obtain ⟨e9, c9, a1, a2, a3⟩ := q (hf h1)
  exact ⟨e9, c9, a1, a2, by rw [ec, el]; exact CW_ca e a3⟩
theorem CS_ca {nx : Nat} {L : LT3} {nt nw : Int} {S S1 : mS} (e : CA S S1) (ec : (S1.1 7) = (S.1 7)) (el : (S1.1 11) = (S.1 11)) (hf : (S1.1 4) = 0 → (S.1 4) = 0) {tr : Int32} (q : CS nx L nt nw tr S) : CS nx L nt nw tr S1 := fun h1 => by
  rw [ec, el]; exact CW_ca e (q (hf h1))
theorem CD_ca {nx : Nat} {L : LT3} {nt nw : Int} {S S1 : mS} (e : CA S S1) (ec : (S1.1 7) = (S.1 7)) (el : (S1.1 11) = (S.1 11)) (hf : (S1.1 4) = 0 → (S.1 4) = 0) (q : CD nx L nt nw S) : CD nx L nt nw S1 := fun h1 => by
  rw [ec, el]; exact ⟨(q (hf h1)).1, CW_ca e (q (hf h1)).2⟩
theorem CF_bad {nx : Nat} {L : LT3} {nt nw h c i r o : Int} {tr : Int32} {S : mS} (hf : 0 < (S.1 4).toInt) : CF nx L nt nw h c i r o tr S := fun h1 => by rw [h1] at hf; exact absurd hf (by decide)
theorem CS_bad {nx : Nat} {L : LT3} {nt nw : Int} {tr : Int32} {S : mS} (hf : 0 < (S.1 4).toInt) : CS nx L nt nw tr S := fun h1 => by rw [h1] at hf; exact absurd hf (by decide)
theorem CD_bad {nx : Nat} {L : LT3} {nt nw : Int} {S : mS} (hf : 0 < (S.1 4).toInt) : CD nx L nt nw S := fun h1 => by rw [h1] at hf; exact absurd hf (by decide)
theorem CF_nf {nx : Nat} {L : LT3} {nt nw h c i r o : Int} {tr : Int32} {S : mS} (hf : ¬ (S.1 4) = 0) : CF nx L nt nw h c i r o tr S := fun h1 => absurd h1 hf
theorem CS_nf {nx : Nat} {L : LT3} {nt nw : Int} {tr : Int32} {S : mS} (hf : ¬ (S.1 4) = 0) : CS nx L nt nw tr S := fun h1 => absurd h1 hf
theorem CD_nf {nx : Nat} {L : LT3} {nt nw : Int} {S : mS} (hf : ¬ (S.1 4) = 0) : CD nx L nt nw S := fun h1 => absurd h1 hf
theorem CF_e0 {nx : Nat} {L : LT3} {nt nw h i r o : Int} {tr : Int32} {S : mS} (q : CF nx L nt nw h 1 i r o tr S) : CF nx L nt nw h 0 i r o tr S := fun h1 => by
  obtain ⟨e9, c9, a1, a2, a3⟩ := q h1
  exact ⟨e9, c9, by omega, a2, a3⟩
theorem CF_dec {nx : Nat} {L : LT3} {nt nw h c i r o : Int} {tr : Int32} {S : mS} (q : CF nx L nt nw h c i (r + 1) o tr S) : CF nx L nt nw h c i r o tr S := fun h1 => by
  obtain ⟨e9, c9, a1, a2, a3⟩ := q h1
  exact ⟨e9, c9, a1, by omega, a3⟩
def EN (nx : Nat) (c a b : Int32) (S S1 : mS) : Prop := 12000 * nx ≤ (S.1 7).toInt ∧ (S1.1 7).toInt = (S.1 7).toInt + 1 ∧ EM c a b S S1
theorem EM_f {c a b : Int32} {S S1 : mS} (h : EM c a b S S1) : (S1.1 4) = (S.1 4) ∧ (S1.1 11) = (S.1 11) := by subst h; exact ⟨rfl, rfl⟩
theorem CF_step {nx : Nat} {L : LT3} {nt nw : Int} {tr : Int32} {S S1 : mS} {h ec iw cr oc : Int} (hE : EN nx 1 0 0 S S1) (hq : CF nx L nt nw h ec iw cr oc tr S) (hh : 0 ≤ h) : CF nx L nt nw h 1 iw (cr + 1) oc tr S1 := fun hf => by
  obtain ⟨h0, h1, hE⟩ := hE
  have hg := EM_f hE
  rw [hg.1] at hf
  obtain ⟨e9, c9, a1, a2, a3⟩ := hq hf
  rw [hg.2]
  exact ⟨1, c9 + 1, by omega, by omega, CW_emit hE h0 h1 a3 (fun _ q => q) (fun _ q => Or.inl q) (fun ty ty1 hw ht => ⟨by decide, by decide, fun g => absurd g (by decide), fun _ => WK_i hh rfl (Int.le_refl _) rfl (Int.le_refl _) rfl rfl, fun g => absurd g (by decide), fun g => absurd g (by decide), fun g => absurd g (by decide), fun g => absurd g (by decide), fun g => absurd g (by decide), fun g => absurd g (by decide), fun g => absurd g (by decide), fun g => absurd g (by decide), fun g => absurd g (by decide), fun g => absurd g (by decide), fun g => absurd g (by decide), fun g => absurd g (by decide), fun g => absurd g (by decide), fun g => absurd g (by decide), fun g => absurd g (by decide), fun g => absurd g (by decide), fun g => absurd g (by decide), fun g => absurd g (by decide), fun g => absurd g (by decide), fun g => absurd g (by decide)⟩)⟩
theorem CS_step {nx : Nat} {L : LT3} {nt nw : Int} {tr : Int32} {S S1 : mS} (hE : EN nx 1 0 0 S S1) (hq : CS nx L nt nw tr S) : CS nx L nt nw tr S1 := fun hf => by
  obtain ⟨h0, h1, hE⟩ := hE
  have hg := EM_f hE
  rw [hg.1] at hf
  have a3 := hq hf
  rw [hg.2]
  exact CW_emit hE h0 h1 a3 (fun _ q => q) (fun _ q => Or.inl q) (fun ty ty1 hw ht => ⟨by decide, by decide, fun g => absurd g (by decide), fun _ => WK_i (Int.le_refl _) rfl (show (0 : Int) ≤ 1 by decide) rfl (show (0 : Int) ≤ 0 + 1 by decide) rfl rfl, fun g => absurd g (by decide), fun g => absurd g (by decide), fun g => absurd g (by decide), fun g => absurd g (by decide), fun g => absurd g (by decide), fun g => absurd g (by decide), fun g => absurd g (by decide), fun g => absurd g (by decide), fun g => absurd g (by decide), fun g => absurd g (by decide), fun g => absurd g (by decide), fun g => absurd g (by decide), fun g => absurd g (by decide), fun g => absurd g (by decide), fun g => absurd g (by decide), fun g => absurd g (by decide), fun g => absurd g (by decide), fun g => absurd g (by decide), fun g => absurd g (by decide), fun g => absurd g (by decide)⟩)
theorem CF_num {nx : Nat} {L : LT3} {nt nw : Int} {tr : Int32} {S S1 : mS} {h iw cr oc : Int} {a : Int32} (hE : EN nx 2 a 0 S S1) (hq : CF nx L nt nw h 1 iw cr oc tr S) (hh : 0 ≤ h) : CF nx L nt nw (h + 1) 0 iw cr oc tr S1 := fun hf => by
  obtain ⟨h0, h1, hE⟩ := hE
  have hg := EM_f hE
  rw [hg.1] at hf
  obtain ⟨e9, c9, a1, a2, a3⟩ := hq hf
  rw [hg.2]
  exact ⟨0, c9, by omega, by omega, CW_emit hE h0 h1 a3 (fun _ q => q) (fun _ q => Or.inl q) (fun ty ty1 hw ht => ⟨by decide, by decide, fun g => absurd g (by decide), fun g => absurd g (by decide), fun _ => ⟨a1, WK_i (by omega : (0 : Int) ≤ h + 1) rfl (Int.le_refl _) rfl (Int.le_refl _) rfl rfl, fun g => absurd g (by decide)⟩, fun g => absurd g (by decide), fun g => absurd g (by decide), fun g => absurd g (by decide), fun g => absurd g (by decide), fun g => absurd g (by decide), fun g => absurd g (by decide), fun g => absurd g (by decide), fun g => absurd g (by decide), fun g => absurd g (by decide), fun g => absurd g (by decide), fun g => absurd g (by decide), fun g => absurd g (by decide), fun g => absurd g (by decide), fun g => absurd g (by decide), fun g => absurd g (by decide), fun g => absurd g (by decide), fun g => absurd g (by decide), fun g => absurd g (by decide), fun g => absurd g (by decide)⟩)⟩
theorem CF_clk {nx : Nat} {L : LT3} {nt nw : Int} {tr : Int32} {S S1 : mS} {h iw cr oc : Int} (hE : EN nx 4 0 0 S S1) (hq : CF nx L nt nw h 1 iw cr oc tr S) (hh : 0 ≤ h) : CF nx L nt nw (h + 1) 0 iw cr oc tr S1 := fun hf => by
  obtain ⟨h0, h1, hE⟩ := hE
  have hg := EM_f hE
  rw [hg.1] at hf
  obtain ⟨e9, c9, a1, a2, a3⟩ := hq hf
  rw [hg.2]
  exact ⟨0, c9, by omega, by omega, CW_emit hE h0 h1 a3 (fun _ q => q) (fun _ q => Or.inl q) (fun ty ty1 hw ht => ⟨by decide, by decide, fun g => absurd g (by decide), fun g => absurd g (by decide), fun _ => ⟨a1, WK_i (by omega : (0 : Int) ≤ h + 1) rfl (Int.le_refl _) rfl (Int.le_refl _) rfl rfl, fun g => absurd g (by decide)⟩, fun g => absurd g (by decide), fun g => absurd g (by decide), fun g => absurd g (by decide), fun g => absurd g (by decide), fun g => absurd g (by decide), fun g => absurd g (by decide), fun g => absurd g (by decide), fun g => absurd g (by decide), fun g => absurd g (by decide), fun g => absurd g (by decide), fun g => absurd g (by decide), fun g => absurd g (by decide), fun g => absurd g (by decide), fun g => absurd g (by decide), fun g => absurd g (by decide), fun g => absurd g (by decide), fun g => absurd g (by decide), fun g => absurd g (by decide), fun g => absurd g (by decide)⟩)⟩
theorem CF_cell {nx : Nat} {L : LT3} {nt nw : Int} {tr : Int32} {S S1 : mS} {h iw cr oc : Int} {a : Int32} (hE : EN nx 3 a 0 S S1) (hq : CF nx L nt nw h 1 iw cr oc tr S) (hh : 0 ≤ h) (ha : (S.1 4) = 0 → 0 ≤ a.toInt ∧ a.toInt < 12) : CF nx L nt nw (h + 1) 0 iw cr oc tr S1 := fun hf => by
  obtain ⟨h0, h1, hE⟩ := hE
  have hg := EM_f hE
  rw [hg.1] at hf
  obtain ⟨e9, c9, a1, a2, a3⟩ := hq hf
  rw [hg.2]
  exact ⟨0, c9, by omega, by omega, CW_emit hE h0 h1 a3 (fun _ q => q) (fun _ q => Or.inl q) (fun ty ty1 hw ht => ⟨by decide, by decide, fun g => absurd g (by decide), fun g => absurd g (by decide), fun _ => ⟨a1, WK_i (by omega : (0 : Int) ≤ h + 1) rfl (Int.le_refl _) rfl (Int.le_refl _) rfl rfl, fun _ => ha hf⟩, fun g => absurd g (by decide), fun g => absurd g (by decide), fun g => absurd g (by decide), fun g => absurd g (by decide), fun g => absurd g (by decide), fun g => absurd g (by decide), fun g => absurd g (by decide), fun g => absurd g (by decide), fun g => absurd g (by decide), fun g => absurd g (by decide), fun g => absurd g (by decide), fun g => absurd g (by decide), fun g => absurd g (by decide), fun g => absurd g (by decide), fun g => absurd g (by decide), fun g => absurd g (by decide), fun g => absurd g (by decide), fun g => absurd g (by decide), fun g => absurd g (by decide)⟩)⟩
theorem CF_neg {nx : Nat} {L : LT3} {nt nw : Int} {tr : Int32} {S S1 : mS} {h ec iw cr oc : Int} (hE : EN nx 5 0 0 S S1) (hq : CF nx L nt nw (h + 1) ec iw cr oc tr S) (hh : 0 ≤ h) : CF nx L nt nw (h + 1) 0 iw cr oc tr S1 := fun hf => by
  obtain ⟨h0, h1, hE⟩ := hE
  have hg := EM_f hE
  rw [hg.1] at hf
  obtain ⟨e9, c9, a1, a2, a3⟩ := hq hf
  rw [hg.2]
  exact ⟨0, c9, by omega, by omega, CW_emit hE h0 h1 a3 (fun _ q => q) (fun _ q => Or.inl q) (fun ty ty1 hw ht => ⟨by decide, by decide, fun g => absurd g (by decide), fun g => absurd g (by decide), fun g => absurd g (by decide), fun _ => ⟨(by omega : (1 : Int) ≤ h + 1), WK_i (by omega : (0 : Int) ≤ h + 1) rfl (Int.le_refl _) rfl (Int.le_refl _) rfl rfl⟩, fun g => absurd g (by decide), fun g => absurd g (by decide), fun g => absurd g (by decide), fun g => absurd g (by decide), fun g => absurd g (by decide), fun g => absurd g (by decide), fun g => absurd g (by decide), fun g => absurd g (by decide), fun g => absurd g (by decide), fun g => absurd g (by decide), fun g => absurd g (by decide), fun g => absurd g (by decide), fun g => absurd g (by decide), fun g => absurd g (by decide), fun g => absurd g (by decide), fun g => absurd g (by decide), fun g => absurd g (by decide), fun g => absurd g (by decide)⟩)⟩
theorem CF_bin {nx : Nat} {L : LT3} {nt nw : Int} {tr : Int32} {S S1 : mS} {h ec iw cr oc : Int} {c : Int32} (hE : EN nx c 0 0 S S1) (hq : CF nx L nt nw (h + 1 + 1) ec iw cr oc tr S) (hh : 0 ≤ h) (hc : 6 ≤ c.toInt ∧ c.toInt ≤ 12) : CF nx L nt nw (h + 1) 0 iw cr oc tr S1 := fun hf => by
  obtain ⟨h0, h1, hE⟩ := hE
  have hg := EM_f hE
  rw [hg.1] at hf
  obtain ⟨e9, c9, a1, a2, a3⟩ := hq hf
  rw [hg.2]
  exact ⟨0, c9, by omega, by omega, CW_emit hE h0 h1 a3 (fun _ q => q) (fun _ q => Or.inl q) (fun ty ty1 hw ht => ⟨(by omega), (by omega), fun g => absurd g (by omega), fun g => absurd g (by omega), fun g => absurd g (by omega), fun g => absurd g (by omega), fun _ => ⟨(by omega : (2 : Int) ≤ h + 1 + 1), WK_i (by omega : (0 : Int) ≤ h + 1) (by omega : (h + 1 : Int) = h + 1 + 1 - 1) (Int.le_refl _) rfl (Int.le_refl _) rfl rfl⟩, fun g => absurd g (by omega), fun g => absurd g (by omega), fun g => absurd g (by omega), fun g => absurd g (by omega), fun g => absurd g (by omega), fun g => absurd g (by omega), fun g => absurd g (by omega), fun g => absurd g (by omega), fun g => absurd g (by omega), fun g => absurd g (by omega), fun g => absurd g (by omega), fun g => absurd g (by omega), fun g => absurd g (by omega), fun g => absurd g (by omega), fun g => absurd g (by omega), fun g => absurd g (by omega), fun g => absurd g (by omega)⟩)⟩
theorem CS_set {nx : Nat} {L : LT3} {nt nw : Int} {tr : Int32} {S S1 : mS} {ec cr : Int} {a : Int32} (hE : EN nx 13 a 0 S S1) (hq : CF nx L nt nw 1 ec 0 cr 0 tr S) (hc : 0 ≤ cr) (ha : (S.1 4) = 0 → 0 ≤ a.toInt ∧ a.toInt < 12) : CS nx L nt nw tr S1 := fun hf => by
  obtain ⟨h0, h1, hE⟩ := hE
  have hg := EM_f hE
  rw [hg.1] at hf
  obtain ⟨e9, c9, a1, a2, a3⟩ := hq hf
  rw [hg.2]
  exact CW_emit hE h0 h1 a3 (fun _ q => q) (fun _ q => Or.inl q) (fun ty ty1 hw ht => ⟨by decide, by decide, fun g => absurd g (by decide), fun g => absurd g (by decide), fun g => absurd g (by decide), fun g => absurd g (by decide), fun g => absurd g (by decide), fun _ => ⟨Int.le_refl _, rfl, WK_i (Int.le_refl _) rfl (Int.le_refl _) rfl (by omega : (0 : Int) ≤ c9) rfl rfl, fun _ => ha hf⟩, fun g => absurd g (by decide), fun g => absurd g (by decide), fun g => absurd g (by decide), fun g => absurd g (by decide), fun g => absurd g (by decide), fun g => absurd g (by decide), fun g => absurd g (by decide), fun g => absurd g (by decide), fun g => absurd g (by decide), fun g => absurd g (by decide), fun g => absurd g (by decide), fun g => absurd g (by decide), fun g => absurd g (by decide), fun g => absurd g (by decide), fun g => absurd g (by decide), fun g => absurd g (by decide)⟩)
theorem CS_put {nx : Nat} {L : LT3} {nt nw : Int} {tr : Int32} {S S1 : mS} {ec cr : Int} (hE : EN nx 14 0 0 S S1) (hq : CF nx L nt nw 1 ec 0 cr 0 tr S) (hc : 0 ≤ cr) : CS nx L nt nw tr S1 := fun hf => by
  obtain ⟨h0, h1, hE⟩ := hE
  have hg := EM_f hE
  rw [hg.1] at hf
  obtain ⟨e9, c9, a1, a2, a3⟩ := hq hf
  rw [hg.2]
  exact CW_emit hE h0 h1 a3 (fun _ q => q) (fun _ q => Or.inl q) (fun ty ty1 hw ht => ⟨by decide, by decide, fun g => absurd g (by decide), fun g => absurd g (by decide), fun g => absurd g (by decide), fun g => absurd g (by decide), fun g => absurd g (by decide), fun _ => ⟨Int.le_refl _, rfl, WK_i (Int.le_refl _) rfl (Int.le_refl _) rfl (by omega : (0 : Int) ≤ c9) rfl rfl, fun g => absurd g (by decide)⟩, fun g => absurd g (by decide), fun g => absurd g (by decide), fun g => absurd g (by decide), fun g => absurd g (by decide), fun g => absurd g (by decide), fun g => absurd g (by decide), fun g => absurd g (by decide), fun g => absurd g (by decide), fun g => absurd g (by decide), fun g => absurd g (by decide), fun g => absurd g (by decide), fun g => absurd g (by decide), fun g => absurd g (by decide), fun g => absurd g (by decide), fun g => absurd g (by decide), fun g => absurd g (by decide)⟩)
theorem CS_unless {nx : Nat} {L : LT3} {nt nw : Int} {tr : Int32} {S S1 : mS} {ec cr : Int} (hE : EN nx 15 0 0 S S1) (hq : CF nx L nt nw 1 ec 0 cr 0 tr S) : CS nx ((ix (S.1 7), 0, tr) :: L) nt nw tr S1 := fun hf => by
  obtain ⟨h0, h1, hE⟩ := hE
  have hg := EM_f hE
  rw [hg.1] at hf
  obtain ⟨e9, c9, a1, a2, a3⟩ := hq hf
  rw [hg.2]
  exact CW_emit hE h0 h1 a3 (fun _ q => List.mem_cons_of_mem _ q) (fun x q => (List.mem_cons.mp q).elim (fun r => Or.inr ⟨by subst r; exact (show (0 : Nat) ≠ 6 by decide), fun g => by subst r; exact ⟨rfl, rfl, by decide⟩⟩) Or.inl) (fun ty ty1 hw ht => ⟨by decide, by decide, fun g => absurd g (by decide), fun g => absurd g (by decide), fun g => absurd g (by decide), fun g => absurd g (by decide), fun g => absurd g (by decide), fun g => absurd g (by decide), fun _ => ⟨rfl, rfl, rfl, Or.inl (List.mem_cons_self ..)⟩, fun g => absurd g (by decide), fun g => absurd g (by decide), fun g => absurd g (by decide), fun g => absurd g (by decide), fun g => absurd g (by decide), fun g => absurd g (by decide), fun g => absurd g (by decide), fun g => absurd g (by decide), fun g => absurd g (by decide), fun g => absurd g (by decide), fun g => absurd g (by decide), fun g => absurd g (by decide), fun g => absurd g (by decide), fun g => absurd g (by decide), fun g => absurd g (by decide)⟩)
theorem CD_jumpP {nx : Nat} {L : LT3} {nt nw : Int} {tr : Int32} {S S1 : mS} (hE : EN nx 16 0 0 S S1) (hq : CS nx L nt nw tr S) : CD nx ((ix (S.1 7), 0, tr) :: L) nt nw S1 := fun hf => by
  obtain ⟨h0, h1, hE⟩ := hE
  have hg := EM_f hE
  rw [hg.1] at hf
  have a3 := hq hf
  rw [hg.2]
  exact ⟨by omega, CW_emit hE h0 h1 a3 (fun _ q => List.mem_cons_of_mem _ q) (fun x q => (List.mem_cons.mp q).elim (fun r => Or.inr ⟨by subst r; exact (show (0 : Nat) ≠ 6 by decide), fun g => by subst r; exact ⟨rfl, rfl, by decide⟩⟩) Or.inl) (fun ty ty1 hw ht => ⟨by decide, by decide, fun g => absurd g (by decide), fun g => absurd g (by decide), fun g => absurd g (by decide), fun g => absurd g (by decide), fun g => absurd g (by decide), fun g => absurd g (by decide), fun g => absurd g (by decide), fun _ => ⟨rfl, Or.inl (List.mem_cons_self ..)⟩, fun g => absurd g (by decide), fun g => absurd g (by decide), fun g => absurd g (by decide), fun g => absurd g (by decide), fun g => absurd g (by decide), fun g => absurd g (by decide), fun g => absurd g (by decide), fun g => absurd g (by decide), fun g => absurd g (by decide), fun g => absurd g (by decide), fun g => absurd g (by decide), fun g => absurd g (by decide), fun g => absurd g (by decide), fun g => absurd g (by decide)⟩)⟩
theorem CD_jump {nx : Nat} {L : LT3} {nt nw : Int} {tr : Int32} {S S1 : mS} {a w : Int32} (hE : EN nx 16 a 0 S S1) (hq : CS nx L nt nw tr S) (hw : 500 * nx ≤ w.toInt ∧ w.toInt < nw) (ha : a = (S.2.1 42) (ix w)) (htr : (S.2.1 40) (ix w) = tr) : CD nx L nt nw S1 := fun hf => by
  obtain ⟨h0, h1, hE⟩ := hE
  have hg := EM_f hE
  rw [hg.1] at hf
  have a3 := hq hf
  rw [hg.2]
  exact ⟨by omega, CW_emit hE h0 h1 a3 (fun _ q => q) (fun _ q => Or.inl q) (fun ty ty1 hww ht => ⟨by decide, by decide, fun g => absurd g (by decide), fun g => absurd g (by decide), fun g => absurd g (by decide), fun g => absurd g (by decide), fun g => absurd g (by decide), fun g => absurd g (by decide), fun g => absurd g (by decide), fun _ => ⟨rfl, Or.inr ⟨by have q := TG_m (show (S.1 7).toInt ≤ (S.1 7).toInt + 1 by omega) ht (hww.2.2.1 w hw.1 hw.2).1.1; rw [htr, ← ha] at q; exact q, Or.inr (by have q := (hww.2.2.1 w hw.1 hw.2).1; rw [← ha] at q; exact ST1_m (show (S.1 7).toInt ≤ (S.1 7).toInt + 1 by omega) (ST1_o (fun x hx => by unfold upd; rw [if_neg (by unfold ix; omega)]) (by have := q.1.1; omega) q.2))⟩⟩, fun g => absurd g (by decide), fun g => absurd g (by decide), fun g => absurd g (by decide), fun g => absurd g (by decide), fun g => absurd g (by decide), fun g => absurd g (by decide), fun g => absurd g (by decide), fun g => absurd g (by decide), fun g => absurd g (by decide), fun g => absurd g (by decide), fun g => absurd g (by decide), fun g => absurd g (by decide), fun g => absurd g (by decide), fun g => absurd g (by decide)⟩)⟩
theorem CD_fail {nx : Nat} {L : LT3} {nt nw : Int} {tr : Int32} {S S1 : mS} {a : Int32} (hE : EN nx 17 a 0 S S1) (hq : CS nx L nt nw tr S) : CD nx L nt nw S1 := fun hf => by
  obtain ⟨h0, h1, hE⟩ := hE
  have hg := EM_f hE
  rw [hg.1] at hf
  have a3 := hq hf
  rw [hg.2]
  exact ⟨by omega, CW_emit hE h0 h1 a3 (fun _ q => q) (fun _ q => Or.inl q) (fun ty ty1 hw ht => ⟨by decide, by decide, fun g => absurd g (by decide), fun g => absurd g (by decide), fun g => absurd g (by decide), fun g => absurd g (by decide), fun g => absurd g (by decide), fun g => absurd g (by decide), fun g => absurd g (by decide), fun g => absurd g (by decide), fun _ => rfl, fun g => absurd g (by decide), fun g => absurd g (by decide), fun g => absurd g (by decide), fun g => absurd g (by decide), fun g => absurd g (by decide), fun g => absurd g (by decide), fun g => absurd g (by decide), fun g => absurd g (by decide), fun g => absurd g (by decide), fun g => absurd g (by decide), fun g => absurd g (by decide), fun g => absurd g (by decide), fun g => absurd g (by decide)⟩)⟩
theorem CD_ret {nx : Nat} {L : LT3} {nt nw : Int} {tr : Int32} {S S1 : mS} {ec cr : Int} (hE : EN nx 18 0 0 S S1) (hq : CF nx L nt nw 1 ec 0 cr 0 tr S) : CD nx L nt nw S1 := fun hf => by
  obtain ⟨h0, h1, hE⟩ := hE
  have hg := EM_f hE
  rw [hg.1] at hf
  obtain ⟨e9, c9, a1, a2, a3⟩ := hq hf
  rw [hg.2]
  exact ⟨by omega, CW_emit hE h0 h1 a3 (fun _ q => q) (fun _ q => Or.inl q) (fun ty ty1 hw ht => ⟨by decide, by decide, fun g => absurd g (by decide), fun g => absurd g (by decide), fun g => absurd g (by decide), fun g => absurd g (by decide), fun g => absurd g (by decide), fun g => absurd g (by decide), fun g => absurd g (by decide), fun g => absurd g (by decide), fun g => absurd g (by decide), fun _ => ⟨rfl, Int.le_refl _⟩, fun g => absurd g (by decide), fun g => absurd g (by decide), fun g => absurd g (by decide), fun g => absurd g (by decide), fun g => absurd g (by decide), fun g => absurd g (by decide), fun g => absurd g (by decide), fun g => absurd g (by decide), fun g => absurd g (by decide), fun g => absurd g (by decide), fun g => absurd g (by decide), fun g => absurd g (by decide)⟩)⟩
theorem CD_brk {nx : Nat} {L : LT3} {nt nw : Int} {tr : Int32} {S S1 : mS} {cr : Int} {a c : Int32} (hE : EN nx c a 0 S S1) (hq : CF nx L nt nw 0 1 0 cr 0 tr S) (hc : 19 ≤ c.toInt ∧ c.toInt ≤ 20) (ha : (S.1 4) = 0 → 500 * nx ≤ a.toInt ∧ a.toInt < nw ∧ an ((S.2.1 25)) ((S.2.1 40) (ix a)) tr ∧ rg nx nt tr) : CD nx L nt nw S1 := fun hf => by
  obtain ⟨h0, h1, hE⟩ := hE
  have hg := EM_f hE
  rw [hg.1] at hf
  obtain ⟨e9, c9, a1, a2, a3⟩ := hq hf
  rw [hg.2]
  exact ⟨by omega, CW_emit hE h0 h1 a3 (fun _ q => q) (fun _ q => Or.inl q) (fun ty ty1 hw ht => ⟨(by omega), (by omega), fun g => absurd g (by omega), fun g => absurd g (by omega), fun g => absurd g (by omega), fun g => absurd g (by omega), fun g => absurd g (by omega), fun g => absurd g (by omega), fun g => absurd g (by omega), fun g => absurd g (by omega), fun g => absurd g (by omega), fun g => absurd g (by omega), fun _ => ⟨rfl, a1, ha hf⟩, fun g => absurd g (by omega), fun g => absurd g (by omega), fun g => absurd g (by omega), fun g => absurd g (by omega), fun g => absurd g (by omega), fun g => absurd g (by omega), fun g => absurd g (by omega), fun g => absurd g (by omega), fun g => absurd g (by omega), fun g => absurd g (by omega), fun g => absurd g (by omega)⟩)⟩
theorem CS_try {nx : Nat} {L : LT3} {nt nw : Int} {tr : Int32} {S S1 : mS} {cr : Int} {a : Int32} (hE : EN nx 21 a 0 S S1) (hq : CF nx L nt nw 0 1 0 cr 0 tr S) (ha : 500 * nx ≤ a.toInt ∧ a.toInt < nt ∧ (S.2.1 25) (ix a) = tr) (hd : (S.1 4) = 0 → ∃ n, n ≤ 10 ∧ dpt ((S.2.1 25)) n tr) : CS nx L nt nw a S1 := fun hf => by
  obtain ⟨h0, h1, hE⟩ := hE
  have hg := EM_f hE
  rw [hg.1] at hf
  obtain ⟨e9, c9, a1, a2, a3⟩ := hq hf
  rw [hg.2]
  exact CW_emit hE h0 h1 a3 (fun _ q => q) (fun _ q => Or.inl q) (fun ty ty1 hw ht => ⟨by decide, by decide, fun g => absurd g (by decide), fun g => absurd g (by decide), fun g => absurd g (by decide), fun g => absurd g (by decide), fun g => absurd g (by decide), fun g => absurd g (by decide), fun g => absurd g (by decide), fun g => absurd g (by decide), fun g => absurd g (by decide), fun g => absurd g (by decide), fun g => absurd g (by decide), fun _ => ⟨rfl, a1, rfl, ha.1, ha.2.1, ha.2.2, hd hf⟩, fun g => absurd g (by decide), fun g => absurd g (by decide), fun g => absurd g (by decide), fun g => absurd g (by decide), fun g => absurd g (by decide), fun g => absurd g (by decide), fun g => absurd g (by decide), fun g => absurd g (by decide), fun g => absurd g (by decide), fun g => absurd g (by decide)⟩)
theorem CD_leave {nx : Nat} {L : LT3} {nt nw : Int} {S S1 : mS} {a : Int32} (hE : EN nx 22 a 0 S S1) (hq : CS nx L nt nw a S) (ha : 500 * nx ≤ a.toInt ∧ a.toInt < nt) (hl : (ix a, 2, (0 : Int32)) ∈ L) : CD nx L nt nw S1 := fun hf => by
  obtain ⟨h0, h1, hE⟩ := hE
  have hg := EM_f hE
  rw [hg.1] at hf
  have a3 := hq hf
  rw [hg.2]
  exact ⟨by omega, CW_emit hE h0 h1 a3 (fun _ q => q) (fun _ q => Or.inl q) (fun ty ty1 hw ht => ⟨by decide, by decide, fun g => absurd g (by decide), fun g => absurd g (by decide), fun g => absurd g (by decide), fun g => absurd g (by decide), fun g => absurd g (by decide), fun g => absurd g (by decide), fun g => absurd g (by decide), fun g => absurd g (by decide), fun g => absurd g (by decide), fun g => absurd g (by decide), fun g => absurd g (by decide), fun g => absurd g (by decide), fun _ => ⟨rfl, rfl, ha.1, ha.2, Or.inl hl⟩, fun g => absurd g (by decide), fun g => absurd g (by decide), fun g => absurd g (by decide), fun g => absurd g (by decide), fun g => absurd g (by decide), fun g => absurd g (by decide), fun g => absurd g (by decide), fun g => absurd g (by decide), fun g => absurd g (by decide)⟩)⟩
theorem CD_fin {nx : Nat} {L : LT3} {nt nw : Int} {S S1 : mS} {a : Int32} (hE : EN nx 23 a 0 S S1) (hq : CS nx L nt nw a S) (ha : 500 * nx ≤ a.toInt ∧ a.toInt < nt) : CD nx L nt nw S1 := fun hf => by
  obtain ⟨h0, h1, hE⟩ := hE
  have hg := EM_f hE
  rw [hg.1] at hf
  have a3 := hq hf
  rw [hg.2]
  exact ⟨by omega, CW_emit hE h0 h1 a3 (fun _ q => q) (fun _ q => Or.inl q) (fun ty ty1 hw ht => ⟨by decide, by decide, fun g => absurd g (by decide), fun g => absurd g (by decide), fun g => absurd g (by decide), fun g => absurd g (by decide), fun g => absurd g (by decide), fun g => absurd g (by decide), fun g => absurd g (by decide), fun g => absurd g (by decide), fun g => absurd g (by decide), fun g => absurd g (by decide), fun g => absurd g (by decide), fun g => absurd g (by decide), fun g => absurd g (by decide), fun _ => ⟨rfl, rfl, ha⟩, fun g => absurd g (by decide), fun g => absurd g (by decide), fun g => absurd g (by decide), fun g => absurd g (by decide), fun g => absurd g (by decide), fun g => absurd g (by decide), fun g => absurd g (by decide), fun g => absurd g (by decide)⟩)⟩
theorem CD_end {nx : Nat} {L : LT3} {nt nw : Int} {tr : Int32} {S S1 : mS} (hE : EN nx 0 0 0 S S1) (hq : CS nx L nt nw tr S) : CD nx L nt nw S1 := fun hf => by
  obtain ⟨h0, h1, hE⟩ := hE
  have hg := EM_f hE
  rw [hg.1] at hf
  have a3 := hq hf
  rw [hg.2]
  exact ⟨by omega, CW_emit hE h0 h1 a3 (fun _ q => q) (fun _ q => Or.inl q) (fun ty ty1 hw ht => ⟨by decide, by decide, fun _ => rfl, fun g => absurd g (by decide), fun g => absurd g (by decide), fun g => absurd g (by decide), fun g => absurd g (by decide), fun g => absurd g (by decide), fun g => absurd g (by decide), fun g => absurd g (by decide), fun g => absurd g (by decide), fun g => absurd g (by decide), fun g => absurd g (by decide), fun g => absurd g (by decide), fun g => absurd g (by decide), fun g => absurd g (by decide), fun g => absurd g (by decide), fun g => absurd g (by decide), fun g => absurd g (by decide), fun g => absurd g (by decide), fun g => absurd g (by decide), fun g => absurd g (by decide), fun g => absurd g (by decide), fun g => absurd g (by decide)⟩)⟩
theorem CF_letter {nx : Nat} {L : LT3} {nt nw : Int} {tr : Int32} {S S1 : mS} {h ec cr oc : Int} {a : Int32} (hE : EN nx 24 a 0 S S1) (hq : CF nx L nt nw h ec 1 (cr + 1) oc tr S) (hh : 0 ≤ h) (hc : 0 ≤ cr) (ha : (S.1 4) = 0 → 0 ≤ a.toInt ∧ a.toInt < 8) : CF nx L nt nw h 0 1 cr oc tr S1 := fun hf => by
  obtain ⟨h0, h1, hE⟩ := hE
  have hg := EM_f hE
  rw [hg.1] at hf
  obtain ⟨e9, c9, a1, a2, a3⟩ := hq hf
  rw [hg.2]
  exact ⟨0, c9 - 1, by omega, by omega, CW_emit hE h0 h1 a3 (fun _ q => q) (fun _ q => Or.inl q) (fun ty ty1 hw ht => ⟨by decide, by decide, fun g => absurd g (by decide), fun g => absurd g (by decide), fun g => absurd g (by decide), fun g => absurd g (by decide), fun g => absurd g (by decide), fun g => absurd g (by decide), fun g => absurd g (by decide), fun g => absurd g (by decide), fun g => absurd g (by decide), fun g => absurd g (by decide), fun g => absurd g (by decide), fun g => absurd g (by decide), fun g => absurd g (by decide), fun g => absurd g (by decide), fun _ => ⟨rfl, (by omega : (1 : Int) ≤ c9), (ha hf).1, (ha hf).2, WK_i hh rfl (Int.le_refl _) rfl (Int.le_refl _) rfl rfl⟩, fun g => absurd g (by decide), fun g => absurd g (by decide), fun g => absurd g (by decide), fun g => absurd g (by decide), fun g => absurd g (by decide), fun g => absurd g (by decide), fun g => absurd g (by decide)⟩)⟩
theorem CF_tick {nx : Nat} {L : LT3} {nt nw : Int} {tr : Int32} {S S1 : mS} {h ec cr oc : Int} (hE : EN nx 25 0 0 S S1) (hq : CF nx L nt nw (h + 1) ec 1 (cr + 1) oc tr S) (hh : 0 ≤ h) (hc : 0 ≤ cr) : CF nx L nt nw h 0 1 cr oc tr S1 := fun hf => by
  obtain ⟨h0, h1, hE⟩ := hE
  have hg := EM_f hE
  rw [hg.1] at hf
  obtain ⟨e9, c9, a1, a2, a3⟩ := hq hf
  rw [hg.2]
  exact ⟨0, c9 - 1, by omega, by omega, CW_emit hE h0 h1 a3 (fun _ q => q) (fun _ q => Or.inl q) (fun ty ty1 hw ht => ⟨by decide, by decide, fun g => absurd g (by decide), fun g => absurd g (by decide), fun g => absurd g (by decide), fun g => absurd g (by decide), fun g => absurd g (by decide), fun g => absurd g (by decide), fun g => absurd g (by decide), fun g => absurd g (by decide), fun g => absurd g (by decide), fun g => absurd g (by decide), fun g => absurd g (by decide), fun g => absurd g (by decide), fun g => absurd g (by decide), fun g => absurd g (by decide), fun g => absurd g (by decide), fun _ => ⟨rfl, (by omega : (1 : Int) ≤ c9), (by omega : (1 : Int) ≤ h + 1), WK_i hh (by omega : (h : Int) = h + 1 - 1) (Int.le_refl _) rfl (Int.le_refl _) rfl rfl⟩, fun g => absurd g (by decide), fun g => absurd g (by decide), fun g => absurd g (by decide), fun g => absurd g (by decide), fun g => absurd g (by decide), fun g => absurd g (by decide)⟩)⟩
theorem CF_yield {nx : Nat} {L : LT3} {nt nw : Int} {tr : Int32} {S S1 : mS} {h ec cr oc : Int} (hE : EN nx 26 0 0 S S1) (hq : CF nx L nt nw h ec 1 (cr + 1) oc tr S) (hh : 0 ≤ h) (hc : 0 ≤ cr) : CF nx L nt nw h 0 1 cr oc tr S1 := fun hf => by
  obtain ⟨h0, h1, hE⟩ := hE
  have hg := EM_f hE
  rw [hg.1] at hf
  obtain ⟨e9, c9, a1, a2, a3⟩ := hq hf
  rw [hg.2]
  exact ⟨0, c9 - 1, by omega, by omega, CW_emit hE h0 h1 a3 (fun _ q => q) (fun _ q => Or.inl q) (fun ty ty1 hw ht => ⟨by decide, by decide, fun g => absurd g (by decide), fun g => absurd g (by decide), fun g => absurd g (by decide), fun g => absurd g (by decide), fun g => absurd g (by decide), fun g => absurd g (by decide), fun g => absurd g (by decide), fun g => absurd g (by decide), fun g => absurd g (by decide), fun g => absurd g (by decide), fun g => absurd g (by decide), fun g => absurd g (by decide), fun g => absurd g (by decide), fun g => absurd g (by decide), fun g => absurd g (by decide), fun g => absurd g (by decide), fun _ => ⟨rfl, (by omega : (1 : Int) ≤ c9), WK_i hh rfl (Int.le_refl _) rfl (Int.le_refl _) rfl rfl⟩, fun g => absurd g (by decide), fun g => absurd g (by decide), fun g => absurd g (by decide), fun g => absurd g (by decide), fun g => absurd g (by decide)⟩)⟩
theorem CF_childP {nx : Nat} {L : LT3} {nt nw : Int} {tr : Int32} {S S1 : mS} {h hb1 ec cr oc : Int} {b : Int32} (hE : EN nx 27 0 b S S1) (hq : CF nx L nt nw hb1 ec 1 (cr + 1) oc tr S) (hh : 0 ≤ h) (hc : 0 ≤ cr) (hb : 0 ≤ b.toInt ∧ hb1 = h + b.toInt) : CF nx ((ix (S.1 7), 5, (0 : Int32)) :: L) nt nw h 0 1 cr oc tr S1 := fun hf => by
  obtain ⟨h0, h1, hE⟩ := hE
  have hg := EM_f hE
  rw [hg.1] at hf
  obtain ⟨e9, c9, a1, a2, a3⟩ := hq hf
  rw [hg.2]
  exact ⟨0, c9 - 1, by omega, by omega, CW_emit hE h0 h1 a3 (fun _ q => List.mem_cons_of_mem _ q) (fun x q => (List.mem_cons.mp q).elim (fun r => Or.inr ⟨by subst r; exact (show (5 : Nat) ≠ 6 by decide), fun g => by subst r; exact absurd (show (5 : Nat) = 0 from g) (by decide)⟩) Or.inl) (fun ty ty1 hw ht => ⟨by decide, by decide, fun g => absurd g (by decide), fun g => absurd g (by decide), fun g => absurd g (by decide), fun g => absurd g (by decide), fun g => absurd g (by decide), fun g => absurd g (by decide), fun g => absurd g (by decide), fun g => absurd g (by decide), fun g => absurd g (by decide), fun g => absurd g (by decide), fun g => absurd g (by decide), fun g => absurd g (by decide), fun g => absurd g (by decide), fun g => absurd g (by decide), fun g => absurd g (by decide), fun g => absurd g (by decide), fun g => absurd g (by decide), fun _ => ⟨rfl, (by omega : (1 : Int) ≤ c9), hb.1, (by omega : b.toInt ≤ hb1), WK_i hh (by omega : (h : Int) = hb1 - b.toInt) (Int.le_refl _) rfl (Int.le_refl _) rfl rfl, Or.inl (List.mem_cons_self ..)⟩, fun g => absurd g (by decide), fun g => absurd g (by decide), fun g => absurd g (by decide), fun g => absurd g (by decide)⟩)⟩
theorem CF_open2 {nx : Nat} {L : LT3} {nt nw : Int} {tr : Int32} {S S1 : mS} {h ec cr oc : Int} (hE : EN nx 28 2 0 S S1) (hq : CF nx L nt nw (h + 1) ec 1 (cr + 1 + 1) oc tr S) (hh : 0 ≤ h) (hc : 0 ≤ cr) (ho : oc ≤ 10) : CF nx L nt nw h 0 1 cr (oc + 1) tr S1 := fun hf => by
  obtain ⟨h0, h1, hE⟩ := hE
  have hg := EM_f hE
  rw [hg.1] at hf
  obtain ⟨e9, c9, a1, a2, a3⟩ := hq hf
  rw [hg.2]
  exact ⟨0, c9 - 2, by omega, by omega, CW_emit hE h0 h1 a3 (fun _ q => q) (fun _ q => Or.inl q) (fun ty ty1 hw ht => ⟨by decide, by decide, fun g => absurd g (by decide), fun g => absurd g (by decide), fun g => absurd g (by decide), fun g => absurd g (by decide), fun g => absurd g (by decide), fun g => absurd g (by decide), fun g => absurd g (by decide), fun g => absurd g (by decide), fun g => absurd g (by decide), fun g => absurd g (by decide), fun g => absurd g (by decide), fun g => absurd g (by decide), fun g => absurd g (by decide), fun g => absurd g (by decide), fun g => absurd g (by decide), fun g => absurd g (by decide), fun g => absurd g (by decide), fun g => absurd g (by decide), fun _ => ⟨rfl, by decide, by decide, ho, fun _ => ⟨(by omega : (1 : Int) ≤ h + 1), (by omega : (2 : Int) ≤ c9), WK_i hh (by omega : (h : Int) = h + 1 - 1) (Int.le_refl _) rfl (Int.le_refl _) rfl rfl⟩, fun g => absurd rfl g⟩, fun g => absurd g (by decide), fun g => absurd g (by decide), fun g => absurd g (by decide)⟩)⟩
theorem CF_openv {nx : Nat} {L : LT3} {nt nw : Int} {tr : Int32} {S S1 : mS} {h ec cr oc : Int} {a : Int32} (hE : EN nx 28 a 0 S S1) (hq : CF nx L nt nw h ec 1 (cr + 1) oc tr S) (hh : 0 ≤ h) (hc : 0 ≤ cr) (ha : 0 ≤ a.toInt ∧ a.toInt ≤ 1) (ho : oc ≤ 10) : CF nx L nt nw h 0 1 cr (oc + 1) tr S1 := fun hf => by
  obtain ⟨h0, h1, hE⟩ := hE
  have hg := EM_f hE
  rw [hg.1] at hf
  obtain ⟨e9, c9, a1, a2, a3⟩ := hq hf
  rw [hg.2]
  exact ⟨0, c9 - 1, by omega, by omega, CW_emit hE h0 h1 a3 (fun _ q => q) (fun _ q => Or.inl q) (fun ty ty1 hw ht => ⟨by decide, by decide, fun g => absurd g (by decide), fun g => absurd g (by decide), fun g => absurd g (by decide), fun g => absurd g (by decide), fun g => absurd g (by decide), fun g => absurd g (by decide), fun g => absurd g (by decide), fun g => absurd g (by decide), fun g => absurd g (by decide), fun g => absurd g (by decide), fun g => absurd g (by decide), fun g => absurd g (by decide), fun g => absurd g (by decide), fun g => absurd g (by decide), fun g => absurd g (by decide), fun g => absurd g (by decide), fun g => absurd g (by decide), fun g => absurd g (by decide), fun _ => ⟨rfl, ha.1, (by omega : a.toInt ≤ 2), ho, fun g => absurd g (by omega), fun _ => ⟨(by omega : (1 : Int) ≤ c9), WK_i hh rfl (Int.le_refl _) rfl (Int.le_refl _) rfl rfl⟩⟩, fun g => absurd g (by decide), fun g => absurd g (by decide), fun g => absurd g (by decide)⟩)⟩
theorem CF_shut {nx : Nat} {L : LT3} {nt nw : Int} {tr : Int32} {S S1 : mS} {h ec cr oc : Int} {a : Int32} (hE : EN nx 29 a 0 S S1) (hq : CF nx L nt nw h ec 1 cr (oc + 1) tr S) (hh : 0 ≤ h) (ho : 0 ≤ oc) : CF nx L nt nw h 0 1 cr oc tr S1 := fun hf => by
  obtain ⟨h0, h1, hE⟩ := hE
  have hg := EM_f hE
  rw [hg.1] at hf
  obtain ⟨e9, c9, a1, a2, a3⟩ := hq hf
  rw [hg.2]
  exact ⟨0, c9, by omega, by omega, CW_emit hE h0 h1 a3 (fun _ q => q) (fun _ q => Or.inl q) (fun ty ty1 hw ht => ⟨by decide, by decide, fun g => absurd g (by decide), fun g => absurd g (by decide), fun g => absurd g (by decide), fun g => absurd g (by decide), fun g => absurd g (by decide), fun g => absurd g (by decide), fun g => absurd g (by decide), fun g => absurd g (by decide), fun g => absurd g (by decide), fun g => absurd g (by decide), fun g => absurd g (by decide), fun g => absurd g (by decide), fun g => absurd g (by decide), fun g => absurd g (by decide), fun g => absurd g (by decide), fun g => absurd g (by decide), fun g => absurd g (by decide), fun g => absurd g (by decide), fun g => absurd g (by decide), fun _ => ⟨rfl, (by omega : (1 : Int) ≤ oc + 1), WK_i hh rfl (Int.le_refl _) rfl (Int.le_refl _) (by omega : (oc : Int) = oc + 1 - 1) rfl⟩, fun g => absurd g (by decide), fun g => absurd g (by decide)⟩)⟩
theorem CS_wait {nx : Nat} {L : LT3} {nt nw : Int} {tr : Int32} {S S1 : mS} {h ec cr oc : Int} {a b : Int32} (hE : EN nx 30 a b S S1) (hq : CF nx L nt nw h ec 1 cr oc tr S) (ha : (S.1 4) = 0 → -1 ≤ a.toInt ∧ a.toInt < 12) : CS nx L nt nw tr S1 := fun hf => by
  obtain ⟨h0, h1, hE⟩ := hE
  have hg := EM_f hE
  rw [hg.1] at hf
  obtain ⟨e9, c9, a1, a2, a3⟩ := hq hf
  rw [hg.2]
  exact CW_emit hE h0 h1 a3 (fun _ q => q) (fun _ q => Or.inl q) (fun ty ty1 hw ht => ⟨by decide, by decide, fun g => absurd g (by decide), fun g => absurd g (by decide), fun g => absurd g (by decide), fun g => absurd g (by decide), fun g => absurd g (by decide), fun g => absurd g (by decide), fun g => absurd g (by decide), fun g => absurd g (by decide), fun g => absurd g (by decide), fun g => absurd g (by decide), fun g => absurd g (by decide), fun g => absurd g (by decide), fun g => absurd g (by decide), fun g => absurd g (by decide), fun g => absurd g (by decide), fun g => absurd g (by decide), fun g => absurd g (by decide), fun g => absurd g (by decide), fun g => absurd g (by decide), fun g => absurd g (by decide), fun _ => ⟨rfl, (ha hf).1, (ha hf).2, rfl⟩, fun g => absurd g (by decide)⟩)
theorem CF_begins {nx : Nat} {L : LT3} {nt nw : Int} {tr : Int32} {S S1 : mS} {b : Int32} (hE : EN nx 31 0 b S S1) (hq : CS nx L nt nw tr S) : CF nx ((ix (S.1 7), 0, tr) :: L) nt nw 0 0 1 0 0 tr S1 := fun hf => by
  obtain ⟨h0, h1, hE⟩ := hE
  have hg := EM_f hE
  rw [hg.1] at hf
  have a3 := hq hf
  rw [hg.2]
  exact ⟨0, 0, by omega, by omega, CW_emit hE h0 h1 a3 (fun _ q => List.mem_cons_of_mem _ q) (fun x q => (List.mem_cons.mp q).elim (fun r => Or.inr ⟨by subst r; exact (show (0 : Nat) ≠ 6 by decide), fun g => by subst r; exact ⟨rfl, rfl, by decide⟩⟩) Or.inl) (fun ty ty1 hw ht => ⟨by decide, by decide, fun g => absurd g (by decide), fun g => absurd g (by decide), fun g => absurd g (by decide), fun g => absurd g (by decide), fun g => absurd g (by decide), fun g => absurd g (by decide), fun g => absurd g (by decide), fun g => absurd g (by decide), fun g => absurd g (by decide), fun g => absurd g (by decide), fun g => absurd g (by decide), fun g => absurd g (by decide), fun g => absurd g (by decide), fun g => absurd g (by decide), fun g => absurd g (by decide), fun g => absurd g (by decide), fun g => absurd g (by decide), fun g => absurd g (by decide), fun g => absurd g (by decide), fun g => absurd g (by decide), fun g => absurd g (by decide), fun _ => ⟨rfl, WK_i (Int.le_refl _) rfl (Int.le_refl _) rfl (Int.le_refl _) rfl rfl, Or.inl (List.mem_cons_self ..)⟩⟩)⟩
theorem okJ_p {TP TP' CP BP YP LP EP CP' BP' YP' LP' EP' : Prop} {c a a' b : Int32} {u v : T6} (hc : c = 15 ∨ c = 16 ∨ c = 31) (h : okJ TP CP BP YP LP EP c a b u v) (hT : TP') : okJ TP' CP' BP' YP' LP' EP' c a' b u v := by
  rcases hc with rfl | rfl | rfl
  · have q := h.2.2.2.2.2.2.2.2.1 (by decide)
    exact ⟨by decide, by decide, fun g => absurd g (by decide), fun g => absurd g (by decide), fun g => absurd g (by decide), fun g => absurd g (by decide), fun g => absurd g (by decide), fun g => absurd g (by decide), fun _ => ⟨q.1, q.2.1, q.2.2.1, hT⟩, fun g => absurd g (by decide), fun g => absurd g (by decide), fun g => absurd g (by decide), fun g => absurd g (by decide), fun g => absurd g (by decide), fun g => absurd g (by decide), fun g => absurd g (by decide), fun g => absurd g (by decide), fun g => absurd g (by decide), fun g => absurd g (by decide), fun g => absurd g (by decide), fun g => absurd g (by decide), fun g => absurd g (by decide), fun g => absurd g (by decide), fun g => absurd g (by decide)⟩
  · have q := h.2.2.2.2.2.2.2.2.2.1 (by decide)
    exact ⟨by decide, by decide, fun g => absurd g (by decide), fun g => absurd g (by decide), fun g => absurd g (by decide), fun g => absurd g (by decide), fun g => absurd g (by decide), fun g => absurd g (by decide), fun g => absurd g (by decide), fun _ => ⟨q.1, hT⟩, fun g => absurd g (by decide), fun g => absurd g (by decide), fun g => absurd g (by decide), fun g => absurd g (by decide), fun g => absurd g (by decide), fun g => absurd g (by decide), fun g => absurd g (by decide), fun g => absurd g (by decide), fun g => absurd g (by decide), fun g => absurd g (by decide), fun g => absurd g (by decide), fun g => absurd g (by decide), fun g => absurd g (by decide), fun g => absurd g (by decide)⟩
  · have q := h.2.2.2.2.2.2.2.2.2.2.2.2.2.2.2.2.2.2.2.2.2.2.2 (by decide)
    exact ⟨by decide, by decide, fun g => absurd g (by decide), fun g => absurd g (by decide), fun g => absurd g (by decide), fun g => absurd g (by decide), fun g => absurd g (by decide), fun g => absurd g (by decide), fun g => absurd g (by decide), fun g => absurd g (by decide), fun g => absurd g (by decide), fun g => absurd g (by decide), fun g => absurd g (by decide), fun g => absurd g (by decide), fun g => absurd g (by decide), fun g => absurd g (by decide), fun g => absurd g (by decide), fun g => absurd g (by decide), fun g => absurd g (by decide), fun g => absurd g (by decide), fun g => absurd g (by decide), fun g => absurd g (by decide), fun g => absurd g (by decide), fun _ => ⟨q.1, q.2.1, hT⟩⟩
theorem okJ_c {TP CP BP YP LP EP TP' CP' BP' YP' LP' EP' : Prop} {a a' b : Int32} {u v : T6} (h : okJ TP CP BP YP LP EP 27 a b u v) (hC : CP → CP') : okJ TP' CP' BP' YP' LP' EP' 27 a' b u v := by
  have q := h.2.2.2.2.2.2.2.2.2.2.2.2.2.2.2.2.2.2.2.1 (by decide)
  exact ⟨by decide, by decide, fun g => absurd g (by decide), fun g => absurd g (by decide), fun g => absurd g (by decide), fun g => absurd g (by decide), fun g => absurd g (by decide), fun g => absurd g (by decide), fun g => absurd g (by decide), fun g => absurd g (by decide), fun g => absurd g (by decide), fun g => absurd g (by decide), fun g => absurd g (by decide), fun g => absurd g (by decide), fun g => absurd g (by decide), fun g => absurd g (by decide), fun g => absurd g (by decide), fun g => absurd g (by decide), fun g => absurd g (by decide), fun _ => ⟨q.1, q.2.1, q.2.2.1, q.2.2.2.1, q.2.2.2.2.1, hC q.2.2.2.2.2⟩, fun g => absurd g (by decide), fun g => absurd g (by decide), fun g => absurd g (by decide), fun g => absurd g (by decide)⟩
theorem mem_tl {x y : Nat × Nat × Int32} {L : LT3} (h : x ∈ y :: L) (n : x ≠ y) : x ∈ L := (List.mem_cons.mp h).elim (fun q => absurd q n) id
theorem ne_1 {p p' j j' : Nat} {t t' : Int32} (n : ¬ p = p') : (p, j, t) ≠ (p', j', t') := fun q => n (congrArg (fun x : Nat × Nat × Int32 => x.1) q)
theorem ne_2 {p p' j j' : Nat} {t t' : Int32} (n : ¬ j = j') : (p, j, t) ≠ (p', j', t') := fun q => n (congrArg (fun x : Nat × Nat × Int32 => x.2.1) q)
/-- an open code is given its aim: the frontier -/
theorem CW_patch {nx : Nat} {L : LT3} {nt nw lt : Int} {tr : Int32} {S S1 : mS} {p : Nat} (e : S1 = sF S 13 p (S.1 7)) (h0 : 12000 * nx ≤ (S.1 7).toInt) (h : CW nx ((p, 0, tr) :: L) (S.1 7).toInt nt nw lt (ST tr) S) : CW nx L (S1.1 7).toInt nt nw lt (ST tr) S1 := by
  obtain ⟨ty, hw, hu⟩ := h
  subst e
  have hu : ty (ix (S.1 7)) = ST tr := hu
  have hp := hw.2.2.2.1 (p, 0, tr) (List.mem_cons_self ..) rfl
  refine ⟨ty, ⟨fun q hq1 hq2 => ?_, fun t ht1 ht2 => ?_, fun w hw1 hw2 => ?_, fun x hx1 hx2 => hw.2.2.2.1 x (List.mem_cons_of_mem _ hx1) hx2, hw.2.2.2.2.1, fun x hx h6 => hw.2.2.2.2.2 x (List.mem_cons_of_mem _ hx) h6⟩, hu⟩
  · have k := hw.1 q hq1 hq2
    show okI nx L (S.1 7).toInt nt nw lt S ((S.2.1 12)) ty q ((S.2.1 12) q) (upd ((S.2.1 13)) p (S.1 7) q) ((S.2.1 14) q) (ty q) (ty (q + 1))
    unfold upd
    rcases Decidable.em (q = p) with e | e
    · rw [if_pos e]
      rw [e] at k ⊢
      have e9 : (ty p).2.2.2.2.2 = tr := hp.2.2.1
      exact okJ_p hp.2.2.2 k (Or.inr ⟨⟨h0, Int.le_refl _, by rw [e9]; exact hu⟩, Or.inl hp.2.1⟩)
    · rw [if_neg e]
      exact okJ_m k (fun r => r.elim (fun r => Or.inl (mem_tl r (ne_1 e))) Or.inr) (fun r => r.elim (fun r => Or.inl (mem_tl r (ne_1 e))) Or.inr) id id id (fun r => ⟨r.1, r.2.1, r.2.2.imp (fun m => mem_tl m (ne_2 (by decide))) id⟩)
  · have k := hw.2.1 t ht1 ht2
    exact ⟨k.1.elim (fun r => Or.inl (mem_tl r (ne_2 (by decide)))) Or.inr, k.2.1.elim (fun r => Or.inl (mem_tl r (ne_2 (by decide)))) Or.inr, k.2.2.elim (fun r => Or.inl (mem_tl r (ne_2 (by decide)))) Or.inr⟩
  · have k := hw.2.2.1 w hw1 hw2
    exact ⟨k.1, k.2.1, k.2.2.elim (fun r => Or.inl (mem_tl r (ne_2 (by decide)))) Or.inr⟩
/-- the order of what is open does not matter -/
theorem CW_sw {nx : Nat} {x y : Nat × Nat × Int32} {L : LT3} {cd nt nw lt : Int} {u : T6} {S : mS} (h : CW nx (x :: y :: L) cd nt nw lt u S) : CW nx (y :: x :: L) cd nt nw lt u S := by
  obtain ⟨ty, hw, hu⟩ := h
  have sw : ∀ {x y : Nat × Nat × Int32} {L : LT3} (z : Nat × Nat × Int32), z ∈ x :: y :: L → z ∈ y :: x :: L := by
    intro x y L z hz
    rcases List.mem_cons.mp hz with q | q
    · rw [q]; exact List.mem_cons_of_mem _ (List.mem_cons_self ..)
    · rcases List.mem_cons.mp q with q | q
      · rw [q]; exact List.mem_cons_self ..
      · exact List.mem_cons_of_mem _ (List.mem_cons_of_mem _ q)
  exact ⟨ty, CWt_m sw (fun z hz _ => sw z hz) hw, hu⟩
/-- something of a try or a while is opened -/
theorem CW_open {nx p j : Nat} {L : LT3} {cd nt nw lt : Int} {u : T6} {S : mS} (hj : j ≠ 0 ∧ j ≠ 6) (h : CW nx L cd nt nw lt u S) : CW nx ((p, j, (0 : Int32)) :: L) cd nt nw lt u S := by
  obtain ⟨ty, hw, hu⟩ := h
  exact ⟨ty, CWt_m (fun _ q => List.mem_cons_of_mem _ q) (fun x q g => mem_tl q (fun e => by subst e; exact g.elim hj.1 hj.2)) hw, hu⟩
theorem ix_inj {a b : Int32} (ha : 0 ≤ a.toInt) (hb : 0 ≤ b.toInt) (h : ix a = ix b) : a = b := by
  apply Int32.toInt_inj.mp
  unfold ix at h
  omega
/-- something of a try or a while is closed -/
theorem CW_cl {nx j : Nat} {p : Int32} {L : LT3} {cd nt nw lt : Int} {u : T6} {S : mS} (hp : 0 ≤ p.toInt) (hj : j ≠ 0 ∧ j ≠ 5) (h : CW nx ((ix p, j, (0 : Int32)) :: L) cd nt nw lt u S) (hc : ∀ ty : Nat → T6, ty cd.toNat = u → (j = 1 → (S.2.1 28) (ix p) = 0 ∨ (TG nx cd ty ((S.2.1 30) (ix p)) p ∧ 0 ≤ ((S.2.1 31) (ix p)).toInt ∧ ((S.2.1 31) (ix p)).toInt < 12)) ∧ (j = 2 → (S.2.1 29) (ix p) = 0 ∨ (TG nx cd ty ((S.2.1 32) (ix p)) p ∧ ((S.2.1 32) (ix p)).toInt = cd)) ∧ (j = 3 → TG nx cd ty ((S.2.1 33) (ix p)) ((S.2.1 25) (ix p))) ∧ (j = 4 → TG nx cd ty ((S.2.1 43) (ix p)) ((S.2.1 40) (ix p)))) : CW nx L cd nt nw lt u S := by
  obtain ⟨ty, hw, hu⟩ := h
  have c := hc ty hu
  refine ⟨ty, ⟨fun q hq1 hq2 => ?_, fun t ht1 ht2 => ?_, fun w hw1 hw2 => ?_, fun x hx1 hx2 => hw.2.2.2.1 x (List.mem_cons_of_mem _ hx1) hx2, hw.2.2.2.2.1, fun x hx h6 => hw.2.2.2.2.2 x (List.mem_cons_of_mem _ hx) h6⟩, hu⟩
  · refine okJ_m (hw.1 q hq1 hq2) (fun r => r.elim (fun r => Or.inl (mem_tl r (ne_2 (fun e => hj.1 e.symm)))) Or.inr) (fun r => r.elim (fun r => Or.inl (mem_tl r (ne_2 (fun e => hj.2 e.symm)))) Or.inr) id id id (fun r => ⟨r.1, r.2.1, ?_⟩)
    rcases r.2.2 with m | m
    · rcases Decidable.em (j = 2) with d | d
      · rcases Decidable.em (ix ((S.2.1 13) q) = ix p) with e | e
        · rcases c.2.1 d with g | g
          · exact Or.inr (Or.inl (by rw [e]; exact g))
          · exact Or.inr (Or.inr (by rw [e, g.2]; exact hq2))
        · exact Or.inl (mem_tl m (ne_1 e))
      · exact Or.inl (mem_tl m (ne_2 (fun e => d e.symm)))
    · exact Or.inr m
  · have k := hw.2.1 t ht1 ht2
    rcases Decidable.em (ix t = ix p) with e | e
    · have e2 : t = p := ix_inj (by omega) hp e
      subst e2
      refine ⟨k.1.elim (fun r => ?_) Or.inr, k.2.1.elim (fun r => ?_) Or.inr, k.2.2.elim (fun r => ?_) Or.inr⟩
      · rcases Decidable.em (j = 1) with d | d
        · exact Or.inr (c.1 d)
        · exact Or.inl (mem_tl r (ne_2 (fun e => d e.symm)))
      · rcases Decidable.em (j = 2) with d | d
        · exact Or.inr ((c.2.1 d).imp id (fun g => g.1))
        · exact Or.inl (mem_tl r (ne_2 (fun e => d e.symm)))
      · rcases Decidable.em (j = 3) with d | d
        · exact Or.inr (c.2.2.1 d)
        · exact Or.inl (mem_tl r (ne_2 (fun e => d e.symm)))
    · exact ⟨k.1.elim (fun r => Or.inl (mem_tl r (ne_1 e))) Or.inr, k.2.1.elim (fun r => Or.inl (mem_tl r (ne_1 e))) Or.inr, k.2.2.elim (fun r => Or.inl (mem_tl r (ne_1 e))) Or.inr⟩
  · have k := hw.2.2.1 w hw1 hw2
    refine ⟨k.1, k.2.1, k.2.2.elim (fun r => ?_) Or.inr⟩
    rcases Decidable.em (ix w = ix p) with e | e
    · have e2 : w = p := ix_inj (by omega) hp e
      subst e2
      rcases Decidable.em (j = 4) with d | d
      · exact Or.inr (c.2.2.2 d)
      · exact Or.inl (mem_tl r (ne_2 (fun e => d e.symm)))
    · exact Or.inl (mem_tl r (ne_1 e))
/-- a child's name is noted for later -/
theorem CW_late {nx p : Nat} {L : LT3} {cd nt nw : Int} {u : T6} {S S1 : mS} {v c : Int32} (h : CW nx ((p, 5, (0 : Int32)) :: L) cd nt nw (S.1 11).toInt u S) (h0 : 0 ≤ (S.1 11).toInt) (e : S1.2.1 = upF (upF S.2.1 47 (upd ((S.2.1 47)) (ix (S.1 11)) v)) 48 (upd ((S.2.1 48)) (ix (S.1 11)) c)) (hc : c.toInt = p ∧ 12000 * nx ≤ p ∧ (p : Int) < cd) (ho : (S.2.1 12) p = 27) (ht : (S.2.1 14) p = v) : CW nx L cd nt nw ((S.1 11).toInt + 1) u S1 := by
  obtain ⟨ty, hw, hu⟩ := h
  have hl : ((ix (S.1 11) : Nat) : Int) = (S.1 11).toInt := by unfold ix; omega
  have hcp : ix c = p := by unfold ix; omega
  have e48 : (S1.2.1 48) = upd ((S.2.1 48)) (ix (S.1 11)) c := by show S1.2.1 48 = _; rw [e]; rfl
  have e47 : (S1.2.1 47) = upd ((S.2.1 47)) (ix (S.1 11)) v := by show S1.2.1 47 = _; rw [e]; rfl
  have eo : ∀ k, k ≠ 47 → k ≠ 48 → S1.2.1 k = S.2.1 k := by intro k h1 h2; rw [e]; unfold upF; rw [if_neg h2, if_neg h1]
  have e12 : S1.2.1 12 = S.2.1 12 := eo 12 (by decide) (by decide)
  have e13 : S1.2.1 13 = S.2.1 13 := eo 13 (by decide) (by decide)
  have e14 : S1.2.1 14 = S.2.1 14 := eo 14 (by decide) (by decide)
  have e25 : S1.2.1 25 = S.2.1 25 := eo 25 (by decide) (by decide)
  have e28 : S1.2.1 28 = S.2.1 28 := eo 28 (by decide) (by decide)
  have e29 : S1.2.1 29 = S.2.1 29 := eo 29 (by decide) (by decide)
  have e30 : S1.2.1 30 = S.2.1 30 := eo 30 (by decide) (by decide)
  have e31 : S1.2.1 31 = S.2.1 31 := eo 31 (by decide) (by decide)
  have e32 : S1.2.1 32 = S.2.1 32 := eo 32 (by decide) (by decide)
  have e33 : S1.2.1 33 = S.2.1 33 := eo 33 (by decide) (by decide)
  have e40 : S1.2.1 40 = S.2.1 40 := eo 40 (by decide) (by decide)
  have e41 : S1.2.1 41 = S.2.1 41 := eo 41 (by decide) (by decide)
  have e42 : S1.2.1 42 = S.2.1 42 := eo 42 (by decide) (by decide)
  have e43 : S1.2.1 43 = S.2.1 43 := eo 43 (by decide) (by decide)
  refine ⟨ty, ⟨fun q hq1 hq2 => ?_, fun t ht1 ht2 => ?_, fun w hw1 hw2 => ?_, fun x hx1 hx2 => ?_, fun k hk => ?_, fun x hx h6 => hw.2.2.2.2.2 x (List.mem_cons_of_mem _ hx) h6⟩, hu⟩
  · have k := hw.1 q hq1 hq2
    unfold okI at k ⊢
    rw [e12, e13, e14, e25, e29, e32, e40, e47, e48]
    refine okJ_m k (fun r => r.elim (fun r => Or.inl (mem_tl r (ne_2 (by decide)))) Or.inr) (fun r => ?_) id id id (fun r => ⟨r.1, r.2.1, r.2.2.imp (fun m => mem_tl m (ne_2 (by decide))) id⟩)
    rcases r with r | ⟨k9, r1, r2, r3⟩
    · rcases Decidable.em (q = p) with d | d
      · refine Or.inr ⟨ix (S.1 11), by omega, ?_, ?_⟩
        · unfold upd; rw [if_pos rfl]; omega
        · unfold upd; rw [if_pos rfl, d]; exact ht.symm
      · exact Or.inl (mem_tl r (ne_1 d))
    · refine Or.inr ⟨k9, by omega, ?_, ?_⟩
      · unfold upd; rw [if_neg (by omega)]; exact r2
      · unfold upd; rw [if_neg (by omega)]; exact r3
  · have k := hw.2.1 t ht1 ht2
    unfold oTr at k ⊢
    rw [e25, e28, e29, e30, e31, e32, e33]
    exact ⟨k.1.elim (fun r => Or.inl (mem_tl r (ne_2 (by decide)))) Or.inr, k.2.1.elim (fun r => Or.inl (mem_tl r (ne_2 (by decide)))) Or.inr, k.2.2.elim (fun r => Or.inl (mem_tl r (ne_2 (by decide)))) Or.inr⟩
  · have k := hw.2.2.1 w hw1 hw2
    unfold oWh at k ⊢
    rw [e12, e25, e40, e41, e42, e43]
    exact ⟨k.1, k.2.1, k.2.2.elim (fun r => Or.inl (mem_tl r (ne_2 (by decide)))) Or.inr⟩
  · have k := hw.2.2.2.1 x (List.mem_cons_of_mem _ hx1) hx2
    unfold oPe at k ⊢
    rw [e12]
    exact k
  · unfold oLa
    rw [e12, e14, e47, e48]
    unfold upd
    rcases Decidable.em (k = ix (S.1 11)) with d | d
    · rw [if_pos d, if_pos d, hcp]
      exact ⟨by omega, by omega, ho, ht⟩
    · rw [if_neg d, if_neg d]
      exact hw.2.2.2.2.1 k (by omega)
theorem CW_w28 {nx i : Nat} {L : LT3} {cd nt nw lt : Int} {u : T6} {S S1 : mS} {v : Int32} (e : S1 = sF S 28 i v) (hi : (i, 1, (0 : Int32)) ∈ L ∨ nt ≤ i) (h : CW nx L cd nt nw lt u S) : CW nx L cd nt nw lt u S1 := by
  obtain ⟨ty, hw, hu⟩ := h
  subst e
  refine ⟨ty, ⟨hw.1, fun t ht1 ht2 => ?_, hw.2.2⟩, hu⟩
  have k := hw.2.1 t ht1 ht2
  rcases Decidable.em (ix t = i) with d | d
  · rcases hi with hi | hi
    · exact ⟨Or.inl (by rw [d]; exact hi), k.2.1, k.2.2⟩
    · exact absurd hi (by rw [← d]; unfold ix; omega)
  · have e1 : (sF S 28 i v).2.1 28 (ix t) = S.2.1 28 (ix t) := by rw [q_fx, if_pos rfl, if_neg d]
    unfold oTr at k ⊢
    rw [e1]
    exact k
theorem CW_w29 {nx i : Nat} {L : LT3} {cd nt nw lt : Int} {u : T6} {S S1 : mS} {v : Int32} (e : S1 = sF S 29 i v) (hi : (i, 2, (0 : Int32)) ∈ L ∨ nt ≤ i) (h : CW nx L cd nt nw lt u S) : CW nx L cd nt nw lt u S1 := by
  obtain ⟨ty, hw, hu⟩ := h
  subst e
  refine ⟨ty, ⟨fun q hq1 hq2 => ?_, fun t ht1 ht2 => ?_, hw.2.2⟩, hu⟩
  · refine okJ_m (hw.1 q hq1 hq2) id id id id id (fun r => ⟨r.1, r.2.1, ?_⟩)
    rcases Decidable.em (ix ((S.2.1 13) q) = i) with d | d
    · rcases hi with hi | hi
      · exact Or.inl (by rw [← d] at hi; exact hi)
      · exact absurd hi (by rw [← d]; have := r.1; have := r.2.1; unfold ix; omega)
    · have e1 : (sF S 29 i v).2.1 29 (ix ((S.2.1 13) q)) = S.2.1 29 (ix ((S.2.1 13) q)) := by rw [q_fx, if_pos rfl, if_neg d]
      exact r.2.2.imp id (fun g => g.imp (fun g => (by show (sF S 29 i v).2.1 29 (ix ((S.2.1 13) q)) = 0; rw [e1]; exact g)) id)
  have k := hw.2.1 t ht1 ht2
  rcases Decidable.em (ix t = i) with d | d
  · rcases hi with hi | hi
    · exact ⟨k.1, Or.inl (by rw [d]; exact hi), k.2.2⟩
    · exact absurd hi (by rw [← d]; unfold ix; omega)
  · have e1 : (sF S 29 i v).2.1 29 (ix t) = S.2.1 29 (ix t) := by rw [q_fx, if_pos rfl, if_neg d]
    unfold oTr at k ⊢
    rw [e1]
    exact k
theorem CW_w30 {nx i : Nat} {L : LT3} {cd nt nw lt : Int} {u : T6} {S S1 : mS} {v : Int32} (e : S1 = sF S 30 i v) (hi : (i, 1, (0 : Int32)) ∈ L ∨ nt ≤ i) (h : CW nx L cd nt nw lt u S) : CW nx L cd nt nw lt u S1 := by
  obtain ⟨ty, hw, hu⟩ := h
  subst e
  refine ⟨ty, ⟨hw.1, fun t ht1 ht2 => ?_, hw.2.2⟩, hu⟩
  have k := hw.2.1 t ht1 ht2
  rcases Decidable.em (ix t = i) with d | d
  · rcases hi with hi | hi
    · exact ⟨Or.inl (by rw [d]; exact hi), k.2.1, k.2.2⟩
    · exact absurd hi (by rw [← d]; unfold ix; omega)
  · have e1 : (sF S 30 i v).2.1 30 (ix t) = S.2.1 30 (ix t) := by rw [q_fx, if_pos rfl, if_neg d]
    unfold oTr at k ⊢
    rw [e1]
    exact k
theorem CW_w31 {nx i : Nat} {L : LT3} {cd nt nw lt : Int} {u : T6} {S S1 : mS} {v : Int32} (e : S1 = sF S 31 i v) (hi : (i, 1, (0 : Int32)) ∈ L ∨ nt ≤ i) (h : CW nx L cd nt nw lt u S) : CW nx L cd nt nw lt u S1 := by
  obtain ⟨ty, hw, hu⟩ := h
  subst e
  refine ⟨ty, ⟨hw.1, fun t ht1 ht2 => ?_, hw.2.2⟩, hu⟩
  have k := hw.2.1 t ht1 ht2
  rcases Decidable.em (ix t = i) with d | d
  · rcases hi with hi | hi
    · exact ⟨Or.inl (by rw [d]; exact hi), k.2.1, k.2.2⟩
    · exact absurd hi (by rw [← d]; unfold ix; omega)
  · have e1 : (sF S 31 i v).2.1 31 (ix t) = S.2.1 31 (ix t) := by rw [q_fx, if_pos rfl, if_neg d]
    unfold oTr at k ⊢
    rw [e1]
    exact k
theorem CW_w32 {nx i : Nat} {L : LT3} {cd nt nw lt : Int} {u : T6} {S S1 : mS} {v : Int32} (e : S1 = sF S 32 i v) (hi : (i, 2, (0 : Int32)) ∈ L ∨ nt ≤ i) (h : CW nx L cd nt nw lt u S) : CW nx L cd nt nw lt u S1 := by
  obtain ⟨ty, hw, hu⟩ := h
  subst e
  refine ⟨ty, ⟨fun q hq1 hq2 => ?_, fun t ht1 ht2 => ?_, hw.2.2⟩, hu⟩
  · refine okJ_m (hw.1 q hq1 hq2) id id id id id (fun r => ⟨r.1, r.2.1, ?_⟩)
    rcases Decidable.em (ix ((S.2.1 13) q) = i) with d | d
    · rcases hi with hi | hi
      · exact Or.inl (by rw [← d] at hi; exact hi)
      · exact absurd hi (by rw [← d]; have := r.1; have := r.2.1; unfold ix; omega)
    · have e1 : (sF S 32 i v).2.1 32 (ix ((S.2.1 13) q)) = S.2.1 32 (ix ((S.2.1 13) q)) := by rw [q_fx, if_pos rfl, if_neg d]
      exact r.2.2.imp id (fun g => g.imp id (fun g => (by show (q : Int) < ((sF S 32 i v).2.1 32 (ix ((S.2.1 13) q))).toInt; rw [e1]; exact g)))
  have k := hw.2.1 t ht1 ht2
  rcases Decidable.em (ix t = i) with d | d
  · rcases hi with hi | hi
    · exact ⟨k.1, Or.inl (by rw [d]; exact hi), k.2.2⟩
    · exact absurd hi (by rw [← d]; unfold ix; omega)
  · have e1 : (sF S 32 i v).2.1 32 (ix t) = S.2.1 32 (ix t) := by rw [q_fx, if_pos rfl, if_neg d]
    unfold oTr at k ⊢
    rw [e1]
    exact k
theorem CW_w33 {nx i : Nat} {L : LT3} {cd nt nw lt : Int} {u : T6} {S S1 : mS} {v : Int32} (e : S1 = sF S 33 i v) (hi : (i, 3, (0 : Int32)) ∈ L ∨ nt ≤ i) (h : CW nx L cd nt nw lt u S) : CW nx L cd nt nw lt u S1 := by
  obtain ⟨ty, hw, hu⟩ := h
  subst e
  refine ⟨ty, ⟨hw.1, fun t ht1 ht2 => ?_, hw.2.2⟩, hu⟩
  have k := hw.2.1 t ht1 ht2
  rcases Decidable.em (ix t = i) with d | d
  · rcases hi with hi | hi
    · exact ⟨k.1, k.2.1, Or.inl (by rw [d]; exact hi)⟩
    · exact absurd hi (by rw [← d]; unfold ix; omega)
  · have e1 : (sF S 33 i v).2.1 33 (ix t) = S.2.1 33 (ix t) := by rw [q_fx, if_pos rfl, if_neg d]
    unfold oTr at k ⊢
    rw [e1]
    exact k
theorem CW_w43 {nx i : Nat} {L : LT3} {cd nt nw lt : Int} {u : T6} {S S1 : mS} {v : Int32} (e : S1 = sF S 43 i v) (hi : (i, 4, (0 : Int32)) ∈ L ∨ nw ≤ i) (h : CW nx L cd nt nw lt u S) : CW nx L cd nt nw lt u S1 := by
  obtain ⟨ty, hw, hu⟩ := h
  subst e
  refine ⟨ty, ⟨hw.1, hw.2.1, fun t ht1 ht2 => ?_, hw.2.2.2⟩, hu⟩
  have k := hw.2.2.1 t ht1 ht2
  rcases Decidable.em (ix t = i) with d | d
  · rcases hi with hi | hi
    · exact ⟨k.1, k.2.1, Or.inl (by rw [d]; exact hi)⟩
    · exact absurd hi (by rw [← d]; unfold ix; omega)
  · have e1 : (sF S 43 i v).2.1 43 (ix t) = S.2.1 43 (ix t) := by rw [q_fx, if_pos rfl, if_neg d]
    unfold oWh at k ⊢
    rw [e1]
    exact k
theorem CWt_w40 {nx i : Nat} {L : LT3} {cd nt nw lt : Int} {ty : Nat → T6} {S S1 : mS} {v : Int32} (e : S1 = sF S 40 i v) (hi : nw ≤ i) (hw : CWt nx L cd nt nw lt S ty) : CWt nx L cd nt nw lt S1 ty := by
  subst e
  have e1 : ∀ t : Int32, 500 * nx ≤ t.toInt → t.toInt < nw → (sF S 40 i v).2.1 40 (ix t) = S.2.1 40 (ix t) := by
    intro t h1 h2
    rw [q_fx, if_pos rfl, if_neg (by unfold ix; omega)]
  refine ⟨fun q hq1 hq2 => ?_, hw.2.1, fun t ht1 ht2 => ?_, hw.2.2.2⟩
  · refine okJ_m (hw.1 q hq1 hq2) id id (fun r => ?_) id id id
    refine ⟨r.1, r.2.1, ?_⟩
    have e2 := e1 ((S.2.1 13) q) r.1 r.2.1
    show an ((S.2.1 25)) ((sF S 40 i v).2.1 40 (ix ((S.2.1 13) q))) _ ∧ _
    rw [e2]
    exact r.2.2
  have k := hw.2.2.1 t ht1 ht2
  unfold oWh at k ⊢
  rw [e1 t ht1 ht2]
  exact k
theorem CW_w40 {nx i : Nat} {L : LT3} {cd nt nw lt : Int} {u : T6} {S S1 : mS} {v : Int32} (e : S1 = sF S 40 i v) (hi : nw ≤ i) (h : CW nx L cd nt nw lt u S) : CW nx L cd nt nw lt u S1 := by
  obtain ⟨ty, hw, hu⟩ := h
  exact ⟨ty, CWt_w40 e hi hw, hu⟩
theorem CWt_w41 {nx i : Nat} {L : LT3} {cd nt nw lt : Int} {ty : Nat → T6} {S S1 : mS} {v : Int32} (e : S1 = sF S 41 i v) (hi : nw ≤ i) (hw : CWt nx L cd nt nw lt S ty) : CWt nx L cd nt nw lt S1 ty := by
  subst e
  have e1 : ∀ t : Int32, 500 * nx ≤ t.toInt → t.toInt < nw → (sF S 41 i v).2.1 41 (ix t) = S.2.1 41 (ix t) := by
    intro t h1 h2
    rw [q_fx, if_pos rfl, if_neg (by unfold ix; omega)]
  refine ⟨hw.1, hw.2.1, fun t ht1 ht2 => ?_, hw.2.2.2⟩
  have k := hw.2.2.1 t ht1 ht2
  unfold oWh at k ⊢
  rw [e1 t ht1 ht2]
  exact k
theorem CW_w41 {nx i : Nat} {L : LT3} {cd nt nw lt : Int} {u : T6} {S S1 : mS} {v : Int32} (e : S1 = sF S 41 i v) (hi : nw ≤ i) (h : CW nx L cd nt nw lt u S) : CW nx L cd nt nw lt u S1 := by
  obtain ⟨ty, hw, hu⟩ := h
  exact ⟨ty, CWt_w41 e hi hw, hu⟩
theorem CWt_w42 {nx i : Nat} {L : LT3} {cd nt nw lt : Int} {ty : Nat → T6} {S S1 : mS} {v : Int32} (e : S1 = sF S 42 i v) (hi : nw ≤ i) (hw : CWt nx L cd nt nw lt S ty) : CWt nx L cd nt nw lt S1 ty := by
  subst e
  have e1 : ∀ t : Int32, 500 * nx ≤ t.toInt → t.toInt < nw → (sF S 42 i v).2.1 42 (ix t) = S.2.1 42 (ix t) := by
    intro t h1 h2
    rw [q_fx, if_pos rfl, if_neg (by unfold ix; omega)]
  refine ⟨hw.1, hw.2.1, fun t ht1 ht2 => ?_, hw.2.2.2⟩
  have k := hw.2.2.1 t ht1 ht2
  unfold oWh at k ⊢
  rw [e1 t ht1 ht2]
  exact k
theorem CW_w42 {nx i : Nat} {L : LT3} {cd nt nw lt : Int} {u : T6} {S S1 : mS} {v : Int32} (e : S1 = sF S 42 i v) (hi : nw ≤ i) (h : CW nx L cd nt nw lt u S) : CW nx L cd nt nw lt u S1 := by
  obtain ⟨ty, hw, hu⟩ := h
  exact ⟨ty, CWt_w42 e hi hw, hu⟩
theorem CW_nw {nx : Nat} {L : LT3} {cd nt nw lt : Int} {u : T6} {S : mS} {w : Int32} (hw0 : w.toInt = nw) (h0 : 0 ≤ w.toInt) {ty : Nat → T6} (hw : CWt nx L cd nt nw lt S ty) (hu : ty cd.toNat = u) (hc : TG nx cd ty ((S.2.1 42) (ix w)) ((S.2.1 40) (ix w)) ∧ ST1 cd ((S.2.1 12)) ((S.2.1 42) (ix w))) (hd : 0 ≤ ((S.2.1 41) (ix w)).toInt ∧ dpt ((S.2.1 25)) (ix ((S.2.1 41) (ix w))) ((S.2.1 40) (ix w)) ∧ rg nx nt ((S.2.1 40) (ix w))) : CW nx ((ix w, 4, (0 : Int32)) :: L) cd nt (nw + 1) lt u S := by
  have hw' := CWt_m (L1 := (ix w, 4, (0 : Int32)) :: L) (fun _ q => List.mem_cons_of_mem _ q) (fun x q g => mem_tl q (fun e => by subst e; exact absurd (show (4 : Nat) = 0 ∨ (4 : Nat) = 6 from g) (by decide))) hw
  refine ⟨ty, ⟨fun q hq1 hq2 => okJ_m (hw'.1 q hq1 hq2) id id (fun r => ⟨r.1, by have := r.2.1; omega, r.2.2⟩) id id id, hw'.2.1, fun t ht1 ht2 => ?_, hw'.2.2.2⟩, hu⟩
  rcases Decidable.em (t.toInt < nw) with d | d
  · exact hw'.2.2.1 t ht1 d
  · have e2 : t = w := Int32.toInt_inj.mp (by omega)
    subst e2
    exact ⟨hc, hd, Or.inl (List.mem_cons_self ..)⟩
theorem CW_nt {nx : Nat} {L : LT3} {cd nt nw lt : Int} {u : T6} {S : mS} {w : Int32} (hw0 : w.toInt = nt) (h0 : 0 ≤ w.toInt) (h : CW nx L cd nt nw lt u S) : CW nx ((ix w, 1, (0 : Int32)) :: (ix w, 2, (0 : Int32)) :: (ix w, 3, (0 : Int32)) :: L) cd (nt + 1) nw lt u S := by
  have h := CW_open (p := ix w) (j := 1) (by decide) (CW_open (p := ix w) (j := 2) (by decide) (CW_open (p := ix w) (j := 3) (by decide) h))
  obtain ⟨ty, hw, hu⟩ := h
  refine ⟨ty, ⟨fun q hq1 hq2 => okJ_m (hw.1 q hq1 hq2) id id (fun r => ⟨r.1, r.2.1, r.2.2.1, rg_m (by omega) r.2.2.2⟩) (fun r => ⟨r.1, by have := r.2.1; omega, r.2.2⟩) (fun r => ⟨r.1, by have := r.2; omega⟩) (fun r => ⟨r.1, by have := r.2.1; omega, r.2.2⟩), fun t ht1 ht2 => ?_, fun w hw1 hw2 => ⟨(hw.2.2.1 w hw1 hw2).1, ⟨(hw.2.2.1 w hw1 hw2).2.1.1, (hw.2.2.1 w hw1 hw2).2.1.2.1, rg_m (by omega) (hw.2.2.1 w hw1 hw2).2.1.2.2⟩, (hw.2.2.1 w hw1 hw2).2.2⟩, hw.2.2.2⟩, hu⟩
  rcases Decidable.em (t.toInt < nt) with d | d
  · exact hw.2.1 t ht1 d
  · have e2 : t = w := Int32.toInt_inj.mp (by omega)
    subst e2
    exact ⟨Or.inl (List.mem_cons_self ..), Or.inl (List.mem_cons_of_mem _ (List.mem_cons_self ..)), Or.inl (List.mem_cons_of_mem _ (List.mem_cons_of_mem _ (List.mem_cons_self ..)))⟩
theorem dpt_up {tt tt1 : Nat → Int32} {b nt : Int} (hc : ∀ t : Nat, b ≤ t → (t : Int) < nt → (tt t).toInt = -1 ∨ (b ≤ (tt t).toInt ∧ (tt t).toInt < t)) (he : ∀ t : Nat, b ≤ t → (t : Int) < nt → tt1 t = tt t) (hb : 0 ≤ b) : ∀ (n : Nat) (t : Int32), (t.toInt < 0 ∨ (b ≤ t.toInt ∧ t.toInt < nt)) → dpt tt n t → dpt tt1 n t := by
  intro n
  induction n with
  | zero => exact fun _ _ h => h
  | succ n ih =>
    intro t hr h
    have h0 : 0 ≤ t.toInt := h.1
    have hi : ((ix t : Nat) : Int) = t.toInt := by unfold ix; omega
    have e := he (ix t) (by omega) (by omega)
    have c := hc (ix t) (by omega) (by omega)
    refine ⟨h0, ?_⟩
    rw [e]
    exact ih _ (by omega) h.2
theorem chn_up {tt tt1 : Nat → Int32} {b nt : Int} (hc : ∀ t : Nat, b ≤ t → (t : Int) < nt → (tt t).toInt = -1 ∨ (b ≤ (tt t).toInt ∧ (tt t).toInt < t)) (he : ∀ t : Nat, b ≤ t → (t : Int) < nt → tt1 t = tt t) (hb : 0 ≤ b) : ∀ (n : Nat) (t : Int32), (t.toInt < 0 ∨ (b ≤ t.toInt ∧ t.toInt < nt)) → chn tt1 n t = chn tt n t := by
  intro n
  induction n with
  | zero => exact fun _ _ => rfl
  | succ n ih =>
    intro t hr
    unfold chn
    rcases Decidable.em (t.toInt < 0) with d | d
    · rw [if_pos d, if_pos d]
    · rw [if_neg d, if_neg d]
      have hi : ((ix t : Nat) : Int) = t.toInt := by unfold ix; omega
      have e := he (ix t) (by omega) (by omega)
      have c := hc (ix t) (by omega) (by omega)
      rw [e]
      exact ih _ (by omega)
theorem CW_w25 {nx i : Nat} {L : LT3} {cd nt nw lt : Int} {u : T6} {S S1 : mS} {v : Int32} (e : S1 = sF S 25 i v) (hi : nt ≤ i) (hc : ∀ t : Nat, ((500 * nx : Nat) : Int) ≤ t → (t : Int) < nt → ((S.2.1 25) t).toInt = -1 ∨ (((500 * nx : Nat) : Int) ≤ ((S.2.1 25) t).toInt ∧ ((S.2.1 25) t).toInt < t)) (h : CW nx L cd nt nw lt u S) : CW nx L cd nt nw lt u S1 := by
  obtain ⟨ty, hw, hu⟩ := h
  subst e
  have he : ∀ t : Nat, ((500 * nx : Nat) : Int) ≤ t → (t : Int) < nt → (sF S 25 i v).2.1 25 t = S.2.1 25 t := by
    intro t h1 h2
    rw [q_fx, if_pos rfl, if_neg (by omega)]
  have hd := dpt_up hc he (by omega)
  have hn := chn_up hc he (by omega)
  have hx : ∀ t : Int32, 500 * nx ≤ t.toInt → t.toInt < nt → ((ix t : Nat) : Int) = t.toInt := by intro t _ _; unfold ix; omega
  refine ⟨ty, ⟨fun q hq1 hq2 => ?_, fun t ht1 ht2 => ?_, fun w hw1 hw2 => ?_, hw.2.2.2⟩, hu⟩
  · refine okJ_m (hw.1 q hq1 hq2) id id (fun r => ?_) (fun r => ?_) id id
    · obtain ⟨r1, r2, ⟨j, r3⟩, r4⟩ := r
      refine ⟨r1, r2, ⟨j, ?_⟩, r4⟩
      rw [hn j _ (by rcases r4 with q | q <;> omega)]
      exact r3
    · obtain ⟨r1, r2, r3, n, r4, r5⟩ := r
      have a := hx _ r1 r2
      have c := hc (ix ((S.2.1 13) q)) (by omega) (by omega)
      refine ⟨r1, r2, ?_, n, r4, hd n _ (by rw [← r3]; omega) r5⟩
      exact (he (ix ((S.2.1 13) q)) (by omega) (by omega)).trans r3
  · have k := hw.2.1 t ht1 ht2
    have a := hx _ ht1 ht2
    have e1 := he (ix t) (by omega) (by omega)
    unfold oTr at k ⊢
    rw [e1]
    exact k
  · have k := hw.2.2.1 w hw1 hw2
    refine ⟨k.1, ⟨k.2.1.1, hd _ _ ?_ k.2.1.2.1, k.2.1.2.2⟩, k.2.2⟩
    have r := k.2.1.2.2
    show ((S.2.1 40) (ix w)).toInt < 0 ∨ (((500 * nx : Nat) : Int) ≤ ((S.2.1 40) (ix w)).toInt ∧ ((S.2.1 40) (ix w)).toInt < nt)
    rcases r with q | q <;> omega
/-- ways of acts -/
def WY (nx : Nat) (na : Int) (v : Int32) : Prop := v.toInt = -1 ∨ (12000 * nx ≤ v.toInt ∧ v.toInt < na)
def AC (nx : Nat) (na nt nw : Int) (S : mS) (a : Nat) : Prop := WY nx na ((S.2.1 17) a) ∧ WY nx na ((S.2.1 18) a) ∧ (((S.2.1 19) a).toInt = -1 ∨ (500 * nx ≤ ((S.2.1 19) a).toInt ∧ ((S.2.1 19) a).toInt < nt)) ∧ ((S.2.1 15) a = 8 ∨ (S.2.1 15) a = 9 → 500 * nx ≤ ((S.2.1 16) a).toInt ∧ ((S.2.1 16) a).toInt < nw) ∧ ((S.2.1 15) a = 7 → 500 * nx ≤ ((S.2.1 16) a).toInt ∧ ((S.2.1 16) a).toInt < nt)
def AT (nx : Nat) (na nt nw : Int) (S : mS) (t : Nat) : Prop := (((S.2.1 25) t).toInt = -1 ∨ (500 * nx ≤ ((S.2.1 25) t).toInt ∧ ((S.2.1 25) t).toInt < t)) ∧ (12000 * nx ≤ ((S.2.1 35) t).toInt ∧ ((S.2.1 35) t).toInt < na) ∧ (12000 * nx ≤ ((S.2.1 36) t).toInt ∧ ((S.2.1 36) t).toInt < na) ∧ (¬ (S.2.1 28) t = 0 → 12000 * nx ≤ ((S.2.1 34) t).toInt ∧ ((S.2.1 34) t).toInt < na) ∧ (¬ (S.2.1 37) t = 0 ∨ ¬ (S.2.1 38) t = 0 → 0 ≤ ((S.2.1 27) t).toInt) ∧ (0 ≤ ((S.2.1 27) t).toInt → 500 * nx ≤ ((S.2.1 27) t).toInt ∧ ((S.2.1 27) t).toInt < nw ∧ ((S.2.1 25) t = (S.2.1 40) (ix ((S.2.1 27) t)) ∨ (0 ≤ ((S.2.1 25) t).toInt ∧ (S.2.1 27) (ix ((S.2.1 25) t)) = (S.2.1 27) t)))
def AL (nx : Nat) (na : Int) (S : mS) (w : Nat) : Prop := (12000 * nx ≤ ((S.2.1 44) w).toInt ∧ ((S.2.1 44) w).toInt < na) ∧ (12000 * nx ≤ ((S.2.1 45) w).toInt ∧ ((S.2.1 45) w).toInt < na)
def AW (nx : Nat) (na nt nw : Int) (S : mS) : Prop := (∀ a : Nat, 12000 * nx ≤ a → (a : Int) < na → AC nx na nt nw S a) ∧ (∀ t : Nat, 500 * nx ≤ t → (t : Int) < nt → AT nx na nt nw S t) ∧ (∀ w : Nat, 500 * nx ≤ w → (w : Int) < nw → AL nx na S w)
/-- nothing of the code's typing is touched -/
def NC (S S1 : mS) : Prop := CA S S1 ∧ (S1.1 7) = (S.1 7) ∧ (S1.1 11) = (S.1 11) ∧ ((S1.1 4) = 0 → (S.1 4) = 0)
theorem CF_nc {nx : Nat} {L : LT3} {nt nw h c i r o : Int} {tr : Int32} {S S1 : mS} (e : NC S S1) (q : CF nx L nt nw h c i r o tr S) : CF nx L nt nw h c i r o tr S1 := CF_ca e.1 e.2.1 e.2.2.1 e.2.2.2 q
theorem CS_nc {nx : Nat} {L : LT3} {nt nw : Int} {tr : Int32} {S S1 : mS} (e : NC S S1) (q : CS nx L nt nw tr S) : CS nx L nt nw tr S1 := CS_ca e.1 e.2.1 e.2.2.1 e.2.2.2 q
theorem CD_nc {nx : Nat} {L : LT3} {nt nw : Int} {S S1 : mS} (e : NC S S1) (q : CD nx L nt nw S) : CD nx L nt nw S1 := CD_ca e.1 e.2.1 e.2.2.1 e.2.2.2 q
theorem NC_z {S S1 : mS} {k : Nat} {v : Int32} (e : S1 = sZ S k v) (hk : 7 ≠ k ∧ 11 ≠ k ∧ 4 ≠ k) : NC S S1 := by
  subst e
  refine ⟨fun _ _ => rfl, ?_, ?_, ?_⟩
  · show upd S.1 k v 7 = S.1 7
    unfold upd; rw [if_neg hk.1]
  · show upd S.1 k v 11 = S.1 11
    unfold upd; rw [if_neg hk.2.1]
  · show upd S.1 k v 4 = 0 → S.1 4 = 0
    unfold upd; rw [if_neg hk.2.2]; exact id
theorem NC_f {S S1 : mS} {k i : Nat} {v : Int32} (e : S1 = sF S k i v) (hk : k ∉ AR9) : NC S S1 := by
  subst e
  refine ⟨fun j hj => ?_, rfl, rfl, id⟩
  show upF S.2.1 k _ j = S.2.1 j
  unfold upF
  rw [if_neg (fun h : j = k => hk (h ▸ hj))]
theorem NC_g {S S1 : mS} {k i : Nat} {v : Int64} (e : S1 = sG S k i v) : NC S S1 := by
  subst e
  exact ⟨fun _ _ => rfl, rfl, rfl, id⟩
theorem NC_fr {zs fs gs : List Nat} {S S1 : mS} (hF : Fr zs fs gs S S1) (h1 : 7 ∉ zs ∧ 11 ∉ zs) (h2 : ∀ k, k ∈ AR9 → k ∉ fs) (hf : (S1.1 4) = 0 → (S.1 4) = 0) : NC S S1 := ⟨fun k hk => hF.2.1 k (h2 k hk), hF.1 7 h1.1, hF.1 11 h1.2, hf⟩
abbrev AA9 : List Nat := [10, 15, 16, 17, 18, 19, 22, 23, 24, 25, 27, 28, 34, 35, 36, 37, 38, 40, 44, 45]
/-- a routine's acts: its first, its end, its m first waits -/
def RT (nx : Nat) (na m : Int) (S : mS) (r : Nat) : Prop := (12000 * nx ≤ ((S.2.1 22) r).toInt ∧ ((S.2.1 22) r).toInt < na) ∧ (12000 * nx ≤ ((S.2.1 23) r).toInt ∧ ((S.2.1 23) r).toInt < na) ∧ ∀ k : Nat, (k : Int) < m → 12000 * nx ≤ ((S.2.1 24) (17 * r + k)).toInt ∧ ((S.2.1 24) (17 * r + k)).toInt < na
def AG (nx : Nat) (na m o : Int) (S : mS) : Prop := (∀ r : Nat, 12 * nx ≤ r → (r : Int) < o → RT nx na ((S.2.1 10) r).toInt S r ∧ ((S.2.1 10) r).toInt ≤ 16) ∧ (0 ≤ m → RT nx na m S o.toNat)
/-- the acts hold together; m waits of the open routine are noted -/
def AF (nx : Nat) (m : Int) (S : mS) : Prop := ((S.1 13).toInt = -1 ∨ (500 * nx ≤ (S.1 13).toInt ∧ (S.1 13).toInt < (S.1 9).toInt)) ∧ ((S.1 4) = 0 → (S.1 19).toInt = -1 ∨ (12000 * nx ≤ (S.1 19).toInt ∧ (S.1 19).toInt < (S.1 8).toInt)) ∧ 12000 * nx ≤ (S.1 8).toInt ∧ ((S.1 4) = 0 → AW nx (S.1 8).toInt (S.1 9).toInt (S.1 10).toInt S ∧ AG nx (S.1 8).toInt m (S.1 12).toInt S)
def NA (S S1 : mS) : Prop := (∀ k, k ∈ AA9 → S1.2.1 k = S.2.1 k) ∧ (∀ k, k ∈ [8, 9, 10, 12, 13, 19] → S1.1 k = S.1 k) ∧ ((S1.1 4) = 0 → (S.1 4) = 0)
theorem AW_aa9 {nx : Nat} {na nt nw : Int} {j : Nat} {S S1 : mS} (e : ∀ k, ¬ k = j → S1.2.1 k = S.2.1 k) (hj : j = 10 ∨ j = 22 ∨ j = 23 ∨ j = 24) (h : AW nx na nt nw S) : AW nx na nt nw S1 := by
  have e15 : S1.2.1 15 = S.2.1 15 := e 15 (by omega)
  have e16 : S1.2.1 16 = S.2.1 16 := e 16 (by omega)
  have e17 : S1.2.1 17 = S.2.1 17 := e 17 (by omega)
  have e18 : S1.2.1 18 = S.2.1 18 := e 18 (by omega)
  have e19 : S1.2.1 19 = S.2.1 19 := e 19 (by omega)
  have e25 : S1.2.1 25 = S.2.1 25 := e 25 (by omega)
  have e27 : S1.2.1 27 = S.2.1 27 := e 27 (by omega)
  have e28 : S1.2.1 28 = S.2.1 28 := e 28 (by omega)
  have e34 : S1.2.1 34 = S.2.1 34 := e 34 (by omega)
  have e35 : S1.2.1 35 = S.2.1 35 := e 35 (by omega)
  have e36 : S1.2.1 36 = S.2.1 36 := e 36 (by omega)
  have e37 : S1.2.1 37 = S.2.1 37 := e 37 (by omega)
  have e38 : S1.2.1 38 = S.2.1 38 := e 38 (by omega)
  have e40 : S1.2.1 40 = S.2.1 40 := e 40 (by omega)
  have e44 : S1.2.1 44 = S.2.1 44 := e 44 (by omega)
  have e45 : S1.2.1 45 = S.2.1 45 := e 45 (by omega)
  unfold AW AC AT AL at h ⊢
  rw [e15, e16, e17, e18, e19, e25, e27, e28, e34, e35, e36, e37, e38, e40, e44, e45]
  exact h
theorem AW_aa {nx : Nat} {na nt nw : Int} {S S1 : mS} (e : ∀ k, k ∈ AA9 → S1.2.1 k = S.2.1 k) (h : AW nx na nt nw S) : AW nx na nt nw S1 := by
  have e10 : S1.2.1 10 = S.2.1 10 := e 10 (by decide)
  have e15 : S1.2.1 15 = S.2.1 15 := e 15 (by decide)
  have e16 : S1.2.1 16 = S.2.1 16 := e 16 (by decide)
  have e17 : S1.2.1 17 = S.2.1 17 := e 17 (by decide)
  have e18 : S1.2.1 18 = S.2.1 18 := e 18 (by decide)
  have e19 : S1.2.1 19 = S.2.1 19 := e 19 (by decide)
  have e22 : S1.2.1 22 = S.2.1 22 := e 22 (by decide)
  have e23 : S1.2.1 23 = S.2.1 23 := e 23 (by decide)
  have e24 : S1.2.1 24 = S.2.1 24 := e 24 (by decide)
  have e25 : S1.2.1 25 = S.2.1 25 := e 25 (by decide)
  have e27 : S1.2.1 27 = S.2.1 27 := e 27 (by decide)
  have e28 : S1.2.1 28 = S.2.1 28 := e 28 (by decide)
  have e34 : S1.2.1 34 = S.2.1 34 := e 34 (by decide)
  have e35 : S1.2.1 35 = S.2.1 35 := e 35 (by decide)
  have e36 : S1.2.1 36 = S.2.1 36 := e 36 (by decide)
  have e37 : S1.2.1 37 = S.2.1 37 := e 37 (by decide)
  have e38 : S1.2.1 38 = S.2.1 38 := e 38 (by decide)
  have e40 : S1.2.1 40 = S.2.1 40 := e 40 (by decide)
  have e44 : S1.2.1 44 = S.2.1 44 := e 44 (by decide)
  have e45 : S1.2.1 45 = S.2.1 45 := e 45 (by decide)
  unfold AW AC AT AL at h ⊢
  rw [e15, e16, e17, e18, e19, e25, e27, e28, e34, e35, e36, e37, e38, e40, e44, e45]
  exact h
theorem AG_4 {nx : Nat} {na m o : Int} {S S1 : mS} (e10 : S1.2.1 10 = S.2.1 10) (e22 : S1.2.1 22 = S.2.1 22) (e23 : S1.2.1 23 = S.2.1 23) (e24 : S1.2.1 24 = S.2.1 24) (h : AG nx na m o S) : AG nx na m o S1 := by
  unfold AG RT at h ⊢
  rw [e10, e22, e23, e24]
  exact h
theorem AG_aa {nx : Nat} {na m o : Int} {S S1 : mS} (e : ∀ k, k ∈ AA9 → S1.2.1 k = S.2.1 k) (h : AG nx na m o S) : AG nx na m o S1 := AG_4 (e 10 (by decide)) (e 22 (by decide)) (e 23 (by decide)) (e 24 (by decide)) h
theorem AF_na {nx : Nat} {m : Int} {S S1 : mS} (e : NA S S1) (h : AF nx m S) : AF nx m S1 := by
  obtain ⟨e1, e2, e3⟩ := e
  have e8 := e2 8 (by decide)
  have e9 := e2 9 (by decide)
  have e10 := e2 10 (by decide)
  have e12 := e2 12 (by decide)
  have e13 := e2 13 (by decide)
  have e19 := e2 19 (by decide)
  unfold AF at h ⊢
  rw [e8, e9, e10, e12, e13, e19]
  exact ⟨h.1, fun hf => h.2.1 (e3 hf), h.2.2.1, fun hf => ⟨AW_aa e1 (h.2.2.2 (e3 hf)).1, AG_aa e1 (h.2.2.2 (e3 hf)).2⟩⟩
theorem NA_z {S S1 : mS} {k : Nat} {v : Int32} (e : S1 = sZ S k v) (hk : k ∉ [4, 8, 9, 10, 12, 13, 19]) : NA S S1 := by
  subst e
  refine ⟨fun _ _ => rfl, fun j hj => ?_, ?_⟩
  · show upd S.1 k v j = S.1 j
    unfold upd; rw [if_neg (fun h : j = k => hk (h ▸ List.mem_cons_of_mem _ hj))]
  · show upd S.1 k v 4 = 0 → S.1 4 = 0
    unfold upd; rw [if_neg (fun h : 4 = k => hk (h ▸ List.mem_cons_self ..))]; exact id
theorem NA_f {S S1 : mS} {k i : Nat} {v : Int32} (e : S1 = sF S k i v) (hk : k ∉ AA9) : NA S S1 := by
  subst e
  refine ⟨fun j hj => ?_, fun _ _ => rfl, id⟩
  show upF S.2.1 k _ j = S.2.1 j
  unfold upF
  rw [if_neg (fun h : j = k => hk (h ▸ hj))]
theorem NA_g {S S1 : mS} {k i : Nat} {v : Int64} (e : S1 = sG S k i v) : NA S S1 := by
  subst e
  exact ⟨fun _ _ => rfl, fun _ _ => rfl, id⟩
theorem NA_fr {zs fs gs : List Nat} {S S1 : mS} (hF : Fr zs fs gs S S1) (h1 : ∀ k, k ∈ [8, 9, 10, 12, 13, 19] → k ∉ zs) (h2 : ∀ k, k ∈ AA9 → k ∉ fs) (hf : (S1.1 4) = 0 → (S.1 4) = 0) : NA S S1 := ⟨fun k hk => hF.2.1 k (h2 k hk), fun k hk => hF.1 k (h1 k hk), hf⟩
/-- the other half stays -/
def NO (nx : Nat) (S S1 : mS) : Prop := ∀ S0, OH nx S0 S → OH nx S0 S1
theorem OH_no {nx : Nat} {S0 S S1 : mS} (e : NO nx S S1) (h : OH nx S0 S) : OH nx S0 S1 := e S0 h
theorem NO_rf {nx : Nat} {S : mS} : NO nx S S := fun _ h => h
theorem NO_tr {nx : Nat} {S S1 S2 : mS} (h : NO nx S S1) (k : NO nx S1 S2) : NO nx S S2 := fun S0 q => k S0 (h S0 q)
theorem NO_z {nx : Nat} {S S1 : mS} {k : Nat} {v : Int32} (e : S1 = sZ S k v) : NO nx S S1 := by subst e; exact fun _ h => h
theorem NO_f {nx : Nat} {S S1 : mS} {k i : Nat} {v : Int32} (e : S1 = sF S k i v) (hn : ¬ HH nx k i) : NO nx S S1 := by
  subst e
  intro S0 h
  refine ⟨fun j x hx => ?_, h.2⟩
  show upF S.2.1 k (upd (S.2.1 k) i v) j x = _
  unfold upF upd
  rcases Decidable.em (j = k) with d | d
  · rw [if_pos d]
    rcases Decidable.em (x = i) with d2 | d2
    · subst d d2; exact absurd hx hn
    · show (if x = i then v else S.2.1 k x) = _
      rw [if_neg d2, ← d]; exact h.1 j x hx
  · rw [if_neg d]; exact h.1 j x hx
theorem NO_g {nx : Nat} {S S1 : mS} {k i : Nat} {v : Int64} (e : S1 = sG S k i v) (hn : ¬ HL nx k i) : NO nx S S1 := by
  subst e
  intro S0 h
  refine ⟨h.1, fun j x hx => ?_⟩
  show upG S.2.2 k (vp_updL (S.2.2 k) i v) j x = _
  unfold upG vp_updL
  rcases Decidable.em (j = k) with d | d
  · rw [if_pos d]
    rcases Decidable.em (x = i) with d2 | d2
    · subst d d2; exact absurd hx hn
    · show (if x = i then v else S.2.2 k x) = _
      rw [if_neg d2, ← d]; exact h.2 j x hx
  · rw [if_neg d]; exact h.2 j x hx
abbrev HA9 : List Nat := [12, 13, 14, 15, 16, 17, 18, 19, 20, 21, 7, 8, 10, 11, 22, 23, 24, 25, 26, 27, 28, 29, 30, 31, 32, 33, 34, 35, 36, 37, 38, 39, 40, 41, 42, 43, 44, 45, 5]
theorem HH_in {nx k i : Nat} (h : HH nx k i) : k ∈ HA9 := by
  unfold HH at h
  simp only [HA9, List.mem_cons, List.not_mem_nil]
  omega
theorem HL_in {nx k i : Nat} (h : HL nx k i) : k ∈ [6, 9] := by
  unfold HL at h
  simp only [List.mem_cons, List.not_mem_nil]
  omega
theorem nH_n {nx k i : Nat} (h : k ∉ HA9) : ¬ HH nx k i := fun q => h (HH_in q)
theorem nL_n {nx k i : Nat} (h : k ∉ [6, 9]) : ¬ HL nx k i := fun q => h (HL_in q)
theorem nH_c {nx k : Nat} {x : Int32} (hk : 12 ≤ k ∧ k ≤ 21) (h : 12000 * nx ≤ x.toInt ∧ x.toInt < 12000 * nx + 12000) : ¬ HH nx k (ix x) := by unfold HH ix; omega
theorem nH_t {nx k : Nat} {x : Int32} (hk : 25 ≤ k ∧ k ≤ 45) (h : 500 * nx ≤ x.toInt ∧ x.toInt < 500 * nx + 500) : ¬ HH nx k (ix x) := by unfold HH ix; omega
theorem nH_r {nx k : Nat} {x : Int32} (hk : k = 7 ∨ k = 8 ∨ k = 10 ∨ k = 11 ∨ k = 22 ∨ k = 23) (h : 12 * nx ≤ x.toInt ∧ x.toInt < 12 * nx + 12) : ¬ HH nx k (ix x) := by unfold HH ix; omega
theorem nH_w {nx : Nat} {x : Int32} (h : 204 * nx ≤ x.toInt ∧ x.toInt < 204 * nx + 204) : ¬ HH nx 24 (ix x) := by unfold HH ix; omega
theorem nH_5 {nx : Nat} {x : Int32} (h : x.toInt = nx) : ¬ HH nx 5 (ix x) := by unfold HH ix; omega
theorem nL_6 {nx : Nat} {x : Int32} (h : 12 * nx ≤ x.toInt ∧ x.toInt < 12 * nx + 12) : ¬ HL nx 6 (ix x) := by unfold HL ix; omega
theorem nL_9 {nx : Nat} {x : Int32} (h : 144 * nx ≤ x.toInt ∧ x.toInt < 144 * nx + 144) : ¬ HL nx 9 (ix x) := by unfold HL ix; omega
theorem NO_fr {nx : Nat} {zs fs gs : List Nat} {S S1 : mS} (hF : Fr zs fs gs S S1) (h1 : ∀ k, k ∈ HA9 → k ∉ fs) (h2 : ∀ k, k ∈ [6, 9] → k ∉ gs) : NO nx S S1 := by
  intro S0 h
  refine ⟨fun k i hi => ?_, fun k i hi => ?_⟩
  · rw [hF.2.1 k (h1 k (HH_in hi))]; exact h.1 k i hi
  · rw [hF.2.2 k (h2 k (HL_in hi))]; exact h.2 k i hi
theorem CS_sw {nx : Nat} {x y : Nat × Nat × Int32} {L : LT3} {nt nw : Int} {tr : Int32} {S : mS} (h : CS nx (x :: y :: L) nt nw tr S) : CS nx (y :: x :: L) nt nw tr S := fun hf => CW_sw (h hf)
theorem CS_patch {nx : Nat} {L : LT3} {nt nw : Int} {tr : Int32} {S S1 : mS} {p : Nat} (e : S1 = sF S 13 p (S.1 7)) (h0 : 12000 * nx ≤ (S.1 7).toInt) (h : CS nx ((p, 0, tr) :: L) nt nw tr S) : CS nx L nt nw tr S1 := fun hf => by
  have q := CW_patch e h0 (h (by rw [e] at hf; exact hf))
  rw [e] at q ⊢
  exact q
theorem CS_two {nx p : Nat} {L : LT3} {nt nw : Int} {tr a b v : Int32} {S S1 S2 S3 : mS} (hE : EN nx 30 a b S S1) (e2 : S2 = sF S1 13 p v) (e3 : S3 = sF S2 14 (ix (S.1 7)) b) (h : CS nx L nt nw tr S2) : CS nx L nt nw tr S3 := by
  have e : S3 = S2 := by
    have k : S2.2.1 14 (ix (S.1 7)) = b := by
      rw [e2, hE.2.2]
      show upd _ _ b _ = b
      unfold upd
      rw [if_pos rfl]
    rw [e3]
    apply Prod.ext
    · rfl
    apply Prod.ext
    · funext j x
      rw [q_fx]
      rcases Decidable.em (j = 14) with d | d
      · rw [if_pos d]
        rcases Decidable.em (x = ix (S.1 7)) with d2 | d2
        · rw [if_pos d2, d, d2, k]
        · rw [if_neg d2, d]
      · rw [if_neg d]
    · rfl
  rw [e]
  exact h
theorem CF_late {nx : Nat} {L : LT3} {nt nw h c i r o : Int} {tr z v x0 : Int32} {S S1 Sa Sb Sc Sd : mS} {k0 : Nat} (hE : EN nx 27 0 v S S1) (ea : Sa = sF S1 46 k0 x0) (eb : Sb = sF Sa 47 (ix (Sa.1 11)) v) (ec : Sc = sF Sb 48 (ix (Sb.1 11)) (S.1 7)) (ez : z = (Sc.1 11) + 1) (ed : Sd = sZ Sc 11 z) (hl : 0 ≤ (S1.1 11).toInt ∧ (S1.1 11).toInt < 1000) (q : CF nx ((ix (S.1 7), 5, (0 : Int32)) :: L) nt nw h c i r o tr S1) : CF nx L nt nw h c i r o tr Sd := fun hf => by
  obtain ⟨h0, h1, hE⟩ := hE
  have hf1 : (S1.1 4) = 0 := by rw [ed, ec, eb, ea] at hf; exact hf
  obtain ⟨e9, c9, a1, a2, a3⟩ := q hf1
  have l1 : (Sa.1 11) = (S1.1 11) := by rw [ea]; rfl
  have l2 : (Sb.1 11) = (S1.1 11) := by rw [eb]; exact l1
  have l3 : (Sc.1 11) = (S1.1 11) := by rw [ec]; exact l2
  have q1 : (1 : Int32).toInt = 1 := rfl
  have l4 := w_add ez (by rw [l3, q1]; omega)
  rw [l3, q1] at l4
  have ld : (Sd.1 11) = z := by rw [ed]; rfl
  have cd : (Sd.1 7) = (S1.1 7) := by rw [ed, ec, eb, ea]; rfl
  refine ⟨e9, c9, a1, a2, ?_⟩
  rw [cd, ld, l4]
  have hs0 : ((ix (S.1 7) : Nat) : Int) = (S.1 7).toInt := by unfold ix; omega
  have m12 : (S1.2.1 12) (ix (S.1 7)) = 27 := by
    rw [hE]; show upd _ _ 27 _ = 27; unfold upd; rw [if_pos rfl]
  have m14 : (S1.2.1 14) (ix (S.1 7)) = v := by
    rw [hE]; show upd _ _ v _ = v; unfold upd; rw [if_pos rfl]
  have a4 : CW nx ((ix (S.1 7), 5, (0 : Int32)) :: L) (S1.1 7).toInt nt nw (Sa.1 11).toInt (h, e9, i, c9, o, tr) Sa := by
    rw [l1]; exact CW_ca (NC_f ea (by decide)).1 a3
  rw [l1] at eb
  rw [l2] at ec
  have a5 := CW_late (S1 := Sd) (v := v) (c := (S.1 7)) a4 (by rw [l1]; exact hl.1) (by rw [l1, ed, ec, eb]; rfl) ⟨by omega, by omega, by omega⟩ (by rw [ea]; exact m12) (by rw [ea]; exact m14)
  rw [l1] at a5
  exact a5
theorem WY_m {nx : Nat} {a b : Int} {v : Int32} (h : a ≤ b) (q : WY nx a v) : WY nx b v := q.elim Or.inl (fun r => Or.inr ⟨r.1, by have := r.2; omega⟩)
theorem AC_m {nx a : Nat} {na na1 nt nt1 nw nw1 : Int} {S : mS} (h1 : na ≤ na1) (h2 : nt ≤ nt1) (h3 : nw ≤ nw1) (q : AC nx na nt nw S a) : AC nx na1 nt1 nw1 S a := ⟨WY_m h1 q.1, WY_m h1 q.2.1, q.2.2.1.elim Or.inl (fun r => Or.inr ⟨r.1, by have := r.2; omega⟩), fun g => ⟨(q.2.2.2.1 g).1, by have := (q.2.2.2.1 g).2; omega⟩, fun g => ⟨(q.2.2.2.2 g).1, by have := (q.2.2.2.2 g).2; omega⟩⟩
theorem AT_m {nx t : Nat} {na na1 nt nt1 nw nw1 : Int} {S : mS} (h1 : na ≤ na1) (h3 : nw ≤ nw1) (q : AT nx na nt nw S t) : AT nx na1 nt1 nw1 S t := ⟨q.1, ⟨q.2.1.1, by have := q.2.1.2; omega⟩, ⟨q.2.2.1.1, by have := q.2.2.1.2; omega⟩, fun g => ⟨(q.2.2.2.1 g).1, by have := (q.2.2.2.1 g).2; omega⟩, q.2.2.2.2.1, fun g => ⟨(q.2.2.2.2.2 g).1, by have := (q.2.2.2.2.2 g).2.1; omega, (q.2.2.2.2.2 g).2.2⟩⟩
theorem AL_m {nx w : Nat} {na na1 : Int} {S : mS} (h1 : na ≤ na1) (q : AL nx na S w) : AL nx na1 S w := ⟨⟨q.1.1, by have := q.1.2; omega⟩, ⟨q.2.1, by have := q.2.2; omega⟩⟩
theorem AW_act {nx : Nat} {na nt nw : Int} {a b : Int32} {S : mS} (h : AW nx na nt nw S) (hn : (S.1 8).toInt = na) (h0 : 0 ≤ na) (hp : (S.1 13).toInt = -1 ∨ (500 * nx ≤ (S.1 13).toInt ∧ (S.1 13).toInt < nt)) (h8 : a = 8 ∨ a = 9 → 500 * nx ≤ b.toInt ∧ b.toInt < nw) (h7 : a = 7 → 500 * nx ≤ b.toInt ∧ b.toInt < nt) : AW nx (na + 1) nt nw (actS S a b) := by
  have hi : ((ix (S.1 8) : Nat) : Int) = na := by unfold ix; omega
  refine ⟨fun q h1 h2 => ?_, fun t h1 h2 => AT_m (nt := nt) (nt1 := nt) (by omega) (by omega) (h.2.1 t h1 h2), fun w h1 h2 => AL_m (by omega) (h.2.2 w h1 h2)⟩
  show WY nx (na + 1) (upd ((S.2.1 17)) (ix (S.1 8)) (-1) q) ∧ WY nx (na + 1) (upd ((S.2.1 18)) (ix (S.1 8)) (-1) q) ∧ ((upd ((S.2.1 19)) (ix (S.1 8)) (S.1 13) q).toInt = -1 ∨ (500 * nx ≤ (upd ((S.2.1 19)) (ix (S.1 8)) (S.1 13) q).toInt ∧ (upd ((S.2.1 19)) (ix (S.1 8)) (S.1 13) q).toInt < nt)) ∧ (upd ((S.2.1 15)) (ix (S.1 8)) a q = 8 ∨ upd ((S.2.1 15)) (ix (S.1 8)) a q = 9 → 500 * nx ≤ (upd ((S.2.1 16)) (ix (S.1 8)) b q).toInt ∧ (upd ((S.2.1 16)) (ix (S.1 8)) b q).toInt < nw) ∧ (upd ((S.2.1 15)) (ix (S.1 8)) a q = 7 → 500 * nx ≤ (upd ((S.2.1 16)) (ix (S.1 8)) b q).toInt ∧ (upd ((S.2.1 16)) (ix (S.1 8)) b q).toInt < nt)
  unfold upd
  rcases Decidable.em (q = ix (S.1 8)) with d | d
  · simp only [if_pos d]
    exact ⟨Or.inl (by decide), Or.inl (by decide), hp, h8, h7⟩
  · simp only [if_neg d]
    exact AC_m (by omega) (Int.le_refl _) (Int.le_refl _) (h.1 q h1 (by omega))
theorem AW_lead {nx k i : Nat} {na nt nw : Int} {v : Int32} {S S1 : mS} (hk : k = 17 ∨ k = 18) (e : S1 = sF S k i v) (hv : 12000 * nx ≤ v.toInt ∧ v.toInt < na) (h : AW nx na nt nw S) : AW nx na nt nw S1 := by
  rcases hk with rfl | rfl
  · subst e
    refine ⟨fun q h1 h2 => ?_, h.2.1, h.2.2⟩
    have c := h.1 q h1 h2
    refine ⟨?_, c.2⟩
    show WY nx na (upd ((S.2.1 17)) i v q)
    unfold upd
    split
    · exact Or.inr hv
    · exact c.1
  · subst e
    refine ⟨fun q h1 h2 => ?_, h.2.1, h.2.2⟩
    have c := h.1 q h1 h2
    refine ⟨c.1, ?_, c.2.2⟩
    show WY nx na (upd ((S.2.1 18)) i v q)
    unfold upd
    split
    · exact Or.inr hv
    · exact c.2.1
def AQ (nx : Nat) (S : mS) (a b : Int32) : Prop := (S.1 4) = 0 → (a = 8 ∨ a = 9 → 500 * nx ≤ b.toInt ∧ b.toInt < (S.1 10).toInt) ∧ (a = 7 → 500 * nx ≤ b.toInt ∧ b.toInt < (S.1 9).toInt)
theorem AQ_o {nx : Nat} {S : mS} {a b : Int32} (h7 : ¬ a = 7) (h8 : ¬ a = 8) (h9 : ¬ a = 9) : AQ nx S a b := fun _ => ⟨fun q => q.elim (fun r => absurd r h8) (fun r => absurd r h9), fun q => absurd q h7⟩
theorem AQ_w {nx : Nat} {S : mS} {a b : Int32} (h7 : ¬ a = 7) (h : (S.1 4) = 0 → 500 * nx ≤ b.toInt ∧ b.toInt < (S.1 10).toInt) : AQ nx S a b := fun hf => ⟨fun _ => h hf, fun q => absurd q h7⟩
theorem AQ_t {nx : Nat} {S : mS} {b : Int32} (h : 500 * nx ≤ b.toInt ∧ b.toInt < (S.1 9).toInt) : AQ nx S 7 b := fun hf => ⟨fun q => q.elim (fun r => absurd r (by decide)) (fun r => absurd r (by decide)), fun _ => h⟩
def AV (nx : Nat) (S : mS) (v : Int32) : Prop := (S.1 4) = 0 → 12000 * nx ≤ v.toInt ∧ v.toInt < (S.1 8).toInt
theorem AV_i {nx : Nat} {S : mS} {v : Int32} (h1 : 12000 * nx ≤ v.toInt) (h2 : v.toInt < (S.1 8).toInt) : AV nx S v := fun _ => ⟨h1, h2⟩
theorem AV_nf {nx : Nat} {S : mS} {v : Int32} (h1 : ¬ (S.1 4) = 0) : AV nx S v := fun q => absurd q h1
theorem AV_m {nx : Nat} {S S1 : mS} {v : Int32} (h : AV nx S v) (hf : (S1.1 4) = 0 → (S.1 4) = 0) (ha : (S.1 8).toInt ≤ (S1.1 8).toInt) : AV nx S1 v := fun q => ⟨(h (hf q)).1, by have := (h (hf q)).2; omega⟩
theorem AV_we {nx : Nat} {m : Int} {S : mS} {w : Int32} (h : AF nx m S) (h1 : 500 * nx ≤ w.toInt) (h2 : w.toInt < (S.1 10).toInt) : AV nx S ((S.2.1 45) (ix w)) := fun hf => ((h.2.2.2 hf).1.2.2 (ix w) (by unfold ix; omega) (by unfold ix; omega)).2
theorem AV_wa {nx : Nat} {m : Int} {S : mS} {w : Int32} (h : AF nx m S) (h1 : 500 * nx ≤ w.toInt) (h2 : w.toInt < (S.1 10).toInt) : AV nx S ((S.2.1 44) (ix w)) := fun hf => ((h.2.2.2 hf).1.2.2 (ix w) (by unfold ix; omega) (by unfold ix; omega)).1
theorem AV_tf {nx : Nat} {m : Int} {S : mS} {w : Int32} (h : AF nx m S) (h1 : 500 * nx ≤ w.toInt) (h2 : w.toInt < (S.1 9).toInt) : AV nx S ((S.2.1 35) (ix w)) := fun hf => ((h.2.2.2 hf).1.2.1 (ix w) (by unfold ix; omega) (by unfold ix; omega)).2.1
theorem AV_tb {nx : Nat} {m : Int} {S : mS} {w : Int32} (h : AF nx m S) (h1 : 500 * nx ≤ w.toInt) (h2 : w.toInt < (S.1 9).toInt) : AV nx S ((S.2.1 36) (ix w)) := fun hf => ((h.2.2.2 hf).1.2.1 (ix w) (by unfold ix; omega) (by unfold ix; omega)).2.2.1
theorem AV_e {nx : Nat} {m : Int} {S : mS} {x : Int32} (h : AF nx m S) (hm : 0 ≤ m) (hx : x = (S.2.1 23) (ix (S.1 12))) : AV nx S x := fun hf => by rw [hx]; exact ((h.2.2.2 hf).2.2 hm).2.1
theorem AF_last {nx : Nat} {m : Int} {v : Int32} {S S1 : mS} (e : S1 = sZ S 19 v) (hv : v = -1 ∨ AV nx S v) (h : AF nx m S) : AF nx m S1 := by
  subst e
  exact ⟨h.1, fun hf => hv.elim (fun q => Or.inl (by show v.toInt = -1; rw [q]; decide)) (fun q => Or.inr (q hf)), h.2.2.1, fun hf => ⟨AW_aa (fun _ _ => rfl) (h.2.2.2 hf).1, AG_aa (fun _ _ => rfl) (h.2.2.2 hf).2⟩⟩
theorem AF_nf {nx : Nat} {m m1 : Int} {S : mS} (hf : ¬ (S.1 4) = 0) (h : AF nx m S) : AF nx m1 S := ⟨h.1, h.2.1, h.2.2.1, fun q => absurd q hf⟩
theorem AF_lt {nx : Nat} {m : Int} {S : mS} (h : AF nx m S) (hf : (S.1 4) = 0) : (S.1 19).toInt = -1 ∨ (12000 * nx ≤ (S.1 19).toInt ∧ (S.1 19).toInt < (S.1 8).toInt) := h.2.1 hf
theorem AF_l1 {nx : Nat} {m : Int} {S S1 : mS} (e : S1 = sZ S 19 (-1)) (h : AF nx m S) : AF nx m S1 := AF_last e (Or.inl rfl) h
theorem AF_lv {nx : Nat} {m : Int} {v : Int32} {S S1 : mS} (e : S1 = sZ S 19 v) (hv : AV nx S v) (h : AF nx m S) : AF nx m S1 := AF_last e (Or.inr hv) h
theorem RT_m {nx r : Nat} {na na1 m : Int} {S : mS} (h1 : na ≤ na1) (q : RT nx na m S r) : RT nx na1 m S r := ⟨⟨q.1.1, by have := q.1.2; omega⟩, ⟨q.2.1.1, by have := q.2.1.2; omega⟩, fun k hk => ⟨(q.2.2 k hk).1, by have := (q.2.2 k hk).2; omega⟩⟩
theorem AG_m {nx : Nat} {na na1 m o : Int} {S : mS} (h1 : na ≤ na1) (q : AG nx na m o S) : AG nx na1 m o S := ⟨fun r a b => ⟨RT_m h1 (q.1 r a b).1, (q.1 r a b).2⟩, fun a => RT_m h1 (q.2 a)⟩
theorem AF_act {nx : Nat} {m : Int} {a b : Int32} {S S1 : mS} (e : S1 = actS S a b) (h0 : 0 ≤ (S.1 8).toInt ∧ (S.1 8).toInt < 24000) (h : AF nx m S) (h87 : AQ nx S a b) : AF nx m S1 := by
  have q1 : (1 : Int32).toInt = 1 := rfl
  have ha := w_add (z := (S.1 8) + 1) rfl (by rw [q1]; omega)
  rw [q1] at ha
  subst e
  have e8 : ((actS S a b).1 8).toInt = (S.1 8).toInt + 1 := ha
  refine ⟨h.1, fun hf => ?_, ?_, fun hf => ⟨?_, ?_⟩⟩
  · rw [e8]
    rcases h.2.1 hf with q | q
    · exact Or.inl q
    · exact Or.inr ⟨q.1, by show (S.1 19).toInt < _; omega⟩
  · rw [e8]; have := h.2.2.1; omega
  · rw [e8]; exact AW_act (h.2.2.2 hf).1 rfl h0.1 h.1 (h87 hf).1 (h87 hf).2
  · rw [e8]; exact AG_4 rfl rfl rfl rfl (AG_m (by omega) (h.2.2.2 hf).2)
theorem AF_lead {nx : Nat} {m : Int} {v : Int32} {S S1 : mS} (e : ((S.1 19).toInt < 0 ∧ S1 = S) ∨ (0 ≤ (S.1 19).toInt ∧ (S1 = sF S 18 (ix (S.1 19)) v ∨ S1 = sF S 17 (ix (S.1 19)) v))) (hv : AV nx S v) (h : AF nx m S) : AF nx m S1 := by
  rcases e with e | e
  · rw [e.2]; exact h
  · rcases e.2 with e | e
    · refine ⟨by rw [e]; exact h.1, fun hf => by rw [e] at hf ⊢; exact h.2.1 hf, by rw [e]; exact h.2.2.1, fun hf => ?_⟩
      rw [e] at hf
      have q := h.2.2.2 hf
      refine ⟨?_, ?_⟩
      · have k := AW_lead (Or.inr rfl) e (hv hf) q.1
        rw [e] at k ⊢; exact k
      · rw [e]; exact AG_4 rfl rfl rfl rfl q.2
    · refine ⟨by rw [e]; exact h.1, fun hf => by rw [e] at hf ⊢; exact h.2.1 hf, by rw [e]; exact h.2.2.1, fun hf => ?_⟩
      rw [e] at hf
      have q := h.2.2.2 hf
      refine ⟨?_, ?_⟩
      · have k := AW_lead (Or.inl rfl) e (hv hf) q.1
        rw [e] at k ⊢; exact k
      · rw [e]; exact AG_4 rfl rfl rfl rfl q.2
/-- a wait's place in the tables -/
theorem AF_w10 {nx i : Nat} {m : Int} {v : Int32} {S S1 : mS} (e : S1 = sF S 10 i v) (hi : (S.1 12).toInt ≤ i) (h : AF nx m S) : AF nx m S1 := by
  subst e
  refine ⟨h.1, h.2.1, h.2.2.1, fun hf => ⟨AW_aa9 (j := 10) (fun k hk => ?_) (Or.inl rfl) (h.2.2.2 hf).1, ?_⟩⟩
  · show upF S.2.1 10 _ k = S.2.1 k
    unfold upF
    rw [if_neg hk]
  · have q := (h.2.2.2 hf).2
    refine ⟨fun r a b => ?_, q.2⟩
    have e1 : (sF S 10 i v).2.1 10 r = S.2.1 10 r := by rw [q_fx, if_pos rfl, if_neg (by have : (r : Int) < (S.1 12).toInt := b; omega)]
    have k := q.1 r a b
    unfold RT at k ⊢
    rw [e1]
    exact k
theorem AF_w24 {nx : Nat} {m : Int} {i v : Int32} {S S1 : mS} (e : S1 = sF S 24 (ix i) v) (hi : (S.1 4) = 0 → 0 ≤ m ∧ 0 ≤ (S.1 12).toInt ∧ i.toInt = 17 * (S.1 12).toInt + m) (hv : (S.1 4) = 0 → 12000 * nx ≤ v.toInt ∧ v.toInt < (S.1 8).toInt) (hw : (S.1 4) = 0 → m ≤ 16) (h : AF nx m S) : AF nx (m + 1) S1 := by
  subst e
  refine ⟨h.1, h.2.1, h.2.2.1, fun hf => ⟨AW_aa9 (j := 24) (fun k hk => ?_) (Or.inr (Or.inr (Or.inr rfl))) (h.2.2.2 hf).1, ?_⟩⟩
  · show upF S.2.1 24 _ k = S.2.1 k
    unfold upF
    rw [if_neg hk]
  · have q := (h.2.2.2 hf).2
    have hi := hi hf
    have hw := hw hf
    have hv := hv hf
    have hix : ((ix i : Nat) : Int) = 17 * (S.1 12).toInt + m := by unfold ix; omega
    refine ⟨fun r a b => ?_, fun _ => ?_⟩
    · have k9 := q.1 r a b
      have k := k9.1
      have b : (r : Int) < (S.1 12).toInt := b
      have h16 : ((S.2.1 10) r).toInt ≤ 16 := k9.2
      refine ⟨⟨k.1, k.2.1, fun j hj => ?_⟩, h16⟩
      have hj : (j : Int) < ((S.2.1 10) r).toInt := hj
      show 12000 * nx ≤ (upd ((S.2.1 24)) (ix i) v (17 * r + j)).toInt ∧ (upd ((S.2.1 24)) (ix i) v (17 * r + j)).toInt < _
      unfold upd
      rw [if_neg (by omega)]
      exact k.2.2 j hj
    · have k := q.2 hi.1
      refine ⟨k.1, k.2.1, fun j hj => ?_⟩
      show 12000 * nx ≤ (upd ((S.2.1 24)) (ix i) v (17 * (S.1 12).toInt.toNat + j)).toInt ∧ (upd ((S.2.1 24)) (ix i) v (17 * (S.1 12).toInt.toNat + j)).toInt < _
      unfold upd
      rcases Decidable.em ((j : Int) = m) with d | d
      · rw [if_pos (by omega)]; exact hv
      · rw [if_neg (by omega)]; exact k.2.2 j (by omega)
theorem EN_of {nx : Nat} {c a b : Int32} {S S1 : mS} (h : 12000 * nx ≤ (S.1 7).toInt ∧ (S.1 7).toInt < 12000 * nx + 12000 ∧ nx ≤ 1) (e : EM c a b S S1) : EN nx c a b S S1 ∧ NO nx S S1 := by
  have hb : 12000 * nx ≤ (S.1 7).toInt ∧ (S.1 7).toInt < 12000 * nx + 12000 := ⟨h.1, h.2.1⟩
  refine ⟨⟨h.1, ?_, e⟩, ?_⟩
  · rw [e]
    show ((S.1 7) + 1).toInt = _
    have q1 : (1 : Int32).toInt = 1 := rfl
    have := w_add (z := (S.1 7) + 1) rfl (by rw [q1]; omega)
    omega
  · rw [e]
    exact NO_tr (NO_tr (NO_tr (NO_f rfl (nH_c (by decide) hb)) (NO_f rfl (nH_c (by decide) hb))) (NO_f rfl (nH_c (by decide) hb))) (NO_z rfl)
/-- the tables of what stands already are as they were -/
def TM (S S1 : mS) : Prop := (S.1 9).toInt ≤ (S1.1 9).toInt ∧ (S.1 10).toInt ≤ (S1.1 10).toInt ∧ (∀ t : Nat, (t : Int) < (S.1 9).toInt → (S1.2.1 25) t = (S.2.1 25) t ∧ (S1.2.1 27) t = (S.2.1 27) t ∧ (S1.2.1 28) t = (S.2.1 28) t ∧ (S1.2.1 29) t = (S.2.1 29) t) ∧ (∀ w : Nat, (w : Int) < (S.1 10).toInt → (S1.2.1 40) w = (S.2.1 40) w)
theorem TM_rf {S : mS} : TM S S := ⟨Int.le_refl _, Int.le_refl _, fun _ _ => ⟨rfl, rfl, rfl, rfl⟩, fun _ _ => rfl⟩
theorem TM_tr {A S S1 : mS} (h : TM A S) (k : TM S S1) : TM A S1 := by
  refine ⟨Int.le_trans h.1 k.1, Int.le_trans h.2.1 k.2.1, fun t ht => ?_, fun w hw => ?_⟩
  · have a := h.2.2.1 t ht
    have b := k.2.2.1 t (by have := h.1; omega)
    exact ⟨b.1.trans a.1, b.2.1.trans a.2.1, b.2.2.1.trans a.2.2.1, b.2.2.2.trans a.2.2.2⟩
  · exact (k.2.2.2 w (by have := h.2.1; omega)).trans (h.2.2.2 w hw)
def NT (S S1 : mS) : Prop := TM S S1
theorem TM_nt {A S S1 : mS} (h : TM A S) (k : NT S S1) : TM A S1 := TM_tr h k
theorem NT_z {S S1 : mS} {k : Nat} {v : Int32} (e : S1 = sZ S k v) (hk : 9 ≠ k ∧ 10 ≠ k) : NT S S1 := by
  subst e
  refine ⟨?_, ?_, fun _ _ => ⟨rfl, rfl, rfl, rfl⟩, fun _ _ => rfl⟩
  · show (S.1 9).toInt ≤ (upd S.1 k v 9).toInt
    unfold upd; rw [if_neg hk.1]; exact Int.le_refl _
  · show (S.1 10).toInt ≤ (upd S.1 k v 10).toInt
    unfold upd; rw [if_neg hk.2]; exact Int.le_refl _
abbrev TT9 : List Nat := [25, 27, 28, 29, 40]
theorem NT_f {S S1 : mS} {k i : Nat} {v : Int32} (e : S1 = sF S k i v) (hk : k ∉ TT9) : NT S S1 := by
  subst e
  have q : ∀ j, j ∈ TT9 → (sF S k i v).2.1 j = S.2.1 j := by
    intro j hj
    show upF S.2.1 k _ j = S.2.1 j
    unfold upF
    rw [if_neg (fun h : j = k => hk (h ▸ hj))]
  exact ⟨Int.le_refl _, Int.le_refl _, fun t _ => ⟨congrFun (q 25 (by decide)) t, congrFun (q 27 (by decide)) t, congrFun (q 28 (by decide)) t, congrFun (q 29 (by decide)) t⟩, fun w _ => congrFun (q 40 (by decide)) w⟩
theorem NT_g {S S1 : mS} {k i : Nat} {v : Int64} (e : S1 = sG S k i v) : NT S S1 := by
  subst e
  exact ⟨Int.le_refl _, Int.le_refl _, fun _ _ => ⟨rfl, rfl, rfl, rfl⟩, fun _ _ => rfl⟩
theorem NT_fr {zs fs gs : List Nat} {S S1 : mS} (hF : Fr zs fs gs S S1) (h1 : 9 ∉ zs ∧ 10 ∉ zs) (h2 : ∀ k, k ∈ TT9 → k ∉ fs) : NT S S1 := by
  refine ⟨?_, ?_, fun t _ => ⟨congrFun (hF.2.1 25 (h2 25 (by decide))) t, congrFun (hF.2.1 27 (h2 27 (by decide))) t, congrFun (hF.2.1 28 (h2 28 (by decide))) t, congrFun (hF.2.1 29 (h2 29 (by decide))) t⟩, fun w _ => congrFun (hF.2.1 40 (h2 40 (by decide))) w⟩
  · rw [hF.1 9 h1.1]; exact Int.le_refl _
  · rw [hF.1 10 h1.2]; exact Int.le_refl _
theorem TM_t9 {A S S1 : mS} {z : Int32} (e : S1 = sZ S 9 z) (hz : (S.1 9).toInt ≤ z.toInt) (h : TM A S) : TM A S1 := by
  subst e
  exact TM_tr h ⟨hz, Int.le_refl _, fun _ _ => ⟨rfl, rfl, rfl, rfl⟩, fun _ _ => rfl⟩
theorem TM_w10 {A S S1 : mS} {z : Int32} (e : S1 = sZ S 10 z) (hz : (S.1 10).toInt ≤ z.toInt) (h : TM A S) : TM A S1 := by
  subst e
  exact TM_tr h ⟨Int.le_refl _, hz, fun _ _ => ⟨rfl, rfl, rfl, rfl⟩, fun _ _ => rfl⟩
theorem TM_fi {A S S1 : mS} {k i : Nat} {v : Int32} (e : S1 = sF S k i v) (hi : (k = 40 ∧ (A.1 10).toInt ≤ i) ∨ (k ≠ 40 ∧ (A.1 9).toInt ≤ i)) (h : TM A S) : TM A S1 := by
  subst e
  have q : ∀ j x, ¬ (j = k ∧ x = i) → (sF S k i v).2.1 j x = S.2.1 j x := by
    intro j x hj
    rw [q_fx]
    rcases Decidable.em (j = k) with d | d
    · rw [if_pos d, if_neg (fun q => hj ⟨d, q⟩), d]
    · rw [if_neg d]
  refine ⟨h.1, h.2.1, fun t ht => ?_, fun w hw => ?_⟩
  · have a := h.2.2.1 t ht
    exact ⟨(q 25 t (by omega)).trans a.1, (q 27 t (by omega)).trans a.2.1, (q 28 t (by omega)).trans a.2.2.1, (q 29 t (by omega)).trans a.2.2.2⟩
  · exact (q 40 w (by omega)).trans (h.2.2.2 w hw)
/-- the place: how deep, in which while -/
def PD (nx : Nat) (d : Int) (S : mS) : Prop := (S.1 4) = 0 → (0 ≤ (S.1 16).toInt ∧ (S.1 16).toInt ≤ d ∧ dpt ((S.2.1 25)) (ix (S.1 16)) (S.1 13) ∧ rg nx (S.1 9).toInt (S.1 13) ∧ (0 ≤ (S.1 15).toInt → 500 * nx ≤ (S.1 15).toInt ∧ (S.1 15).toInt < (S.1 10).toInt ∧ an ((S.2.1 25)) ((S.2.1 40) (ix (S.1 15))) (S.1 13) ∧ ((S.1 13) = (S.2.1 40) (ix (S.1 15)) ∨ (0 ≤ (S.1 13).toInt ∧ (S.2.1 27) (ix (S.1 13)) = (S.1 15)))))
theorem AF_ch {nx : Nat} {m : Int} {S : mS} (h : AF nx m S) (hf : (S.1 4) = 0) : ∀ t : Nat, ((500 * nx : Nat) : Int) ≤ t → (t : Int) < (S.1 9).toInt → ((S.2.1 25) t).toInt = -1 ∨ (((500 * nx : Nat) : Int) ≤ ((S.2.1 25) t).toInt ∧ ((S.2.1 25) t).toInt < t) := fun t h1 h2 => by
  have q := ((h.2.2.2 hf).1.2.1 t (by omega) h2).1
  omega
theorem PD_tm {nx : Nat} {m d : Int} {S S1 : mS} (hA : AF nx m S) (hT : TM S S1) (e : (S1.1 13) = (S.1 13) ∧ (S1.1 15) = (S.1 15) ∧ (S1.1 16) = (S.1 16)) (hf : (S1.1 4) = 0 → (S.1 4) = 0) (h : PD nx d S) : PD nx d S1 := fun h1 => by
  have g := hf h1
  have q := h g
  have c := AF_ch hA g
  have he : ∀ t : Nat, ((500 * nx : Nat) : Int) ≤ t → (t : Int) < (S.1 9).toInt → (S1.2.1 25) t = (S.2.1 25) t := fun t _ h2 => (hT.2.2.1 t h2).1
  have hr : (S.1 13).toInt < 0 ∨ (((500 * nx : Nat) : Int) ≤ (S.1 13).toInt ∧ (S.1 13).toInt < (S.1 9).toInt) := by rcases q.2.2.2.1 with r | r <;> omega
  rw [e.1, e.2.1, e.2.2]
  refine ⟨q.1, q.2.1, dpt_up c he (by omega) _ _ hr q.2.2.1, rg_m hT.1 q.2.2.2.1, fun hw => ?_⟩
  obtain ⟨r1, r2, ⟨j, r3⟩, r4⟩ := q.2.2.2.2 hw
  have hi : ((ix (S.1 15) : Nat) : Int) = (S.1 15).toInt := by unfold ix; omega
  have hw2 := hT.2.2.2 (ix (S.1 15)) (by omega)
  refine ⟨r1, by have := hT.2.1; omega, ⟨j, ?_⟩, ?_⟩
  · rw [hw2, chn_up c he (by omega) j _ hr]; exact r3
  · rw [hw2]
    rcases r4 with r4 | r4
    · exact Or.inl r4
    · refine Or.inr ⟨r4.1, ?_⟩
      have hi2 : ((ix (S.1 13) : Nat) : Int) = (S.1 13).toInt := by have := r4.1; unfold ix; omega
      rw [(hT.2.2.1 (ix (S.1 13)) (by rcases hr with r | r <;> omega)).2.1]
      exact r4.2
def NP (S S1 : mS) : Prop := (∀ k, k ∈ [25, 27, 40] → S1.2.1 k = S.2.1 k) ∧ (∀ k, k ∈ [9, 10, 13, 15, 16] → S1.1 k = S.1 k) ∧ ((S1.1 4) = 0 → (S.1 4) = 0)
theorem PD_np {nx : Nat} {d : Int} {S S1 : mS} (e : NP S S1) (h : PD nx d S) : PD nx d S1 := by
  obtain ⟨e1, e2, e3⟩ := e
  have a1 := e1 25 (by decide)
  have a2 := e1 27 (by decide)
  have a3 := e1 40 (by decide)
  have b1 := e2 9 (by decide)
  have b2 := e2 10 (by decide)
  have b3 := e2 13 (by decide)
  have b4 := e2 15 (by decide)
  have b5 := e2 16 (by decide)
  intro hf
  have q := h (e3 hf)
  rw [a1, a2, a3, b1, b2, b3, b4, b5]
  exact q
theorem NP_z {S S1 : mS} {k : Nat} {v : Int32} (e : S1 = sZ S k v) (hk : k ∉ [4, 9, 10, 13, 15, 16]) : NP S S1 := by
  subst e
  refine ⟨fun _ _ => rfl, fun j hj => ?_, ?_⟩
  · show upd S.1 k v j = S.1 j
    unfold upd; rw [if_neg (fun h : j = k => hk (h ▸ List.mem_cons_of_mem _ hj))]
  · show upd S.1 k v 4 = 0 → S.1 4 = 0
    unfold upd; rw [if_neg (fun h : 4 = k => hk (h ▸ List.mem_cons_self ..))]; exact id
theorem NP_f {S S1 : mS} {k i : Nat} {v : Int32} (e : S1 = sF S k i v) (hk : k ∉ [25, 27, 40]) : NP S S1 := by
  subst e
  refine ⟨fun j hj => ?_, fun _ _ => rfl, id⟩
  show upF S.2.1 k _ j = S.2.1 j
  unfold upF
  rw [if_neg (fun h : j = k => hk (h ▸ hj))]
theorem NP_g {S S1 : mS} {k i : Nat} {v : Int64} (e : S1 = sG S k i v) : NP S S1 := by
  subst e
  exact ⟨fun _ _ => rfl, fun _ _ => rfl, id⟩
theorem NP_fr {zs fs gs : List Nat} {S S1 : mS} (hF : Fr zs fs gs S S1) (h1 : ∀ k, k ∈ [9, 10, 13, 15, 16] → k ∉ zs) (h2 : ∀ k, k ∈ [25, 27, 40] → k ∉ fs) (hf : (S1.1 4) = 0 → (S.1 4) = 0) : NP S S1 := ⟨fun k hk => hF.2.1 k (h2 k hk), fun k hk => hF.1 k (h1 k hk), hf⟩
/-- the walk of marks -/
def MKI (S : mS) (w x : Int32) : Prop := (S.1 4) = 0 → 0 ≤ x.toInt → x = (S.2.1 40) (ix w) ∨ (S.2.1 27) (ix x) = w
theorem PD_brk {nx : Nat} {d : Int} {S : mS} (h : PD nx d S) (hw : 0 ≤ (S.1 15).toInt) (hf : (S.1 4) = 0) : 500 * nx ≤ (S.1 15).toInt ∧ (S.1 15).toInt < (S.1 10).toInt ∧ an ((S.2.1 25)) ((S.2.1 40) (ix (S.1 15))) (S.1 13) ∧ rg nx (S.1 9).toInt (S.1 13) := ⟨((h hf).2.2.2.2 hw).1, ((h hf).2.2.2.2 hw).2.1, ((h hf).2.2.2.2 hw).2.2.1, (h hf).2.2.2.1⟩
theorem PD_mki {nx : Nat} {d : Int} {S : mS} (h : PD nx d S) (hw : 0 ≤ (S.1 15).toInt) : MKI S (S.1 15) (S.1 13) := fun hf _ => ((h hf).2.2.2.2 hw).2.2.2.imp id (fun q => q.2)
/-- a break or a continue marks the tries that it leaves -/
theorem AF_mark {nx i k : Nat} {m : Int} {v : Int32} {S S1 : mS} (hk : k = 37 ∨ k = 38) (e : S1 = sF S k i v) (hi : (S.1 4) = 0 → 0 ≤ ((S.2.1 27) i).toInt) (h : AF nx m S) : AF nx m S1 := by
  rcases hk with rfl | rfl
  · subst e
    refine ⟨h.1, h.2.1, h.2.2.1, fun hf => ⟨⟨(h.2.2.2 hf).1.1, fun t h1 h2 => ?_, (h.2.2.2 hf).1.2.2⟩, AG_4 rfl rfl rfl rfl (h.2.2.2 hf).2⟩⟩
    have q := (h.2.2.2 hf).1.2.1 t h1 h2
    refine ⟨q.1, q.2.1, q.2.2.1, q.2.2.2.1, fun g => ?_, q.2.2.2.2.2⟩
    rcases Decidable.em (t = i) with d | d
    · rw [d]; exact hi hf
    · refine q.2.2.2.2.1 (g.imp (fun g => ?_) id)
      have e1 : (sF S 37 i v).2.1 37 t = S.2.1 37 t := by rw [q_fx, if_pos rfl, if_neg d]
      rw [e1] at g
      exact g
  · subst e
    refine ⟨h.1, h.2.1, h.2.2.1, fun hf => ⟨⟨(h.2.2.2 hf).1.1, fun t h1 h2 => ?_, (h.2.2.2 hf).1.2.2⟩, AG_4 rfl rfl rfl rfl (h.2.2.2 hf).2⟩⟩
    have q := (h.2.2.2 hf).1.2.1 t h1 h2
    refine ⟨q.1, q.2.1, q.2.2.1, q.2.2.2.1, fun g => ?_, q.2.2.2.2.2⟩
    rcases Decidable.em (t = i) with d | d
    · rw [d]; exact hi hf
    · refine q.2.2.2.2.1 (g.imp id (fun g => ?_))
      have e1 : (sF S 38 i v).2.1 38 t = S.2.1 38 t := by rw [q_fx, if_pos rfl, if_neg d]
      rw [e1] at g
      exact g
theorem MKI_next {nx k i : Nat} {m : Int} {w x z v : Int32} {S S1 : mS} (hk : k = 37 ∨ k = 38) (e : S1 = sF S k i v) (h : AF nx m S) (hw : 0 ≤ w.toInt) (hx : 500 * nx ≤ x.toInt ∧ x.toInt < (S.1 9).toInt) (hq : MKI S w x) (hn : ¬ x = (S.2.1 40) (ix w)) (ez : z = (S1.2.1 25) (ix x)) : MKI S1 w z := by
  intro hf hz
  have e25 : S1.2.1 25 = S.2.1 25 := by rcases hk with rfl | rfl <;> (rw [e]; rfl)
  have e27 : S1.2.1 27 = S.2.1 27 := by rcases hk with rfl | rfl <;> (rw [e]; rfl)
  have e40 : S1.2.1 40 = S.2.1 40 := by rcases hk with rfl | rfl <;> (rw [e]; rfl)
  have hf : (S.1 4) = 0 := by rcases hk with rfl | rfl <;> (rw [e] at hf; exact hf)
  have hi : ((ix x : Nat) : Int) = x.toInt := by unfold ix; omega
  have tw : (S.2.1 27) (ix x) = w := (hq hf (by omega)).resolve_left hn
  have q := ((h.2.2.2 hf).1.2.1 (ix x) (by omega) (by omega)).2.2.2.2.2
  rw [tw] at q
  rw [e25] at ez
  rw [e27, e40, ez]
  rcases (q hw).2.2 with r | r
  · exact Or.inl r
  · exact Or.inr r.2
