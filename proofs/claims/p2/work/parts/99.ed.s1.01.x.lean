
theorem dpt_u {tt : Nat → Int32} : ∀ (a b : Nat) (t : Int32), dpt tt a t → dpt tt b t → a = b := by
  intro a
  induction a with
  | zero =>
    intro b t h k
    cases b with
    | zero => rfl
    | succ b => exact absurd k.1 (by have : t.toInt < 0 := h; omega)
  | succ a ih =>
    intro b t h k
    cases b with
    | zero => exact absurd h.1 (by have : t.toInt < 0 := k; omega)
    | succ b => rw [ih b _ h.2 k.2]
theorem chn_s {tt : Nat → Int32} {j : Nat} {t : Int32} (h : 0 ≤ t.toInt) : chn tt (j + 1) t = chn tt j (tt (ix t)) := by
  show (if t.toInt < 0 then t else chn tt j (tt (ix t))) = _
  rw [if_neg (by omega)]
theorem chn_n {tt : Nat → Int32} {t : Int32} (h : t.toInt < 0) : ∀ j, chn tt j t = t := by
  intro j
  cases j with
  | zero => rfl
  | succ j => show (if t.toInt < 0 then t else chn tt j (tt (ix t))) = t; rw [if_pos h]
/-- q on the way out of t lies no deeper, and as deep it is t -/
theorem an_le {tt : Nat → Int32} {q : Int32} : ∀ (j F D : Nat) (t : Int32), chn tt j t = q → dpt tt F t → dpt tt D q → D ≤ F ∧ (D = F → q = t) := by
  intro j
  induction j with
  | zero => intro F D t h a b; rw [← h] at b ⊢; have := dpt_u _ _ _ a b; exact ⟨by show D ≤ F; omega, fun _ => rfl⟩
  | succ j ih =>
    intro F D t h a b
    rcases Decidable.em (t.toInt < 0) with d | d
    · rw [chn_n d] at h
      subst h
      have := dpt_u _ _ _ a b
      exact ⟨by omega, fun _ => rfl⟩
    · cases F with
      | zero => exact absurd (show t.toInt < 0 from a) d
      | succ F =>
        rw [chn_s (by omega)] at h
        have k := ih F D _ h a.2 b
        exact ⟨by omega, fun e => by omega⟩
theorem an_up {tt : Nat → Int32} {q t : Int32} {F D : Nat} (h : an tt q t) (hF : dpt tt F t) (hD : dpt tt D q) (hl : D < F) : an tt q (tt (ix t)) := by
  obtain ⟨j, hj⟩ := h
  cases j with
  | zero => have : t = q := hj; subst this; have := dpt_u _ _ _ hF hD; omega
  | succ j =>
    cases F with
    | zero => omega
    | succ F => rw [chn_s hF.1] at hj; exact ⟨j, hj⟩
theorem an_eq {tt : Nat → Int32} {q t : Int32} {F D : Nat} (h : an tt q t) (hF : dpt tt F t) (hD : dpt tt D q) (hl : F ≤ D) : q = t := by
  obtain ⟨j, hj⟩ := h
  have k := an_le j F D t hj hF hD
  exact k.2 (by omega)
/-- what a frame says: its part, why and with what it was left; tr is the try around it -/
def FRL (hx : Nat) (nw : Int) (tt wt : Nat → Int32) (part left w tr : Int32) : Prop := (part = 0 ∨ part = 1 ∨ part = 2) ∧ (left = 0 ∨ left = 1 ∨ left = 2 ∨ left = 5 ∨ ((left = 3 ∨ left = 4) ∧ 500 * hx ≤ w.toInt ∧ w.toInt < nw ∧ an tt (wt (ix w)) tr))
/-- the frames of task t: fr many, of try tr the innermost -/
def FRM (hx : Nat) (nt nw : Int) (tt wt : Nat → Int32) (t fr tr : Int32) (ft fp fl fw : Nat → Int32) : Prop := 0 ≤ fr.toInt ∧ fr.toInt ≤ 11 ∧ dpt tt (ix fr) tr ∧ rg hx nt tr ∧ ∀ i : Nat, i < ix fr → ft (11 * ix t + (ix fr - 1 - i)) = chn tt i tr ∧ FRL hx nw tt wt (fp (11 * ix t + (ix fr - 1 - i))) (fl (11 * ix t + (ix fr - 1 - i))) (fw (11 * ix t + (ix fr - 1 - i))) (chn tt (i + 1) tr)
/-- the tries' own way: what FRM asks of a program -/
def TTW (hx : Nat) (nt : Int) (tt : Nat → Int32) : Prop := ∀ t : Int32, 500 * hx ≤ t.toInt → t.toInt < nt → rg hx nt (tt (ix t))
theorem FRM_top {hx : Nat} {nt nw : Int} {tt wt ft fp fl fw : Nat → Int32} {t fr tr z : Int32} (h : FRM hx nt nw tt wt t fr tr ft fp fl fw) (h0 : 0 < fr.toInt) (ht : 0 ≤ t.toInt) (hz : z.toInt = 11 * t.toInt + fr.toInt - 1) : ft (ix z) = tr ∧ 500 * hx ≤ tr.toInt ∧ tr.toInt < nt ∧ FRL hx nw tt wt (fp (ix z)) (fl (ix z)) (fw (ix z)) (tt (ix tr)) := by
  have q := h.2.2.2.2 0 (by unfold ix; omega)
  have e : 11 * ix t + (ix fr - 1 - 0) = ix z := by unfold ix; omega
  rw [e] at q
  have d := h.2.2.1
  have p0 : 0 ≤ tr.toInt := by
    cases hf : ix fr with
    | zero => unfold ix at hf; omega
    | succ k => rw [hf] at d; exact d.1
  have r := h.2.2.2.1
  refine ⟨q.1, ?_, ?_, ?_⟩
  · rcases r with r | r
    · omega
    · exact r.1
  · rcases r with r | r
    · omega
    · exact r.2
  · have k := q.2
    rw [chn_s p0] at k
    exact k
theorem FRM_pop {hx : Nat} {nt nw : Int} {tt wt ft fp fl fw : Nat → Int32} {t fr fr1 tr : Int32} (h : FRM hx nt nw tt wt t fr tr ft fp fl fw) (h0 : 0 < fr.toInt) (he : fr1.toInt = fr.toInt - 1) (hT : TTW hx nt tt) : FRM hx nt nw tt wt t fr1 (tt (ix tr)) ft fp fl fw := by
  have d := h.2.2.1
  have e : ix fr = ix fr1 + 1 := by unfold ix; omega
  rw [e] at d
  have p0 : 0 ≤ tr.toInt := d.1
  have r := h.2.2.2.1
  refine ⟨by omega, by have := h.2.1; omega, d.2, ?_, fun i hi => ?_⟩
  · rcases r with r | r
    · omega
    · exact hT tr r.1 r.2
  · have q := h.2.2.2.2 (i + 1) (by omega)
    have e2 : ix fr - 1 - (i + 1) = ix fr1 - 1 - i := by omega
    rw [e2] at q
    rw [chn_s p0, chn_s p0] at q
    exact q
theorem FRM_push {hx : Nat} {nt nw : Int} {tt wt ft fp fl fw : Nat → Int32} {t fr fr1 tr y z : Int32} (h : FRM hx nt nw tt wt t fr tr ft fp fl fw) (hl : fr.toInt ≤ 10) (he : fr1.toInt = fr.toInt + 1) (ht : 0 ≤ t.toInt) (hz : z.toInt = 11 * t.toInt + fr.toInt) (h1 : 500 * hx ≤ y.toInt) (h2 : y.toInt < nt) (hy : tt (ix y) = tr) : FRM hx nt nw tt wt t fr1 y (upd ft (ix z) y) (upd fp (ix z) 0) (upd fl (ix z) 0) fw := by
  have d := h.2.2.1
  have h0 := h.1
  have e : ix fr1 = ix fr + 1 := by unfold ix; omega
  have ez : ix z = 11 * ix t + ix fr := by unfold ix; omega
  refine ⟨by omega, by omega, ?_, Or.inr ⟨h1, h2⟩, fun i hi => ?_⟩
  · rw [e]; exact ⟨by omega, by rw [hy]; exact d⟩
  · unfold upd
    cases i with
    | zero =>
      have e3 : 11 * ix t + (ix fr1 - 1 - 0) = ix z := by omega
      rw [if_pos e3, if_pos e3, if_pos e3]
      exact ⟨rfl, Or.inl rfl, Or.inl rfl⟩
    | succ i =>
      have e3 : ¬ 11 * ix t + (ix fr1 - 1 - (i + 1)) = ix z := by omega
      rw [if_neg e3, if_neg e3, if_neg e3]
      have q := h.2.2.2.2 i (by omega)
      have e4 : ix fr1 - 1 - (i + 1) = ix fr - 1 - i := by omega
      rw [e4, chn_s (by omega), chn_s (by omega), hy]
      exact q
theorem FRM_set {hx : Nat} {nt nw : Int} {tt wt ft fp fl fw : Nat → Int32} {t fr tr z p l w : Int32} (h : FRM hx nt nw tt wt t fr tr ft fp fl fw) (h0 : 0 < fr.toInt) (ht : 0 ≤ t.toInt) (hz : z.toInt = 11 * t.toInt + fr.toInt - 1) (hp : FRL hx nw tt wt p l w (tt (ix tr))) : FRM hx nt nw tt wt t fr tr ft (upd fp (ix z) p) (upd fl (ix z) l) (upd fw (ix z) w) := by
  have ez : ix z = 11 * ix t + (ix fr - 1) := by unfold ix; omega
  have d := h.2.2.1
  have p0 : 0 ≤ tr.toInt := by
    cases hf : ix fr with
    | zero => unfold ix at hf; omega
    | succ k => rw [hf] at d; exact d.1
  refine ⟨h.1, h.2.1, d, h.2.2.2.1, fun i hi => ?_⟩
  have q := h.2.2.2.2 i hi
  refine ⟨q.1, ?_⟩
  unfold upd
  rcases Decidable.em (i = 0) with g | g
  · have e3 : 11 * ix t + (ix fr - 1 - i) = ix z := by omega
    rw [if_pos e3, if_pos e3, if_pos e3, g, chn_s p0]
    exact hp
  · have e3 : ¬ 11 * ix t + (ix fr - 1 - i) = ix z := by omega
    rw [if_neg e3, if_neg e3, if_neg e3]
    exact q.2
theorem FRM_setp {hx : Nat} {nt nw : Int} {tt wt ft fp fl fw : Nat → Int32} {t fr tr z p : Int32} (h : FRM hx nt nw tt wt t fr tr ft fp fl fw) (h0 : 0 < fr.toInt) (ht : 0 ≤ t.toInt) (hz : z.toInt = 11 * t.toInt + fr.toInt - 1) (hp : p = 0 ∨ p = 1 ∨ p = 2) : FRM hx nt nw tt wt t fr tr ft (upd fp (ix z) p) fl fw := by
  have k := FRM_top h h0 ht hz
  have q := FRM_set (p := p) (l := fl (ix z)) (w := fw (ix z)) h h0 ht hz ⟨hp, k.2.2.2.2⟩
  have e : ∀ f : Nat → Int32, upd f (ix z) (f (ix z)) = f := by
    intro f
    funext i
    unfold upd
    split
    · rename_i e; rw [e]
    · rfl
  rw [e, e] at q
  exact q
/-- writes to another task's frames -/
theorem FRM_ne {hx : Nat} {nt nw : Int} {tt wt ft fp fl fw ft1 fp1 fl1 fw1 : Nat → Int32} {s t fr tr : Int32} (h : FRM hx nt nw tt wt t fr tr ft fp fl fw) (hs : 0 ≤ s.toInt) (ht : 0 ≤ t.toInt) (hn : t.toInt ≠ s.toInt) (h1 : ∀ i : Nat, ¬ (11 * s.toInt ≤ (i : Int) ∧ (i : Int) < 11 * s.toInt + 11) → ft1 i = ft i ∧ fp1 i = fp i ∧ fl1 i = fl i ∧ fw1 i = fw i) : FRM hx nt nw tt wt t fr tr ft1 fp1 fl1 fw1 := by
  refine ⟨h.1, h.2.1, h.2.2.1, h.2.2.2.1, fun i hi => ?_⟩
  have q := h.2.2.2.2 i hi
  have a := h.2.1
  have k := h1 (11 * ix t + (ix fr - 1 - i)) (by unfold ix at hi ⊢; omega)
  rw [k.1, k.2.1, k.2.2.1, k.2.2.2]
  exact q
/-- how much the frames may still do -/
def fsm (fp : Nat → Int32) (b : Nat) : Nat → Int
  | 0 => 0
  | n + 1 => fsm fp b n + (3 - (fp (b + n)).toInt)
/-- tasks that may go on: their place in the code and their frames fit -/
def TYP (hx : Nat) (cd nt nw : Int) (ty : Nat → T6) (P S : mS) : Prop := ∀ t : Int32, 0 ≤ t.toInt → t.toInt < (S.1 22).toInt → ((S.2.1 54) (ix t) = 0 ∨ (S.2.1 54) (ix t) = 1 ∨ (S.2.1 54) (ix t) = 2) → ∃ tr : Int32, TG hx cd ty ((S.2.1 57) (ix t)) tr ∧ FRM hx nt nw ((P.2.1 25)) ((P.2.1 40)) t ((S.2.1 68) (ix t)) tr ((S.2.1 69)) ((S.2.1 70)) ((S.2.1 71)) ((S.2.1 72))
def CC (c : Nat → Int32) : Prop := ∀ i, i < 200 → (c i).toInt < 12
def LTR (l : Nat → Int32) : Prop := ∀ i, i < 8 → 0 ≤ (l i).toInt ∧ (l i).toInt ≤ 50
def ROF (tk ro : Int) (r : Nat → Int32) : Prop := ∀ t : Nat, (t : Int) < tk → 0 ≤ (r t).toInt ∧ (r t).toInt < ro
/-- the turns taken are no more than b -/
def TNB (b : Int32) (r : Nat → Int32) : Prop := 0 ≤ b.toInt ∧ ∀ i, 0 ≤ (r i).toInt ∧ (r i).toInt ≤ b.toInt
/-- the reference between two doings -/
def W0 (hx : Nat) (cd nt nw : Int) (ty : Nat → T6) (P S : mS) : Prop := EQ P S ∧ TREE S ∧ DY S (-1) S ∧ TYP hx cd nt nw ty P S ∧ CC ((S.2.1 64)) ∧ LTR ((S.2.1 78)) ∧ ROF (S.1 22).toInt ((P.2.1 5) hx).toInt ((S.2.1 51)) ∧ TNB (P.1 60) ((S.2.1 60))
theorem DY_self {T S : mS} {x : Int} (hT : TREE T) (h : DY T x S) : TREE S ∧ DY S x S := by
  have e := h.1
  have e22 := e.1
  have e29 := e.2.1
  have e86 := e.2.2.2
  have e52 := e.2.2.1 52 (by decide)
  have e53 := e.2.2.1 53 (by decide)
  have e60 := e.2.2.1 60 (by decide)
  have e65 := e.2.2.1 65 (by decide)
  have e66 := e.2.2.1 66 (by decide)
  have e80 := e.2.2.1 80 (by decide)
  have e81 := e.2.2.1 81 (by decide)
  have e82 := e.2.2.1 82 (by decide)
  have e85 := e.2.2.1 85 (by decide)
  have a : TREE S := by
    unfold TREE at hT ⊢
    rw [e22, e29, e52, e53, e81, e82, e85]
    exact hT
  refine ⟨a, ET_rf, ?_, ?_, ?_, ?_, ?_, ?_⟩
  · rw [e22]; exact h.2.1
  · have q := h.2.2.1
    unfold D2 at q ⊢
    rw [e22, e60]
    exact q
  · have q := h.2.2.2.1
    unfold D3 at q ⊢
    rw [e22, e29, e80, e85, e53]
    exact q
  · have q := h.2.2.2.2.1
    unfold D4 OFT at q ⊢
    rw [e22, e29, e65, e66, e85]
    exact q
  · rw [e22]; exact h.2.2.2.2.2.1
  · rw [e29, e80, e86]; exact h.2.2.2.2.2.2
theorem TYP_tr {hx : Nat} {cd nt nw : Int} {ty : Nat → T6} {P S S1 : mS} (hz : (S1.1 22) = (S.1 22)) (h57 : S1.2.1 57 = S.2.1 57) (h68 : S1.2.1 68 = S.2.1 68) (h69 : S1.2.1 69 = S.2.1 69) (h70 : S1.2.1 70 = S.2.1 70) (h71 : S1.2.1 71 = S.2.1 71) (h72 : S1.2.1 72 = S.2.1 72) (ht : ∀ i, ((S1.2.1 54) i = 0 ∨ (S1.2.1 54) i = 1 ∨ (S1.2.1 54) i = 2) → ((S.2.1 54) i = 0 ∨ (S.2.1 54) i = 1 ∨ (S.2.1 54) i = 2)) (h : TYP hx cd nt nw ty P S) : TYP hx cd nt nw ty P S1 := by
  intro t h0 h1 h2
  rw [hz] at h1
  have q := h t h0 h1 (ht _ h2)
  rw [h57, h68, h69, h70, h71, h72]
  exact q
theorem TRs_012 {st st1 : Nat → Int32} (h : TRs st st1) (i : Nat) (k : st1 i = 0 ∨ st1 i = 1 ∨ st1 i = 2) : st i = 0 ∨ st i = 1 ∨ st i = 2 := by
  rcases h i with q | q
  · rw [← q]; exact k
  · exact q.1
theorem TRs_4 {st st1 : Nat → Int32} {i : Nat} (h : TRs st st1) (k : st i = 4) : st1 i = 4 := by
  rcases h i with q | q
  · rw [q]; exact k
  · rw [k] at q; exact absurd q.1 (by decide)
theorem TRs_3 {st st1 : Nat → Int32} {i : Nat} (h : TRs (upd st i 3) st1) : st1 i = 3 := by
  have e : upd st i 3 i = 3 := by unfold upd; rw [if_pos rfl]
  rcases h i with q | q
  · rw [q]; exact e
  · rw [e] at q; exact absurd q.1 (by decide)
abbrev RCz : List Nat := [23, 28, 30]
abbrev RCf : List Nat := [54, 55, 56, 61, 62, 63, 67, 73, 76, 77, 83, 84, 87]
theorem W0_rc {hx : Nat} {cd nt nw : Int} {ty : Nat → T6} {P S S1 : mS} (hF : Fr RCz RCf [] S S1) (hd : DY S (-1) S1) (ht : TRs ((S.2.1 54)) ((S1.2.1 54))) (h : W0 hx cd nt nw ty P S) : W0 hx cd nt nw ty P S1 := by
  have k := DY_self h.2.1 hd
  have ez : (S1.1 22) = (S.1 22) := hF.1 22 (by decide)
  refine ⟨⟨(hF.1 5 (by decide)).trans h.1.1, fun j h5 hj => (hF.2.1 j (fun q9 => by simp [RCf] at q9; omega)).trans (h.1.2 j h5 hj)⟩, k.1, k.2, TYP_tr ez (hF.2.1 57 (by decide)) (hF.2.1 68 (by decide)) (hF.2.1 69 (by decide)) (hF.2.1 70 (by decide)) (hF.2.1 71 (by decide)) (hF.2.1 72 (by decide)) (TRs_012 ht) h.2.2.2.1, ?_, ?_, ?_⟩
  · rw [show (S1.2.1 64) = (S.2.1 64) from hF.2.1 64 (by decide)]; exact h.2.2.2.2.1
  · rw [show (S1.2.1 78) = (S.2.1 78) from hF.2.1 78 (by decide)]; exact h.2.2.2.2.2.1
  · rw [ez, show (S1.2.1 51) = (S.2.1 51) from hF.2.1 51 (by decide), show (S1.2.1 60) = (S.2.1 60) from hF.2.1 60 (by decide)]; exact h.2.2.2.2.2.2
theorem W0_en {hx : Nat} {cd nt nw : Int} {ty : Nat → T6} {P S S1 : mS} {i : Nat} (hF : Fr RCz RCf [] S S1) (hd : DY S (-1) S1) (ht : TRs (upd ((S.2.1 54)) i 3) ((S1.2.1 54))) (h : W0 hx cd nt nw ty P S) : W0 hx cd nt nw ty P S1 := by
  have k := DY_self h.2.1 hd
  have ez : (S1.1 22) = (S.1 22) := hF.1 22 (by decide)
  have ht2 : ∀ j, ((S1.2.1 54) j = 0 ∨ (S1.2.1 54) j = 1 ∨ (S1.2.1 54) j = 2) → ((S.2.1 54) j = 0 ∨ (S.2.1 54) j = 1 ∨ (S.2.1 54) j = 2) := by
    intro j hj
    have q := TRs_012 ht j hj
    unfold upd at q
    rcases Decidable.em (j = i) with d | d
    · rw [if_pos d] at q; exact absurd q (by decide)
    · rw [if_neg d] at q; exact q
  refine ⟨⟨(hF.1 5 (by decide)).trans h.1.1, fun j h5 hj => (hF.2.1 j (fun q9 => by simp [RCf] at q9; omega)).trans (h.1.2 j h5 hj)⟩, k.1, k.2, TYP_tr ez (hF.2.1 57 (by decide)) (hF.2.1 68 (by decide)) (hF.2.1 69 (by decide)) (hF.2.1 70 (by decide)) (hF.2.1 71 (by decide)) (hF.2.1 72 (by decide)) ht2 h.2.2.2.1, ?_, ?_, ?_⟩
  · rw [show (S1.2.1 64) = (S.2.1 64) from hF.2.1 64 (by decide)]; exact h.2.2.2.2.1
  · rw [show (S1.2.1 78) = (S.2.1 78) from hF.2.1 78 (by decide)]; exact h.2.2.2.2.2.1
  · rw [ez, show (S1.2.1 51) = (S.2.1 51) from hF.2.1 51 (by decide), show (S1.2.1 60) = (S.2.1 60) from hF.2.1 60 (by decide)]; exact h.2.2.2.2.2.2
abbrev WZ9 : List Nat := [5, 22, 23, 28, 29, 30]
abbrev WF9 : List Nat := [51, 52, 53, 54, 57, 60, 61, 64, 65, 66, 68, 69, 70, 71, 72, 73, 78, 80, 81, 82, 83, 84, 85, 87]
/-- nothing of it is touched -/
def NW (S S1 : mS) : Prop := (∀ k, k ∈ WZ9 → S1.1 k = S.1 k) ∧ (∀ k, k ≤ 45 ∨ k ∈ WF9 → S1.2.1 k = S.2.1 k) ∧ S1.2.2 86 = S.2.2 86
theorem W0_nw {hx : Nat} {cd nt nw : Int} {ty : Nat → T6} {P S S1 : mS} (e : NW S S1) (h : W0 hx cd nt nw ty P S) : W0 hx cd nt nw ty P S1 := by
  obtain ⟨ez, ef, eg⟩ := e
  have z5 := ez 5 (by decide)
  have z22 := ez 22 (by decide)
  have z23 := ez 23 (by decide)
  have z28 := ez 28 (by decide)
  have z29 := ez 29 (by decide)
  have z30 := ez 30 (by decide)
  have e51 := ef 51 (Or.inr (by decide))
  have e52 := ef 52 (Or.inr (by decide))
  have e53 := ef 53 (Or.inr (by decide))
  have e54 := ef 54 (Or.inr (by decide))
  have e57 := ef 57 (Or.inr (by decide))
  have e60 := ef 60 (Or.inr (by decide))
  have e61 := ef 61 (Or.inr (by decide))
  have e64 := ef 64 (Or.inr (by decide))
  have e65 := ef 65 (Or.inr (by decide))
  have e66 := ef 66 (Or.inr (by decide))
  have e68 := ef 68 (Or.inr (by decide))
  have e69 := ef 69 (Or.inr (by decide))
  have e70 := ef 70 (Or.inr (by decide))
  have e71 := ef 71 (Or.inr (by decide))
  have e72 := ef 72 (Or.inr (by decide))
  have e73 := ef 73 (Or.inr (by decide))
  have e78 := ef 78 (Or.inr (by decide))
  have e80 := ef 80 (Or.inr (by decide))
  have e81 := ef 81 (Or.inr (by decide))
  have e82 := ef 82 (Or.inr (by decide))
  have e83 := ef 83 (Or.inr (by decide))
  have e84 := ef 84 (Or.inr (by decide))
  have e85 := ef 85 (Or.inr (by decide))
  have e87 := ef 87 (Or.inr (by decide))
  have eT : ET S S1 := ⟨z22, z29, fun k hk => ef k (Or.inr (by
    have : ∀ k, k ∈ [52, 53, 60, 65, 66, 80, 81, 82, 85] → k ∈ WF9 := by decide
    exact this k hk)), eg⟩
  have d := h.2.2.1
  have k := DY_self h.2.1 (show DY S (-1) S1 from ⟨eT, by rw [z23, e54, e73]; exact d.2.1, by rw [e54]; exact d.2.2.1, by rw [e83, e84]; exact d.2.2.2.1, by rw [e54]; exact d.2.2.2.2.1, by rw [z28, e61]; exact d.2.2.2.2.2.1, by rw [z30, e87]; exact d.2.2.2.2.2.2⟩)
  refine ⟨⟨z5.trans h.1.1, fun j h5 hj => (ef j (Or.inl hj)).trans (h.1.2 j h5 hj)⟩, k.1, k.2, TYP_tr z22 e57 e68 e69 e70 e71 e72 (fun i q => by rw [e54] at q; exact q) h.2.2.2.1, ?_, ?_, ?_⟩
  · rw [e64]; exact h.2.2.2.2.1
  · rw [e78]; exact h.2.2.2.2.2.1
  · rw [z22, e51, e60]; exact h.2.2.2.2.2.2
theorem NW_z {S S1 : mS} {k : Nat} {v : Int32} (e : S1 = sZ S k v) (hk : k ∉ WZ9) : NW S S1 := by
  subst e
  refine ⟨fun j hj => ?_, fun _ _ => rfl, rfl⟩
  show upd S.1 k v j = S.1 j
  unfold upd; rw [if_neg (fun h : j = k => hk (h ▸ hj))]
theorem NW_f {S S1 : mS} {k i : Nat} {v : Int32} (e : S1 = sF S k i v) (hk : 45 < k ∧ k ∉ WF9) : NW S S1 := by
  subst e
  refine ⟨fun _ _ => rfl, fun j hj => ?_, rfl⟩
  show upF S.2.1 k _ j = S.2.1 j
  unfold upF
  rw [if_neg]
  intro h
  rcases hj with g | g
  · have := hk.1; omega
  · exact hk.2 (h ▸ g)
theorem NW_g {S S1 : mS} {k i : Nat} {v : Int64} (e : S1 = sG S k i v) (hk : 86 ≠ k) : NW S S1 := by
  subst e
  refine ⟨fun _ _ => rfl, fun _ _ => rfl, ?_⟩
  show upG S.2.2 k _ 86 = _
  unfold upG
  rw [if_neg hk]
theorem NW_fr {zs fs gs : List Nat} {S S1 : mS} (hF : Fr zs fs gs S S1) (h1 : ∀ k, k ∈ WZ9 → k ∉ zs) (h2 : ∀ k, k ∈ fs → 45 < k ∧ k ∉ WF9) (h3 : 86 ∉ gs) : NW S S1 := ⟨fun k hk => hF.1 k (h1 k hk), fun k hk => hF.2.1 k (fun q => by
    have a := h2 k q
    rcases hk with g | g
    · have := a.1; omega
    · exact a.2 g), hF.2.2 86 h3⟩
/-- writes to the frames of a task that runs -/
theorem W0_fw {hx : Nat} {cd nt nw : Int} {ty : Nat → T6} {P S S1 : mS} {k : Nat} {i t v : Int32} (e : S1 = sF S k (ix i) v) (hk : 69 ≤ k ∧ k ≤ 72) (ht : 0 ≤ t.toInt) (hs : (S.2.1 54) (ix t) = 4) (hi : 11 * t.toInt ≤ i.toInt ∧ i.toInt < 11 * t.toInt + 11) (h : W0 hx cd nt nw ty P S) : W0 hx cd nt nw ty P S1 := by
  subst e
  have ek : ∀ j, ¬ j = k → (sF S k (ix i) v).2.1 j = S.2.1 j := fun j hj => by rw [q_ff, if_neg hj]
  have en : ∀ j (x : Nat), ¬ (11 * t.toInt ≤ (x : Int) ∧ (x : Int) < 11 * t.toInt + 11) → (sF S k (ix i) v).2.1 j x = S.2.1 j x := fun j x hx => by
    rw [q_fx]
    rcases Decidable.em (j = k) with d | d
    · rw [if_pos d, if_neg (by unfold ix; omega), d]
    · rw [if_neg d]
  have d := h.2.2.1
  have q1 : TREE (sF S k (ix i) v) ∧ DY (sF S k (ix i) v) (-1) (sF S k (ix i) v) := DY_self h.2.1 (show DY S (-1) (sF S k (ix i) v) from ⟨ET_f rfl (by
    intro q9; simp at q9; omega) ET_rf, by rw [ek 54 (by omega), ek 73 (by omega)]; exact d.2.1, by rw [ek 54 (by omega)]; exact d.2.2.1, by rw [ek 83 (by omega), ek 84 (by omega)]; exact d.2.2.2.1, by rw [ek 54 (by omega)]; exact d.2.2.2.2.1, by rw [ek 61 (by omega)]; exact d.2.2.2.2.2.1, by rw [ek 87 (by omega)]; exact d.2.2.2.2.2.2⟩)
  refine ⟨⟨h.1.1, fun j h5 hj => (ek j (by omega)).trans (h.1.2 j h5 hj)⟩, q1.1, q1.2, fun s s0 s1 s2 => ?_, by rw [ek 64 (by omega)]; exact h.2.2.2.2.1, by rw [ek 78 (by omega)]; exact h.2.2.2.2.2.1, by rw [ek 51 (by omega), ek 60 (by omega)]; exact h.2.2.2.2.2.2⟩
  rw [ek 54 (by omega)] at s2
  obtain ⟨tr, a, b⟩ := h.2.2.2.1 s s0 s1 s2
  have ne : s.toInt ≠ t.toInt := fun g => by rw [Int32.toInt_inj.mp g, hs] at s2; exact absurd s2 (by decide)
  refine ⟨tr, by rw [ek 57 (by omega)]; exact a, ?_⟩
  rw [ek 68 (by omega)]
  exact FRM_ne b ht s0 ne (fun x hx => ⟨en 69 x hx, en 70 x hx, en 71 x hx, en 72 x hx⟩)
theorem W0_68 {hx : Nat} {cd nt nw : Int} {ty : Nat → T6} {P S S1 : mS} {t v : Int32} (e : S1 = sF S 68 (ix t) v) (ht : 0 ≤ t.toInt) (hs : (S.2.1 54) (ix t) = 4) (h : W0 hx cd nt nw ty P S) : W0 hx cd nt nw ty P S1 := by
  subst e
  have ek : ∀ j, ¬ j = 68 → (sF S 68 (ix t) v).2.1 j = S.2.1 j := fun j hj => by rw [q_ff, if_neg hj]
  have d := h.2.2.1
  have q1 : TREE (sF S 68 (ix t) v) ∧ DY (sF S 68 (ix t) v) (-1) (sF S 68 (ix t) v) := DY_self h.2.1 (show DY S (-1) (sF S 68 (ix t) v) from ⟨ET_f rfl (by decide) ET_rf, by rw [ek 54 (by omega), ek 73 (by omega)]; exact d.2.1, by rw [ek 54 (by omega)]; exact d.2.2.1, by rw [ek 83 (by omega), ek 84 (by omega)]; exact d.2.2.2.1, by rw [ek 54 (by omega)]; exact d.2.2.2.2.1, by rw [ek 61 (by omega)]; exact d.2.2.2.2.2.1, by rw [ek 87 (by omega)]; exact d.2.2.2.2.2.2⟩)
  refine ⟨⟨h.1.1, fun j h5 hj => (ek j (by omega)).trans (h.1.2 j h5 hj)⟩, q1.1, q1.2, fun s s0 s1 s2 => ?_, by rw [ek 64 (by omega)]; exact h.2.2.2.2.1, by rw [ek 78 (by omega)]; exact h.2.2.2.2.2.1, by rw [ek 51 (by omega), ek 60 (by omega)]; exact h.2.2.2.2.2.2⟩
  rw [ek 54 (by omega)] at s2
  obtain ⟨tr, a, b⟩ := h.2.2.2.1 s s0 s1 s2
  have ne : ¬ ix s = ix t := fun g => by rw [g, hs] at s2; exact absurd s2 (by decide)
  refine ⟨tr, by rw [ek 57 (by omega)]; exact a, ?_⟩
  rw [ek 69 (by omega), ek 70 (by omega), ek 71 (by omega), ek 72 (by omega)]
  have e68 : (sF S 68 (ix t) v).2.1 68 (ix s) = S.2.1 68 (ix s) := by rw [q_fx, if_pos rfl, if_neg ne]
  rw [e68]
  exact b
