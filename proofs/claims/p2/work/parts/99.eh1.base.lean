
section KR
variable {S S1 : kS}
theorem k_ii {f a g b : Nat} {v : Int32} : (cI S f a v).1 g b = if g = f ∧ b = a then v else S.1 g b := by
  show (if b = a then upd (fun h => S.1 h a) f v g else S.1 g b) = _
  unfold upd
  rcases Decidable.em (b = a) with d | d
  · rcases Decidable.em (g = f) with e | e
    · rw [if_pos d, if_pos e, if_pos ⟨e, d⟩]
    · rw [if_pos d, if_neg e, if_neg (fun q => e q.1), d]
  · rw [if_neg d, if_neg (fun q => d q.2)]
theorem k_ir {f a : Nat} {v : Int32} {g b : Nat} : (cI S f a v).2.1 g b = S.2.1 g b := rfl
theorem k_ia {f a : Nat} {v : Int32} : (cI S f a v).2.2.1 = S.2.2.1 := rfl
theorem k_il {f a : Nat} {v : Int32} : (cI S f a v).2.2.2.1 = S.2.2.2.1 := rfl
theorem k_iq {f a : Nat} {v : Int32} : (cI S f a v).2.2.2.2.1 = S.2.2.2.2.1 := rfl
theorem k_ri {f a : Nat} {v : Option Nat} {g b : Nat} : (cR S f a v).1 g b = S.1 g b := rfl
theorem k_rr {f a g b : Nat} {v : Option Nat} : (cR S f a v).2.1 g b = if g = f ∧ b = a then v else S.2.1 g b := by
  show (if b = a then va_up (fun h => S.2.1 h a) f v g else S.2.1 g b) = _
  unfold va_up
  rcases Decidable.em (b = a) with d | d
  · rcases Decidable.em (g = f) with e | e
    · rw [if_pos d, if_pos e, if_pos ⟨e, d⟩]
    · rw [if_pos d, if_neg e, if_neg (fun q => e q.1), d]
  · rw [if_neg d, if_neg (fun q => d q.2)]
theorem k_ra {f a : Nat} {v : Option Nat} : (cR S f a v).2.2.1 = S.2.2.1 := rfl
theorem k_rl {f a : Nat} {v : Option Nat} : (cR S f a v).2.2.2.1 = S.2.2.2.1 := rfl
theorem k_rq {f a : Nat} {v : Option Nat} : (cR S f a v).2.2.2.2.1 = S.2.2.2.2.1 := rfl
theorem k_ai {q i : Nat} {v : Int32} {g b : Nat} : (cA S q i v).1 g b = S.1 g b := rfl
theorem k_ar {q i : Nat} {v : Int32} {g b : Nat} : (cA S q i v).2.1 g b = S.2.1 g b := rfl
theorem k_aa {q i b j : Nat} {v : Int32} : (cA S q i v).2.2.1 b j = if b = q ∧ j = i then v else S.2.2.1 b j := by
  show va_up S.2.2.1 q (upd (S.2.2.1 q) i v) b j = _
  unfold va_up upd
  rcases Decidable.em (b = q) with d | d
  · rcases Decidable.em (j = i) with e | e
    · rw [if_pos d, if_pos e, if_pos ⟨d, e⟩]
    · rw [if_pos d, if_neg e, if_neg (fun q => e q.2), d]
  · rw [if_neg d, if_neg (fun q => d q.1)]
theorem k_al {q i : Nat} {v : Int32} : (cA S q i v).2.2.2.1 = S.2.2.2.1 := rfl
theorem k_aq {q i : Nat} {v : Int32} : (cA S q i v).2.2.2.2.1 = S.2.2.2.2.1 := rfl
theorem k_li {q i : Nat} {v : Int64} {g b : Nat} : (cL S q i v).1 g b = S.1 g b := rfl
theorem k_lr {q i : Nat} {v : Int64} {g b : Nat} : (cL S q i v).2.1 g b = S.2.1 g b := rfl
theorem k_la {q i : Nat} {v : Int64} : (cL S q i v).2.2.1 = S.2.2.1 := rfl
theorem k_lq {q i : Nat} {v : Int64} : (cL S q i v).2.2.2.2.1 = S.2.2.2.2.1 := rfl
theorem k_ll {q i b j : Nat} {v : Int64} : (cL S q i v).2.2.2.1 b j = if b = q ∧ j = i then v else S.2.2.2.1 b j := by
  show va_up S.2.2.2.1 q (vp_updL (S.2.2.2.1 q) i v) b j = _
  unfold va_up vp_updL
  rcases Decidable.em (b = q) with d | d
  · rcases Decidable.em (j = i) with e | e
    · rw [if_pos d, if_pos e, if_pos ⟨d, e⟩]
    · rw [if_pos d, if_neg e, if_neg (fun q => e q.2), d]
  · rw [if_neg d, if_neg (fun q => d q.1)]
theorem k_qi {q i : Nat} {v : Option Nat} {g b : Nat} : (cQ S q i v).1 g b = S.1 g b := rfl
theorem k_qr {q i : Nat} {v : Option Nat} {g b : Nat} : (cQ S q i v).2.1 g b = S.2.1 g b := rfl
theorem k_qa {q i : Nat} {v : Option Nat} : (cQ S q i v).2.2.1 = S.2.2.1 := rfl
theorem k_ql {q i : Nat} {v : Option Nat} : (cQ S q i v).2.2.2.1 = S.2.2.2.1 := rfl
theorem k_qq {q i b j : Nat} {v : Option Nat} : (cQ S q i v).2.2.2.2.1 b j = if b = q ∧ j = i then v else S.2.2.2.2.1 b j := by
  show va_up S.2.2.2.2.1 q (va_up (S.2.2.2.2.1 q) i v) b j = _
  unfold va_up
  rcases Decidable.em (b = q) with d | d
  · rcases Decidable.em (j = i) with e | e
    · rw [if_pos d, if_pos e, if_pos ⟨d, e⟩]
    · rw [if_pos d, if_neg e, if_neg (fun q => e q.2), d]
  · rw [if_neg d, if_neg (fun q => d q.1)]
abbrev arrL : List Nat := [0, 1, 3, 4, 5, 6, 7, 10, 17, 18, 19, 20, 28, 29, 30, 32, 33, 34, 35, 36, 37, 38, 39, 42, 43, 44, 45, 46, 47, 48, 49, 50, 51, 52, 53, 54, 58, 59, 60, 64, 65, 66, 67, 68]
/-- the arrays that final fields hold are apart -/
def INJ (S : kS) : Prop := ∀ f g a b q, f ∈ arrL → g ∈ arrL → S.2.1 f a = some q → S.2.1 g b = some q → f = g ∧ a = b
/-- the reference fields are as they were, but for those of Z -/
def FX (Z : List Nat) (S S1 : kS) : Prop := ∀ f, f ∉ Z → S1.2.1 f = S.2.1 f
def rdq {α : Type} (d : α) (A : Nat → Nat → α) (o : Option Nat) (i : Nat) : α := match o with
  | some q => A q i
  | none => d
/-- array field f of object a, at i: ints, longs, references -/
def ar (S : kS) (f a i : Nat) : Int32 := if f ∈ arrL then rdq 0 S.2.2.1 (S.2.1 f a) i else 0
def la (S : kS) (f a i : Nat) : Int64 := if f ∈ arrL then rdq 0 S.2.2.2.1 (S.2.1 f a) i else 0
def qa (S : kS) (f a i : Nat) : Option Nat := if f ∈ arrL then rdq none S.2.2.2.2.1 (S.2.1 f a) i else none
section FXs
variable {S0 : kS} {Z : List Nat}
theorem FX_rf : FX Z S S := fun _ _ => rfl
theorem FX_tr (h : FX Z S0 S) (h1 : FX Z S S1) : FX Z S0 S1 := fun f hf => (h1 f hf).trans (h f hf)
theorem FX_i {f a : Nat} {v : Int32} (e : S1 = cI S f a v) (h : FX Z S0 S) : FX Z S0 S1 := by subst e; exact h
theorem FX_a {q i : Nat} {v : Int32} (e : S1 = cA S q i v) (h : FX Z S0 S) : FX Z S0 S1 := by subst e; exact h
theorem FX_l {q i : Nat} {v : Int64} (e : S1 = cL S q i v) (h : FX Z S0 S) : FX Z S0 S1 := by subst e; exact h
theorem FX_q {q i : Nat} {v : Option Nat} (e : S1 = cQ S q i v) (h : FX Z S0 S) : FX Z S0 S1 := by subst e; exact h
theorem FX_r {f a : Nat} {v : Option Nat} (e : S1 = cR S f a v) (hf : f ∈ Z) (h : FX Z S0 S) : FX Z S0 S1 := by
  subst e
  intro g hg
  rw [← h g hg]
  funext b
  rw [k_rr, if_neg (fun q : g = f ∧ b = a => hg (q.1 ▸ hf))]
theorem FX_k {zi zr fa fl fq : List Nat} (hF : KF zi zr fa fl fq S S1) (hz : sub9 zr Z = true) (h : FX Z S0 S) : FX Z S0 S1 := fun f hf => (hF.2.1 f (sub9_m hz hf)).trans (h f hf)
theorem INJ_x (n : FX Z S0 S) (hz : dis9 arrL Z = true) (hI : INJ S0) : INJ S := fun f g a b q hf hg e1 e2 => by
  rw [n f (dis9_m hz hf)] at e1
  rw [n g (dis9_m hz hg)] at e2
  exact hI f g a b q hf hg e1 e2
/-- a reference field that was read -/
theorem rd_w {f a q : Nat} {z : Option Nat} (n : FX Z S0 S) (hz : f ∉ Z) (e : z = S.2.1 f a) (e1 : z = some q) : S0.2.1 f a = some q := (congrFun (n f hz) a).symm.trans (e.symm.trans e1)
theorem ob_q {f a q v : Nat} {z : Option Nat} (n : FX Z S0 S) (hz : f ∉ Z) (h : S0.2.1 f a = some v) (e : z = S.2.1 f a) (e1 : z = some q) : v = q := Option.some.inj (h.symm.trans (rd_w n hz e e1))
theorem ob_e {f a v : Nat} {z : Option Nat} (n : FX Z S0 S) (hz : f ∉ Z) (h : S0.2.1 f a = some v) (e : z = S.2.1 f a) : z = some v := e.trans ((congrFun (n f hz) a).trans h)
theorem ob_h {f a v : Nat} (n : FX Z S0 S) (hz : f ∉ Z) (h : S0.2.1 f a = some v) : S.2.1 f a = some v := (congrFun (n f hz) a).trans h
theorem ar_rd {f a q i : Nat} (n : FX Z S0 S) (hz : f ∉ Z) (hf : f ∈ arrL) (w : S0.2.1 f a = some q) : S.2.2.1 q i = ar S f a i := by
  unfold ar
  rw [if_pos hf, ob_h n hz w]
  rfl
theorem la_rd {f a q i : Nat} (n : FX Z S0 S) (hz : f ∉ Z) (hf : f ∈ arrL) (w : S0.2.1 f a = some q) : S.2.2.2.1 q i = la S f a i := by
  unfold la
  rw [if_pos hf, ob_h n hz w]
  rfl
theorem qa_rd {f a q i : Nat} (n : FX Z S0 S) (hz : f ∉ Z) (hf : f ∈ arrL) (w : S0.2.1 f a = some q) : S.2.2.2.2.1 q i = qa S f a i := by
  unfold qa
  rw [if_pos hf, ob_h n hz w]
  rfl
theorem wr_q {f a q g b q9 : Nat} (hI : INJ S) (hf : f ∈ arrL) (hg : g ∈ arrL) (w : S.2.1 f a = some q) (w9 : S.2.1 g b = some q9) : q9 = q ↔ g = f ∧ b = a :=
  ⟨fun e => by subst e; exact ⟨(hI f g a b _ hf hg w w9).1.symm, (hI f g a b _ hf hg w w9).2.symm⟩, fun e => by
    rw [e.1, e.2] at w9
    exact Option.some.inj (w9.symm.trans w)⟩
theorem ar_wr {f a q i : Nat} {v : Int32} (hI : INJ S0) (n : FX Z S0 S) (hz : dis9 arrL Z = true) (hf : f ∈ arrL) (w : S0.2.1 f a = some q) (e : S1 = cA S q i v) : ∀ g b j, ar S1 g b j = if g = f ∧ b = a ∧ j = i then v else ar S g b j := by
  subst e
  intro g b j
  have wf := ob_h n (dis9_m hz hf) w
  have hI1 := INJ_x n hz hI
  unfold ar
  rcases Decidable.em (g ∈ arrL) with hg | hg
  · rw [if_pos hg, if_pos hg]
    show rdq _ (cA S q i v).2.2.1 (S.2.1 g b) j = _
    cases hq : S.2.1 g b with
    | none =>
      rw [if_neg (fun h => by rw [h.1, h.2.1, wf] at hq; cases hq)]
      rfl
    | some q9 =>
      have hw := wr_q hI1 hf hg wf hq
      show (cA S q i v).2.2.1 q9 j = if _ then v else S.2.2.1 q9 j
      rw [k_aa]
      rcases Decidable.em (q9 = q) with h1 | h1
      · have h2 := hw.mp h1
        rcases Decidable.em (j = i) with h3 | h3
        · rw [if_pos ⟨h1, h3⟩, if_pos ⟨h2.1, h2.2, h3⟩]
        · rw [if_neg (fun h => h3 h.2), if_neg (fun h => h3 h.2.2)]
      · rw [if_neg (fun h => h1 h.1), if_neg (fun h => h1 (hw.mpr ⟨h.1, h.2.1⟩))]
  · rw [if_neg hg, if_neg hg, if_neg (fun h : g = f ∧ b = a ∧ j = i => hg (h.1 ▸ hf))]
theorem ar_cr {f a : Nat} {v : Option Nat} (e : S1 = cR S f a v) (hf : f ∉ arrL) : ∀ g b j, ar S1 g b j = ar S g b j := by
  subst e
  intro g b j
  unfold ar
  rcases Decidable.em (g ∈ arrL) with hg | hg
  · rw [if_pos hg, if_pos hg, k_rr, if_neg (fun h : g = f ∧ b = a => hf (h.1 ▸ hg))]
    rfl
  · rw [if_neg hg, if_neg hg]
theorem KF_ar {zi zr fa fl fq : List Nat} (hF : KF zi zr fa fl fq S S1) (hI : INJ S) (hz : dis9 arrL zr = true) (hs : sub9 fa arrL = true) {f : Nat} (hn : f ∉ fa) : ∀ a j, ar S1 f a j = ar S f a j := by
  intro a j
  unfold ar
  rcases Decidable.em (f ∈ arrL) with hf | hf
  · rw [if_pos hf, if_pos hf, hF.2.1 f (dis9_m hz hf)]
    cases hq : S.2.1 f a with
    | none => rfl
    | some q =>
      show S1.2.2.1 q j = S.2.2.1 q j
      rw [hF.2.2.1 q (fun g hg o e => hn (by
        have := (hI f g a o q hf (sub9_i hs hg) hq e).1
        rw [this]
        exact hg))]
  · rw [if_neg hf, if_neg hf]
theorem la_wr {f a q i : Nat} {v : Int64} (hI : INJ S0) (n : FX Z S0 S) (hz : dis9 arrL Z = true) (hf : f ∈ arrL) (w : S0.2.1 f a = some q) (e : S1 = cL S q i v) : ∀ g b j, la S1 g b j = if g = f ∧ b = a ∧ j = i then v else la S g b j := by
  subst e
  intro g b j
  have wf := ob_h n (dis9_m hz hf) w
  have hI1 := INJ_x n hz hI
  unfold la
  rcases Decidable.em (g ∈ arrL) with hg | hg
  · rw [if_pos hg, if_pos hg]
    show rdq _ (cL S q i v).2.2.2.1 (S.2.1 g b) j = _
    cases hq : S.2.1 g b with
    | none =>
      rw [if_neg (fun h => by rw [h.1, h.2.1, wf] at hq; cases hq)]
      rfl
    | some q9 =>
      have hw := wr_q hI1 hf hg wf hq
      show (cL S q i v).2.2.2.1 q9 j = if _ then v else S.2.2.2.1 q9 j
      rw [k_ll]
      rcases Decidable.em (q9 = q) with h1 | h1
      · have h2 := hw.mp h1
        rcases Decidable.em (j = i) with h3 | h3
        · rw [if_pos ⟨h1, h3⟩, if_pos ⟨h2.1, h2.2, h3⟩]
        · rw [if_neg (fun h => h3 h.2), if_neg (fun h => h3 h.2.2)]
      · rw [if_neg (fun h => h1 h.1), if_neg (fun h => h1 (hw.mpr ⟨h.1, h.2.1⟩))]
  · rw [if_neg hg, if_neg hg, if_neg (fun h : g = f ∧ b = a ∧ j = i => hg (h.1 ▸ hf))]
theorem la_cr {f a : Nat} {v : Option Nat} (e : S1 = cR S f a v) (hf : f ∉ arrL) : ∀ g b j, la S1 g b j = la S g b j := by
  subst e
  intro g b j
  unfold la
  rcases Decidable.em (g ∈ arrL) with hg | hg
  · rw [if_pos hg, if_pos hg, k_rr, if_neg (fun h : g = f ∧ b = a => hf (h.1 ▸ hg))]
    rfl
  · rw [if_neg hg, if_neg hg]
theorem KF_la {zi zr fa fl fq : List Nat} (hF : KF zi zr fa fl fq S S1) (hI : INJ S) (hz : dis9 arrL zr = true) (hs : sub9 fl arrL = true) {f : Nat} (hn : f ∉ fl) : ∀ a j, la S1 f a j = la S f a j := by
  intro a j
  unfold la
  rcases Decidable.em (f ∈ arrL) with hf | hf
  · rw [if_pos hf, if_pos hf, hF.2.1 f (dis9_m hz hf)]
    cases hq : S.2.1 f a with
    | none => rfl
    | some q =>
      show S1.2.2.2.1 q j = S.2.2.2.1 q j
      rw [hF.2.2.2.1 q (fun g hg o e => hn (by
        have := (hI f g a o q hf (sub9_i hs hg) hq e).1
        rw [this]
        exact hg))]
  · rw [if_neg hf, if_neg hf]
theorem qa_wr {f a q i : Nat} {v : Option Nat} (hI : INJ S0) (n : FX Z S0 S) (hz : dis9 arrL Z = true) (hf : f ∈ arrL) (w : S0.2.1 f a = some q) (e : S1 = cQ S q i v) : ∀ g b j, qa S1 g b j = if g = f ∧ b = a ∧ j = i then v else qa S g b j := by
  subst e
  intro g b j
  have wf := ob_h n (dis9_m hz hf) w
  have hI1 := INJ_x n hz hI
  unfold qa
  rcases Decidable.em (g ∈ arrL) with hg | hg
  · rw [if_pos hg, if_pos hg]
    show rdq _ (cQ S q i v).2.2.2.2.1 (S.2.1 g b) j = _
    cases hq : S.2.1 g b with
    | none =>
      rw [if_neg (fun h => by rw [h.1, h.2.1, wf] at hq; cases hq)]
      rfl
    | some q9 =>
      have hw := wr_q hI1 hf hg wf hq
      show (cQ S q i v).2.2.2.2.1 q9 j = if _ then v else S.2.2.2.2.1 q9 j
      rw [k_qq]
      rcases Decidable.em (q9 = q) with h1 | h1
      · have h2 := hw.mp h1
        rcases Decidable.em (j = i) with h3 | h3
        · rw [if_pos ⟨h1, h3⟩, if_pos ⟨h2.1, h2.2, h3⟩]
        · rw [if_neg (fun h => h3 h.2), if_neg (fun h => h3 h.2.2)]
      · rw [if_neg (fun h => h1 h.1), if_neg (fun h => h1 (hw.mpr ⟨h.1, h.2.1⟩))]
  · rw [if_neg hg, if_neg hg, if_neg (fun h : g = f ∧ b = a ∧ j = i => hg (h.1 ▸ hf))]
theorem qa_cr {f a : Nat} {v : Option Nat} (e : S1 = cR S f a v) (hf : f ∉ arrL) : ∀ g b j, qa S1 g b j = qa S g b j := by
  subst e
  intro g b j
  unfold qa
  rcases Decidable.em (g ∈ arrL) with hg | hg
  · rw [if_pos hg, if_pos hg, k_rr, if_neg (fun h : g = f ∧ b = a => hf (h.1 ▸ hg))]
    rfl
  · rw [if_neg hg, if_neg hg]
theorem KF_qa {zi zr fa fl fq : List Nat} (hF : KF zi zr fa fl fq S S1) (hI : INJ S) (hz : dis9 arrL zr = true) (hs : sub9 fq arrL = true) {f : Nat} (hn : f ∉ fq) : ∀ a j, qa S1 f a j = qa S f a j := by
  intro a j
  unfold qa
  rcases Decidable.em (f ∈ arrL) with hf | hf
  · rw [if_pos hf, if_pos hf, hF.2.1 f (dis9_m hz hf)]
    cases hq : S.2.1 f a with
    | none => rfl
    | some q =>
      show S1.2.2.2.2.1 q j = S.2.2.2.2.1 q j
      rw [hF.2.2.2.2.1 q (fun g hg o e => hn (by
        have := (hI f g a o q hf (sub9_i hs hg) hq e).1
        rw [this]
        exact hg))]
  · rw [if_neg hf, if_neg hf]
end FXs
theorem ar_ci {f a : Nat} {v : Int32} {g b j : Nat} : ar (cI S f a v) g b j = ar S g b j := rfl
theorem ar_cl {q i : Nat} {v : Int64} {g b j : Nat} : ar (cL S q i v) g b j = ar S g b j := rfl
theorem ar_cq {q i : Nat} {v : Option Nat} {g b j : Nat} : ar (cQ S q i v) g b j = ar S g b j := rfl
theorem la_ci {f a : Nat} {v : Int32} {g b j : Nat} : la (cI S f a v) g b j = la S g b j := rfl
theorem la_ca {q i : Nat} {v : Int32} {g b j : Nat} : la (cA S q i v) g b j = la S g b j := rfl
theorem la_cq {q i : Nat} {v : Option Nat} {g b j : Nat} : la (cQ S q i v) g b j = la S g b j := rfl
theorem qa_ci {f a : Nat} {v : Int32} {g b j : Nat} : qa (cI S f a v) g b j = qa S g b j := rfl
theorem qa_ca {q i : Nat} {v : Int32} {g b j : Nat} : qa (cA S q i v) g b j = qa S g b j := rfl
theorem qa_cl {q i : Nat} {v : Int64} {g b j : Nat} : qa (cL S q i v) g b j = qa S g b j := rfl
theorem tk_link (x : Int32) : x.toInt = Lean.Grind.ToInt.toInt x := rfl
theorem kn_in (i m : Int32) (n : Nat) (hm : m.toInt = n) (h0 : 0 ≤ i) (h1 : i < m) : inR i n := ⟨w_le h0, by rw [← hm]; exact w_lt h1⟩
theorem kx_int (x : Int32) (h : 0 ≤ x.toInt) : ((ix x : Nat) : Int) = x.toInt := by unfold ix; omega
end KR
