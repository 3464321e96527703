
theorem upd_s {f : Nat → Int32} {i : Nat} {v : Int32} : upd f i v i = v := by unfold upd; rw [if_pos rfl]
theorem upd_n {f : Nat → Int32} {i j : Nat} {v : Int32} (h : ¬ j = i) : upd f i v j = f j := by unfold upd; rw [if_neg h]
/-- the open nodes of a wait that begins: n of them, the innermost u; all others from ro to hi are shut; ow of them are withins -/
def OPN (up en so : Nat → Int32) (ro : Int) : Nat → Int32 → Int → Int → Prop
  | 0, u, hi, ow => u = -1 ∧ ow = 0 ∧ ∀ k : Int32, ro ≤ k.toInt → k.toInt < hi → 0 < (en (ix k)).toInt
  | n + 1, u, hi, ow => ro ≤ u.toInt ∧ u.toInt < hi ∧ (∀ k : Int32, u.toInt < k.toInt → k.toInt < hi → 0 < (en (ix k)).toInt) ∧ OPN up en so ro n (up (ix u)) u.toInt (ow - if so (ix u) = 2 then 1 else 0)
abbrev RBz : List Nat := [22, 25, 26, 29, 33, 34, 35, 36, 37]
abbrev RBf : List Nat := [54, 60, 80, 81, 82, 85]
/-- a wait begins -/
def RW1 (hx : Nat) (cd : Int) (ty : Nat → T6) (u : T6) (S : mS) : Prop := (S.1 34) = 1 ∧ 0 ≤ (S.1 35).toInt ∧ (S.1 35).toInt ≤ (S.1 29).toInt ∧ OFT S (S.1 33).toInt (S.1 35).toInt (S.1 29).toInt ∧ TG hx cd ty (S.1 37) u.2.2.2.2.2 ∧ ∃ (oc : Nat) (ow : Int), (oc : Int) = u.2.2.2.2.1 ∧ 0 ≤ ow ∧ OPN ((S.2.1 81)) ((S.2.1 82)) ((S.2.1 80)) (S.1 35).toInt oc (S.1 36) (S.1 29).toInt ow ∧ (S.1 29).toInt + u.2.2.2.1 + ow ≤ (S.1 25).toInt ∧ (S.1 29).toInt + ow ≤ (S.1 25).toInt
/-- the task that runs, at a code of type u -/
def RB (hx : Nat) (cd : Int) (ty : Nat → T6) (u : T6) (S : mS) : Prop := (0 ≤ (S.1 33).toInt ∧ (S.1 33).toInt < (S.1 22).toInt ∧ (S.2.1 54) (ix (S.1 33)) = 4 ∧ ¬ (S.2.1 60) (ix (S.1 33)) = 0) ∧ (0 ≤ (S.1 26).toInt ∧ (S.1 26).toInt ≤ 3000 ∧ 0 ≤ (S.1 25).toInt ∧ (S.1 25).toInt ≤ 100000 ∧ (S.1 29).toInt ≤ (S.1 25).toInt) ∧ (u.2.2.1 = 0 → (S.1 34) = 0) ∧ (u.2.2.1 = 1 → RW1 hx cd ty u S) ∧ (u.2.2.1 = 0 ∨ u.2.2.1 = 1) ∧ u.2.2.2.2.1 ≤ 11
/-- nothing of it is touched -/
def NB (S S1 : mS) : Prop := (∀ k, k ∈ RBz → S1.1 k = S.1 k) ∧ (∀ k, k ∈ RBf → S1.2.1 k = S.2.1 k)
theorem RB_nb {hx : Nat} {cd : Int} {ty : Nat → T6} {u : T6} {S S1 : mS} (e : NB S S1) (h : RB hx cd ty u S) : RB hx cd ty u S1 := by
  obtain ⟨ez, ef⟩ := e
  have z22 := ez 22 (by decide)
  have z25 := ez 25 (by decide)
  have z26 := ez 26 (by decide)
  have z29 := ez 29 (by decide)
  have z33 := ez 33 (by decide)
  have z34 := ez 34 (by decide)
  have z35 := ez 35 (by decide)
  have z36 := ez 36 (by decide)
  have z37 := ez 37 (by decide)
  have e54 := ef 54 (by decide)
  have e60 := ef 60 (by decide)
  have e80 := ef 80 (by decide)
  have e81 := ef 81 (by decide)
  have e82 := ef 82 (by decide)
  have e85 := ef 85 (by decide)
  unfold RB RW1 OFT at h ⊢
  rw [z22, z25, z26, z29, z33, z34, z35, z36, z37, e54, e60, e80, e81, e82, e85]
  exact h
theorem NB_z {S S1 : mS} {k : Nat} {v : Int32} (e : S1 = sZ S k v) (hk : k ∉ RBz) : NB S S1 := by
  subst e
  refine ⟨fun j hj => ?_, fun _ _ => rfl⟩
  show upd S.1 k v j = S.1 j
  unfold upd; rw [if_neg (fun h : j = k => hk (h ▸ hj))]
theorem NB_f {S S1 : mS} {k i : Nat} {v : Int32} (e : S1 = sF S k i v) (hk : k ∉ RBf) : NB S S1 := by
  subst e
  refine ⟨fun _ _ => rfl, fun j hj => ?_⟩
  show upF S.2.1 k _ j = S.2.1 j
  unfold upF
  rw [if_neg (fun h : j = k => hk (h ▸ hj))]
theorem NB_g {S S1 : mS} {k i : Nat} {v : Int64} (e : S1 = sG S k i v) : NB S S1 := by
  subst e
  exact ⟨fun _ _ => rfl, fun _ _ => rfl⟩
theorem NB_fr {zs fs gs : List Nat} {S S1 : mS} (hF : Fr zs fs gs S S1) (h1 : ∀ k, k ∈ RBz → k ∉ zs) (h2 : ∀ k, k ∈ RBf → k ∉ fs) : NB S S1 := ⟨fun k hk => hF.1 k (h1 k hk), fun k hk => hF.2.1 k (h2 k hk)⟩
theorem RB_b {hx : Nat} {cd : Int} {ty : Nat → T6} {u : T6} {S : mS} (h : RB hx cd ty u S) : 0 ≤ (S.1 33).toInt ∧ (S.1 33).toInt < (S.1 22).toInt ∧ 0 ≤ (S.1 26).toInt ∧ (S.1 26).toInt ≤ 3000 ∧ 0 ≤ (S.1 25).toInt ∧ (S.1 25).toInt ≤ 100000 ∧ (S.1 29).toInt ≤ (S.1 25).toInt := ⟨h.1.1, h.1.2.1, h.2.1⟩
theorem RB_st {hx : Nat} {cd : Int} {ty : Nat → T6} {u : T6} {S : mS} (tr : Int32) (h : RB hx cd ty u S) (h0 : u.2.2.1 = 0) : RB hx cd ty (ST tr) S := ⟨h.1, h.2.1, fun _ => h.2.2.1 h0, fun q => absurd q (by show ¬ (0 : Int) = 1; omega), Or.inl rfl, by show (0 : Int) ≤ 11; omega⟩
theorem RB_wk {hx : Nat} {cd : Int} {ty : Nat → T6} {u v : T6} {a b : Int} {S : mS} (h : RB hx cd ty u S) (k : WK (a, b, u.2.2.1, u.2.2.2.1, u.2.2.2.2.1, u.2.2.2.2.2) v) : RB hx cd ty v S := by
  obtain ⟨k0, k1, k2, k3, k4, k5, k6⟩ := k
  have k3 : v.2.2.1 = u.2.2.1 := k3
  have k4 : v.2.2.2.1 ≤ u.2.2.2.1 := k4
  have k5 : v.2.2.2.2.1 = u.2.2.2.2.1 := k5
  have k6 : v.2.2.2.2.2 = u.2.2.2.2.2 := k6
  refine ⟨h.1, h.2.1, fun q => h.2.2.1 (by omega), fun q => ?_, by rw [k3]; exact h.2.2.2.2.1, by rw [k5]; exact h.2.2.2.2.2⟩
  have g := h.2.2.2.1 (by omega)
  obtain ⟨a1, a2, a3, a4, a5, oc, ow, b1, b2, b3, b4⟩ := g
  exact ⟨a1, a2, a3, a4, by rw [k6]; exact a5, oc, ow, by rw [k5]; exact b1, b2, b3, by omega⟩
/-- the frames of the task that runs -/
def RF (hx : Nat) (nt nw : Int) (P : mS) (tr : Int32) (S : mS) : Prop := FRM hx nt nw ((P.2.1 25)) ((P.2.1 40)) (S.1 33) ((S.2.1 68) (ix (S.1 33))) tr ((S.2.1 69)) ((S.2.1 70)) ((S.2.1 71)) ((S.2.1 72))
def FS (S : mS) : Int := fsm ((S.2.1 70)) (11 * ix (S.1 33)) (ix ((S.2.1 68) (ix (S.1 33))))
def NF (S S1 : mS) : Prop := S1.1 33 = S.1 33 ∧ (∀ k, k ∈ [68, 69, 70, 71, 72] → S1.2.1 k = S.2.1 k)
theorem RF_nf {hx : Nat} {nt nw : Int} {P S S1 : mS} {tr : Int32} (e : NF S S1) (h : RF hx nt nw P tr S) : RF hx nt nw P tr S1 := by
  obtain ⟨ez, ef⟩ := e
  have e68 := ef 68 (by decide)
  have e69 := ef 69 (by decide)
  have e70 := ef 70 (by decide)
  have e71 := ef 71 (by decide)
  have e72 := ef 72 (by decide)
  unfold RF at h ⊢
  rw [ez, e68, e69, e70, e71, e72]
  exact h
theorem FS_nf {S S1 : mS} (e : NF S S1) : FS S1 = FS S := by
  unfold FS
  rw [e.1, e.2 68 (by decide), e.2 70 (by decide)]
theorem NF_z {S S1 : mS} {k : Nat} {v : Int32} (e : S1 = sZ S k v) (hk : 33 ≠ k) : NF S S1 := by
  subst e
  refine ⟨?_, fun _ _ => rfl⟩
  show upd S.1 k v 33 = S.1 33
  unfold upd; rw [if_neg hk]
theorem NF_f {S S1 : mS} {k i : Nat} {v : Int32} (e : S1 = sF S k i v) (hk : k ∉ [68, 69, 70, 71, 72]) : NF S S1 := by
  subst e
  refine ⟨rfl, fun j hj => ?_⟩
  show upF S.2.1 k _ j = S.2.1 j
  unfold upF
  rw [if_neg (fun h : j = k => hk (h ▸ hj))]
theorem NF_g {S S1 : mS} {k i : Nat} {v : Int64} (e : S1 = sG S k i v) : NF S S1 := by
  subst e
  exact ⟨rfl, fun _ _ => rfl⟩
theorem NF_fr {zs fs gs : List Nat} {S S1 : mS} (hF : Fr zs fs gs S S1) (h1 : 33 ∉ zs) (h2 : ∀ k, k ∈ [68, 69, 70, 71, 72] → k ∉ fs) : NF S S1 := ⟨hF.1 33 h1, fun k hk => hF.2.1 k (h2 k hk)⟩
theorem fsm_ne {fp : Nat → Int32} {b i : Nat} {v : Int32} (n : Nat) (h : b + n ≤ i) : fsm (upd fp i v) b n = fsm fp b n := by
  induction n with
  | zero => rfl
  | succ n ih => unfold fsm; rw [ih (by omega), upd_n (by omega)]
theorem fsm_b {fp : Nat → Int32} {b : Nat} (n : Nat) (h : ∀ j, j < n → 0 ≤ (fp (b + j)).toInt ∧ (fp (b + j)).toInt ≤ 2) : 0 ≤ fsm fp b n ∧ fsm fp b n ≤ 3 * n := by
  induction n with
  | zero => exact ⟨Int.le_refl _, Int.le_refl _⟩
  | succ n ih =>
    have a := ih (fun j hj => h j (by omega))
    have c := h n (by omega)
    unfold fsm
    omega
theorem FRL_p {hx : Nat} {nw : Int} {tt wt : Nat → Int32} {p l w tr : Int32} (h : FRL hx nw tt wt p l w tr) : 0 ≤ p.toInt ∧ p.toInt ≤ 2 := by
  rcases h.1 with g | g | g <;> rw [g] <;> decide
theorem RF_b {hx : Nat} {nt nw : Int} {P S : mS} {tr : Int32} (h : RF hx nt nw P tr S) : 0 ≤ ((S.2.1 68) (ix (S.1 33))).toInt ∧ ((S.2.1 68) (ix (S.1 33))).toInt ≤ 11 := ⟨h.1, h.2.1⟩
theorem FS_b {hx : Nat} {nt nw : Int} {P S : mS} {tr : Int32} (h : RF hx nt nw P tr S) : 0 ≤ FS S ∧ FS S ≤ 33 := by
  have q := fsm_b (fp := (S.2.1 70)) (b := 11 * ix (S.1 33)) (ix ((S.2.1 68) (ix (S.1 33)))) (fun j hj => ?_)
  · have a := h.2.1
    have b := h.1
    unfold FS
    have c : ((ix ((S.2.1 68) (ix (S.1 33))) : Nat) : Int) = ((S.2.1 68) (ix (S.1 33))).toInt := ix_int _ b
    omega
  · have k := (h.2.2.2.2 (ix ((S.2.1 68) (ix (S.1 33))) - 1 - j) (by omega)).2
    have e : ix ((S.2.1 68) (ix (S.1 33))) - 1 - (ix ((S.2.1 68) (ix (S.1 33))) - 1 - j) = j := by omega
    rw [e] at k
    exact FRL_p k
theorem RF_top {hx : Nat} {nt nw : Int} {P S : mS} {tr z : Int32} (h : RF hx nt nw P tr S) (h0 : 0 < ((S.2.1 68) (ix (S.1 33))).toInt) (ht : 0 ≤ (S.1 33).toInt) (hz : z.toInt = 11 * (S.1 33).toInt + ((S.2.1 68) (ix (S.1 33))).toInt - 1) : (S.2.1 69) (ix z) = tr ∧ 500 * hx ≤ tr.toInt ∧ tr.toInt < nt ∧ FRL hx nw ((P.2.1 25)) ((P.2.1 40)) ((S.2.1 70) (ix z)) ((S.2.1 71) (ix z)) ((S.2.1 72) (ix z)) ((P.2.1 25) (ix tr)) := FRM_top h h0 ht hz
theorem RF_pop {hx : Nat} {nt nw : Int} {P S S1 : mS} {tr z : Int32} (e : S1 = sF S 68 (ix (S.1 33)) z) (h : RF hx nt nw P tr S) (h0 : 0 < ((S.2.1 68) (ix (S.1 33))).toInt) (ht : 0 ≤ (S.1 33).toInt) (hz : z.toInt = ((S.2.1 68) (ix (S.1 33))).toInt - 1) (hT : TTW hx nt ((P.2.1 25))) : RF hx nt nw P ((P.2.1 25) (ix tr)) S1 ∧ FS S1 + 1 ≤ FS S := by
  subst e
  have e68 : (sF S 68 (ix (S.1 33)) z).2.1 68 (ix (S.1 33)) = z := by rw [q_fx, if_pos rfl, if_pos rfl]
  constructor
  · show FRM hx nt nw ((P.2.1 25)) ((P.2.1 40)) (S.1 33) ((sF S 68 (ix (S.1 33)) z).2.1 68 (ix (S.1 33))) _ _ _ _ _
    rw [e68]
    exact FRM_pop h h0 hz hT
  · show fsm ((S.2.1 70)) (11 * ix (S.1 33)) (ix ((sF S 68 (ix (S.1 33)) z).2.1 68 (ix (S.1 33)))) + 1 ≤ fsm ((S.2.1 70)) (11 * ix (S.1 33)) (ix ((S.2.1 68) (ix (S.1 33))))
    rw [e68]
    have a1 := ix_int ((S.2.1 68) (ix (S.1 33))) (by omega)
    have a2 := ix_int z (by omega)
    have e1 : ix ((S.2.1 68) (ix (S.1 33))) = ix z + 1 := by omega
    rw [e1]
    have k := (h.2.2.2.2 0 (by omega)).2
    have e2 : 11 * ix (S.1 33) + (ix ((S.2.1 68) (ix (S.1 33))) - 1 - 0) = 11 * ix (S.1 33) + ix z := by omega
    rw [e2] at k
    have p := FRL_p k
    show _ ≤ fsm ((S.2.1 70)) (11 * ix (S.1 33)) (ix z) + (3 - ((S.2.1 70) (11 * ix (S.1 33) + ix z)).toInt)
    omega
theorem FS_set {S S1 : mS} {i v : Int32} (e : S1.2.1 70 = upd ((S.2.1 70)) (ix i) v) (e33 : S1.1 33 = S.1 33) (e68 : S1.2.1 68 = S.2.1 68) (h0 : 0 < ((S.2.1 68) (ix (S.1 33))).toInt) (ht : 0 ≤ (S.1 33).toInt) (hi : i.toInt = 11 * (S.1 33).toInt + ((S.2.1 68) (ix (S.1 33))).toInt - 1) : FS S1 = FS S + ((S.2.1 70) (ix i)).toInt - v.toInt := by
  unfold FS
  rw [e, e33, e68]
  have a1 := ix_int ((S.2.1 68) (ix (S.1 33))) (by omega)
  have a2 := ix_int i (by omega)
  have a3 := ix_int (S.1 33) ht
  obtain ⟨n, hn⟩ : ∃ n, ix ((S.2.1 68) (ix (S.1 33))) = n + 1 := ⟨ix ((S.2.1 68) (ix (S.1 33))) - 1, by omega⟩
  have ei : ix i = 11 * ix (S.1 33) + n := by omega
  rw [hn, ei]
  unfold fsm
  rw [fsm_ne n (Nat.le_refl _), upd_s]
  omega
theorem RF_fin {hx : Nat} {nt nw : Int} {P S S1 S2 S3 : mS} {tr i l w : Int32} (e1 : S1 = sF S 70 (ix i) 2) (e2 : S2 = sF S1 71 (ix i) l) (e3 : S3 = sF S2 72 (ix i) w) (h : RF hx nt nw P tr S) (h0 : 0 < ((S.2.1 68) (ix (S.1 33))).toInt) (ht : 0 ≤ (S.1 33).toInt) (hi : i.toInt = 11 * (S.1 33).toInt + ((S.2.1 68) (ix (S.1 33))).toInt - 1) (hl : FRL hx nw ((P.2.1 25)) ((P.2.1 40)) 2 l w ((P.2.1 25) (ix tr))) : RF hx nt nw P tr S3 ∧ FS S3 = FS S + ((S.2.1 70) (ix i)).toInt - 2 := by
  have e70 : S3.2.1 70 = upd ((S.2.1 70)) (ix i) 2 := by rw [e3, e2, e1]; rfl
  have e71 : S3.2.1 71 = upd ((S.2.1 71)) (ix i) l := by rw [e3, e2, e1]; rfl
  have e72 : S3.2.1 72 = upd ((S.2.1 72)) (ix i) w := by rw [e3, e2, e1]; rfl
  have e68 : S3.2.1 68 = S.2.1 68 := by rw [e3, e2, e1]; rfl
  have e69 : S3.2.1 69 = S.2.1 69 := by rw [e3, e2, e1]; rfl
  have e33 : S3.1 33 = S.1 33 := by rw [e3, e2, e1]; rfl
  constructor
  · unfold RF
    rw [e33, e68, e69, e70, e71, e72]
    exact FRM_set h h0 ht hi hl
  · have q := FS_set e70 e33 e68 h0 ht hi
    have q2 : (2 : Int32).toInt = 2 := rfl
    rw [q2] at q
    exact q
theorem RF_on {hx : Nat} {nt nw : Int} {P S S1 : mS} {tr i : Int32} (e1 : S1 = sF S 70 (ix i) 1) (h : RF hx nt nw P tr S) (h0 : 0 < ((S.2.1 68) (ix (S.1 33))).toInt) (ht : 0 ≤ (S.1 33).toInt) (hi : i.toInt = 11 * (S.1 33).toInt + ((S.2.1 68) (ix (S.1 33))).toInt - 1) : RF hx nt nw P tr S1 ∧ FS S1 = FS S + ((S.2.1 70) (ix i)).toInt - 1 := by
  have e70 : S1.2.1 70 = upd ((S.2.1 70)) (ix i) 1 := by rw [e1]; rfl
  have e33 : S1.1 33 = S.1 33 := by rw [e1]; rfl
  have e68 : S1.2.1 68 = S.2.1 68 := by rw [e1]; rfl
  constructor
  · subst e1
    exact FRM_setp h h0 ht hi (Or.inr (Or.inl rfl))
  · have q := FS_set e70 e33 e68 h0 ht hi
    have q2 : (1 : Int32).toInt = 1 := rfl
    rw [q2] at q
    exact q
theorem RF_push {hx : Nat} {nt nw : Int} {P S S1 S2 S3 S4 : mS} {tr y i z : Int32} (e1 : S1 = sF S 69 (ix i) y) (e2 : S2 = sF S1 70 (ix i) 0) (e3 : S3 = sF S2 71 (ix i) 0) (e4 : S4 = sF S3 68 (ix (S.1 33)) z) (h : RF hx nt nw P tr S) (hl : ((S.2.1 68) (ix (S.1 33))).toInt ≤ 10) (ht : 0 ≤ (S.1 33).toInt) (hi : i.toInt = 11 * (S.1 33).toInt + ((S.2.1 68) (ix (S.1 33))).toInt) (hz : z.toInt = ((S.2.1 68) (ix (S.1 33))).toInt + 1) (h1 : 500 * hx ≤ y.toInt) (h2 : y.toInt < nt) (hy : (P.2.1 25) (ix y) = tr) : RF hx nt nw P y S4 ∧ FS S4 = FS S + 3 := by
  have e70 : S4.2.1 70 = upd ((S.2.1 70)) (ix i) 0 := by rw [e4, e3, e2, e1]; rfl
  have e71 : S4.2.1 71 = upd ((S.2.1 71)) (ix i) 0 := by rw [e4, e3, e2, e1]; rfl
  have e72 : S4.2.1 72 = (S.2.1 72) := by rw [e4, e3, e2, e1]; rfl
  have e68 : S4.2.1 68 = upd (S.2.1 68) (ix (S.1 33)) z := by rw [e4, e3, e2, e1]; rfl
  have e69 : S4.2.1 69 = upd (S.2.1 69) (ix i) y := by rw [e4, e3, e2, e1]; rfl
  have e33 : S4.1 33 = S.1 33 := by rw [e4, e3, e2, e1]; rfl
  have h00 := h.1
  constructor
  · unfold RF
    rw [e33, e68, e69, e70, e71, e72, upd_s]
    exact FRM_push h hl hz ht hi h1 h2 hy
  · unfold FS
    rw [e33, e68, e70, upd_s]
    have a1 := ix_int ((S.2.1 68) (ix (S.1 33))) h00
    have a2 := ix_int z (by omega)
    have a3 := ix_int (S.1 33) ht
    have a4 := ix_int i (by omega)
    have en : ix z = ix ((S.2.1 68) (ix (S.1 33))) + 1 := by omega
    have ei : ix i = 11 * ix (S.1 33) + ix ((S.2.1 68) (ix (S.1 33))) := by omega
    rw [en, ei]
    show fsm _ _ _ + (3 - (upd _ _ _ _).toInt) = _
    rw [fsm_ne _ (Nat.le_refl _), upd_s]
    have q0 : (0 : Int32).toInt = 0 := rfl
    rw [q0]
    omega
theorem FW_tt {hx : Nat} {cd nt nw na : Int} {ty : Nat → T6} {P : mS} (h : FWt hx cd nt nw na ty P) : TTW hx nt ((P.2.1 25)) := fun t h1 h2 => by
  have q := (h.2.2.2.2.2.2.2.1 (ix t) (by unfold ix; omega) (by unfold ix; omega)).1
  rcases q with q | q
  · exact Or.inl (by omega)
  · exact Or.inr ⟨q.1, by have a1 := ix_int t (by omega); have a2 := q.2; omega⟩
theorem FW_b {hx : Nat} {cd nt nw na : Int} {ty : Nat → T6} {P : mS} (h : FWt hx cd nt nw na ty P) : 12000 * hx ≤ cd ∧ cd ≤ 12000 * hx + 12000 ∧ nt ≤ 500 * hx + 500 ∧ nw ≤ 500 * hx + 500 ∧ 0 ≤ ((P.2.1 5) hx).toInt ∧ ((P.2.1 5) hx).toInt ≤ 12 := ⟨h.1.1, h.1.2.1, h.1.2.2.1, h.1.2.2.2.1, h.1.2.2.2.2.2.1, h.1.2.2.2.2.2.2⟩
theorem FW_on {hx : Nat} {cd nt nw na : Int} {ty : Nat → T6} {P S : mS} {y : Int32} (hF : FWt hx cd nt nw na ty P) (h : W0 hx cd nt nw ty P S) (h1 : 500 * hx ≤ y.toInt) (h2 : y.toInt < nt) (h3 : ¬ (S.2.1 28) (ix y) = 0) : TG hx cd ty ((S.2.1 30) (ix y)) y ∧ 0 ≤ ((S.2.1 31) (ix y)).toInt ∧ ((S.2.1 31) (ix y)).toInt < 12 := by
  have q := (hF.2.2.2.1 y h1 h2).1
  have e := h.1.2
  rw [show (S.2.1 28) = (P.2.1 28) from e 28 (by decide) (by decide)] at h3
  rw [show (S.2.1 30) = (P.2.1 30) from e 30 (by decide) (by decide), show (S.2.1 31) = (P.2.1 31) from e 31 (by decide) (by decide)]
  rcases q with q | q | q
  · exact absurd q List.not_mem_nil
  · exact absurd q h3
  · exact q
theorem FW_fi {hx : Nat} {cd nt nw na : Int} {ty : Nat → T6} {P S : mS} {y : Int32} (hF : FWt hx cd nt nw na ty P) (h : W0 hx cd nt nw ty P S) (h1 : 500 * hx ≤ y.toInt) (h2 : y.toInt < nt) (h3 : ¬ (S.2.1 29) (ix y) = 0) : TG hx cd ty ((S.2.1 32) (ix y)) y := by
  have q := (hF.2.2.2.1 y h1 h2).2.1
  have e := h.1.2
  rw [show (S.2.1 29) = (P.2.1 29) from e 29 (by decide) (by decide)] at h3
  rw [show (S.2.1 32) = (P.2.1 32) from e 32 (by decide) (by decide)]
  rcases q with q | q | q
  · exact absurd q List.not_mem_nil
  · exact absurd q h3
  · exact q
theorem FW_be {hx : Nat} {cd nt nw na : Int} {ty : Nat → T6} {P S : mS} {y : Int32} (hF : FWt hx cd nt nw na ty P) (h : W0 hx cd nt nw ty P S) (h1 : 500 * hx ≤ y.toInt) (h2 : y.toInt < nt) : TG hx cd ty ((S.2.1 33) (ix y)) ((P.2.1 25) (ix y)) := by
  have q := (hF.2.2.2.1 y h1 h2).2.2
  have e := h.1.2
  rw [show (S.2.1 33) = (P.2.1 33) from e 33 (by decide) (by decide)]
  rcases q with q | q
  · exact absurd q List.not_mem_nil
  · exact q
theorem FW_wh {hx : Nat} {cd nt nw na : Int} {ty : Nat → T6} {P S : mS} {w : Int32} (hF : FWt hx cd nt nw na ty P) (h : W0 hx cd nt nw ty P S) (h1 : 500 * hx ≤ w.toInt) (h2 : w.toInt < nw) : TG hx cd ty ((S.2.1 42) (ix w)) ((P.2.1 40) (ix w)) ∧ TG hx cd ty ((S.2.1 43) (ix w)) ((P.2.1 40) (ix w)) ∧ 0 ≤ ((S.2.1 41) (ix w)).toInt ∧ dpt ((P.2.1 25)) (ix ((S.2.1 41) (ix w))) ((P.2.1 40) (ix w)) := by
  have q := hF.2.2.2.2.1 w h1 h2
  have e := h.1.2
  rw [show (S.2.1 42) = (P.2.1 42) from e 42 (by decide) (by decide), show (S.2.1 43) = (P.2.1 43) from e 43 (by decide) (by decide), show (S.2.1 41) = (P.2.1 41) from e 41 (by decide) (by decide)]
  exact ⟨q.1.1, q.2.2.elim (fun m => absurd m List.not_mem_nil) id, q.2.1.1, q.2.1.2.1⟩
/-- the task has left its run -/
def ENR (hx : Nat) (cd nt nw : Int) (ty : Nat → T6) (P S : mS) : Prop := W0 hx cd nt nw ty P S ∧ ¬ (S.2.1 54) (ix (S.1 33)) = 4 ∧ 0 ≤ (S.1 25).toInt ∧ (S.1 25).toInt ≤ 100000 ∧ (S.1 29).toInt ≤ (S.1 25).toInt ∧ 0 ≤ (S.1 33).toInt ∧ (S.1 33).toInt < 200
/-- it runs on, frames as many, at no code -/
def RI (hx : Nat) (cd nt nw : Int) (ty : Nat → T6) (P : mS) (F : Int) (S : mS) : Prop := ∃ tr : Int32, W0 hx cd nt nw ty P S ∧ RF hx nt nw P tr S ∧ RB hx cd ty (ST tr) S ∧ FS S ≤ F
/-- it runs on at the code pc -/
def RJ (hx : Nat) (cd nt nw : Int) (ty : Nat → T6) (P : mS) (F : Int) (S : mS) : Prop := ∃ tr : Int32, W0 hx cd nt nw ty P S ∧ RF hx nt nw P tr S ∧ RB hx cd ty (ST tr) S ∧ TG hx cd ty (S.1 32) tr ∧ FS S ≤ F
def OUT (hx : Nat) (cd nt nw : Int) (ty : Nat → T6) (P : mS) (F : Int) (S : mS) : Prop := ENR hx cd nt nw ty P S ∨ RJ hx cd nt nw ty P F S
theorem OUT_m {hx : Nat} {cd nt nw : Int} {ty : Nat → T6} {P S : mS} {F F1 : Int} (h : F ≤ F1) (k : OUT hx cd nt nw ty P F S) : OUT hx cd nt nw ty P F1 S := k.imp id (fun ⟨tr, a, b, c, d, e⟩ => ⟨tr, a, b, c, d, by omega⟩)
theorem RI_b {hx : Nat} {cd nt nw : Int} {ty : Nat → T6} {P S : mS} {F : Int} (k : RI hx cd nt nw ty P F S) : 0 ≤ (S.1 33).toInt ∧ (S.1 33).toInt < 200 := by
  obtain ⟨tr, a, b, c, d⟩ := k
  have := c.1.1
  have := c.1.2.1
  have := a.2.1.1.2.1
  omega
theorem RB_t {hx : Nat} {cd nt nw : Int} {ty : Nat → T6} {P S : mS} {u : T6} (a : W0 hx cd nt nw ty P S) (c : RB hx cd ty u S) : 0 ≤ (S.1 33).toInt ∧ (S.1 33).toInt < 200 := by
  have := c.1.1
  have := c.1.2.1
  have := a.2.1.1.2.1
  omega
theorem RB_fw {hx : Nat} {cd : Int} {ty : Nat → T6} {u : T6} {S S1 : mS} {k i : Nat} {v : Int32} (e : S1 = sF S k i v) (hk : k ∉ RBf) (h : RB hx cd ty u S) : RB hx cd ty u S1 := RB_nb (NB_f e hk) h
theorem sr_ends {hx : Nat} {cd nt nw : Int} {ty : Nat → T6} {P : mS} {u : T6} (a0 a1 a2 : Int32) {S : mS} (ha : a0 = S.1 33) (hW : W0 hx cd nt nw ty P S) (hB : RB hx cd ty u S) : wq_ends a0 a1 a2 S (fun S1 => True ∧ ENR hx cd nt nw ty P S1) := by
  subst ha
  refine fq_ends _ _ _ _ _ _ (fun S1 hF p => ?_) (sq_ends (T := S) (x := -1) (a1 := a1) (a2 := a2) hW.2.1 hW.2.2.1 ⟨hB.1.1, hB.1.2.1⟩ (Or.inl (by rw [hB.1.2.2.1]; decide)) (Or.inl rfl))
  refine ⟨trivial, W0_en hF p.1 p.2.1 hW, ?_, ?_⟩
  · have e33 : S1.1 33 = S.1 33 := hF.1 33 (by decide)
    rw [e33, TRs_3 p.2.1]
    decide
  · rw [show S1.1 25 = S.1 25 from hF.1 25 (by decide), show S1.1 29 = S.1 29 from hF.1 29 (by decide), show S1.1 33 = S.1 33 from hF.1 33 (by decide)]
    exact ⟨hB.2.1.2.2.1, hB.2.1.2.2.2.1, hB.2.1.2.2.2.2, RB_t hW hB⟩
theorem sg_toFinish {hx : Nat} {cd nt nw na : Int} {ty : Nat → T6} {P : mS} {tr : Int32} (a0 a1 a2 : Int32) {S : mS} (hx1 : hx ≤ 1) (hz : a0.toInt = 11 * (S.1 33).toInt + ((S.2.1 68) (ix (S.1 33))).toInt - 1) (h0 : 0 < ((S.2.1 68) (ix (S.1 33))).toInt) (hF : FWt hx cd nt nw na ty P) (hW : W0 hx cd nt nw ty P S) (hR : RF hx nt nw P tr S) (hB : RB hx cd ty (ST tr) S) (hl : FRL hx nw ((P.2.1 25)) ((P.2.1 40)) 2 a1 a2 ((P.2.1 25) (ix tr))) (hh : ¬ (S.2.1 29) (ix tr) = 0) : wp_toFinish a0 a1 a2 S (fun S1 => True ∧ (W0 hx cd nt nw ty P S1 ∧ RF hx nt nw P tr S1 ∧ RB hx cd ty (ST tr) S1 ∧ TG hx cd ty (S1.1 32) tr ∧ FS S1 = FS S + ((S.2.1 70) (ix a0)).toInt - 2 ∧ (S1.1 32) = (S.2.1 32) (ix tr))) := by
  have ht := RB_t hW hB
  have hb := RF_b hR
  have hi : inR a0 2200 := ⟨by omega, by show a0.toInt < 2200; omega⟩
  have k := RF_top hR h0 ht.1 hz
  have fb := FW_b hF
  have fp := FW_tt hF
  unfold wp_toFinish
  refine ⟨hi, fun S1 e1 => ⟨hi, fun S2 e2 => ⟨hi, fun S3 e3 => ⟨hi, fun z4 e4 => ?_⟩⟩⟩⟩
  have e4' : z4 = tr := by rw [e4, e3, e2, e1]; exact k.1
  refine ⟨by rw [e4']; exact ⟨by omega, by show tr.toInt < 1000; omega⟩, fun z5 e5 S6 e6 => ⟨trivial, ?_⟩⟩
  have hs := hB.1.2.2.1
  have s1 : (S1.2.1 54) (ix (S.1 33)) = 4 := by rw [e1]; exact hs
  have s2 : (S2.2.1 54) (ix (S.1 33)) = 4 := by rw [e2]; exact s1
  have hr : 11 * (S.1 33).toInt ≤ a0.toInt ∧ a0.toInt < 11 * (S.1 33).toInt + 11 := by omega
  have w1 := W0_fw (t := S.1 33) e1 (by decide) ht.1 hs hr hW
  have w2 := W0_fw (t := S.1 33) e2 (by decide) ht.1 s1 hr w1
  have w3 := W0_fw (t := S.1 33) e3 (by decide) ht.1 s2 hr w2
  have r3 := RF_fin e1 e2 e3 hR h0 ht.1 hz hl
  have b3 := RB_fw e3 (by decide) (RB_fw e2 (by decide) (RB_fw e1 (by decide) hB))
  have p6 : S6.1 32 = (S.2.1 32) (ix tr) := by rw [e6]; show z5 = _; rw [e5, e4', e3, e2, e1]; rfl
  refine ⟨W0_nw (NW_z e6 (by decide)) w3, RF_nf (NF_z e6 (by decide)) r3.1, RB_nb (NB_z e6 (by decide)) b3, ?_, ?_, p6⟩
  · rw [p6]; exact FW_fi hF hW k.2.1 k.2.2.1 hh
  · rw [FS_nf (NF_z e6 (by decide))]; exact r3.2
