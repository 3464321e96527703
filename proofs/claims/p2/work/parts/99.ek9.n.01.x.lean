
theorem pdn {ty : Int} (h : ty ≠ -1) : pd9 ty = 0 := if_neg h
theorem odn {ty : Int} (h : ty % 2 = 0) : od9 ty = 0 := if_neg (fun c => by omega)
theorem odp {ty : Int} (h : 0 ≤ ty ∧ ty % 2 = 1) : od9 ty = 1 := if_pos h
theorem odm {ty : Int} (h : ty < 0) : od9 ty = 0 := if_neg (fun c => by omega)
theorem od_1 {ty : Int} : od9 ty ≤ 1 := by unfold od9; split <;> decide
theorem i32n {x : Int32} {k : Int32} (h : ¬ x = k) : x.toInt ≠ k.toInt := fun e => h (Int32.toInt_inj.mp e)
/-- the steps of a run -/
def STP (a : Int32) : Prop := a = 1 ∨ a = 2 ∨ a = 3 ∨ a = 4 ∨ a = 26 ∨ a = 27 ∨ a = 29 ∨ a = 31 ∨ a = 32
theorem sk_X5_isStep {a : Int32} {S : kS} {K : kS → Int32 → Prop} (h1 : K S 1) (h0 : ¬ STP a → K S 0) : wT_X5_isStep a S K := by
  unfold wT_X5_isStep
  intro z1 e1 z2 e2 z3 e3
  refine ⟨fun c => h0 (fun st => ?_), fun _ => h1⟩
  rw [e3, e2, e1] at c
  rcases st with st | st | st | st | st | st | st | st | st <;> (rw [st] at c; exact absurd c (by decide))
section ATn
variable {S S1 : kS} {r h pg sc t q : Nat} {N T : Nat → Prop} {U : List Nat} {L : Nat → List Nat} {D : Nat → Nat} {V : PV} {Z0 : kS} {W : Nat → Int → Prop} {k0 : Nat} {n0 c0 m p e ty ty1 w : Int} {O : List Nat} {K : kS → Prop}
variable {a1 a2 : Int32} {s : Int}
theorem LYR_26 (g : LYR ty t L D S) (h0 : 0 ≤ ty) (h1 : ty % 2 = 0) : LYR (ty + 1) t L D S := ⟨fun c => by omega, fun _ => g.2.1 h0, fun _ c => g.2.2.1 h0 (by omega), fun _ c => by
  obtain ⟨O, oc, ol⟩ := g.2.2.2.1 h0 (by omega)
  exact ⟨O, oc, by omega⟩, fun c => g.2.2.2.2 (by omega)⟩
/-- a wait begins -/
theorem at_25 {z : Int32} {S2 : kS} (g : GOS r h pg sc t N V Z0 k0 n0 c0 m ty p e T U L D W S) (ht : ty < 0) (hp : 0 ≤ p) (he : 0 ≤ e) (e1 : S1 = cI S 33 t z) (e2 : S2 = cI S1 30 t 5) : GOS r h pg sc t N V Z0 k0 n0 c0 m 0 p e T U L D W S2 ∧ S2.1 36 t = S.1 36 t := by
  obtain ⟨env, num, trn, cor, fr, ly, h22⟩ := g
  have l4 := ly.1 ht
  have f1 := HF_i e1
  have f2 := HF_i e2
  have f : HF [30, 33] [] [] [] S S2 := HF_tr (HF_s f1 (by decide) (by decide) (by decide) (by decide)) (HF_s f2 (by decide) (by decide) (by decide) (by decide))
  have cor1 : COR h t N V T U L D W S1 := COR_f cor f1 (by decide) (by decide) (by decide) (by decide) (by decide) (by decide) (by decide) (by decide) (by decide) (by decide) (fun b _ => by rw [f1.1 0 (by decide)]) (OTH_f f1 (by decide) (by decide))
  have cor2 := COR_st cor1 e2 ⟨by decide, by decide, by decide⟩ (by rw [f1.1 30 (by decide), l4.1]; decide)
  refine ⟨⟨ENV_f env f (by decide) (by decide) (by decide) (by decide), NUM_f num f (by decide) (by rw [f.1 21 (by decide)]; exact num.1) (by decide) (by decide), TRN_f trn f (by decide) (by decide), cor2, by rw [f.2.2.1 59 (by decide), f.2.2.1 60 (by decide)]; exact fr, ⟨fun c => absurd c (by decide), fun _ => by rw [e2, k_ii, if_pos ⟨rfl, rfl⟩], fun _ _ => l4.2, fun _ _ => ⟨[], ?_, rfl⟩, fun c => absurd c (by decide)⟩, by rw [f.1 22 (by decide)]; exact h22⟩, by rw [f.1 36 (by decide)]⟩
  show S2.2.1 63 t = none
  rw [f.2.1 63 (by decide)]
  exact LYR_n cor l4.2
theorem sk_X6_attend (hP : PGM V) (h18 : 1 ≤ V.1 18) (g : GOS r h pg sc t N V Z0 k0 n0 c0 m ty (pd9 ty + s) (od9 ty + s) T U L D W S) (hs0 : 0 ≤ s) (hs1 : STP a1 → s = 1) (ho : a1.toInt = V.2 28 a2.toInt.toNat) (h2 : 0 ≤ a2.toInt ∧ a2.toInt < V.1 17) (hgv : GV V (W t) (V.2 30 a2.toInt.toNat)) (hst : stp a1.toInt ty ≠ -9) (pl : PLP V (W t) (stp a1.toInt ty) (a2.toInt + 1)) (h36 : (S.1 36 t).toInt = a2.toInt + 1) (h24 : 24 < a1.toInt) (hK : ∀ S1, RES r h pg sc t N V Z0 k0 n0 c0 m S1 → K S1) : wT_X6_attend r t a1 a2 S K := by
  unfold wT_X6_attend
  have cor := g.2.2.2.1
  have I := cor.2.2.2.1
  have ev := ENV_v g.1
  have l17 : V.1 17 ≤ 8064 := hP.1.2
  have p0 := pd_0 (ty := ty)
  have o0 := od_0 (ty := ty)
  have k2 := kx_int a2 h2.1
  intro z1 e1 q2 e2
  obtain rfl : h = q2 := Option.some.inj (g.1.1.symm.trans (e1.symm.trans e2))
  intro z3 e3
  refine ⟨pg, e3.trans g.1.2.1, ?_⟩
  intro z5 e5 q6 e6
  refine ⟨⟨h2.1, by show a2.toInt < 8064; omega⟩, ?_⟩
  intro z7 e7
  have e7b : z7.toInt = V.2 29 a2.toInt.toNat := by
    rw [e7, ar_rd (Z := []) (S0 := S) FX_rf (by decide) (by decide) (e5.symm.trans e6), ← ev]
    rfl
  have act := hP.2.2.2.2.2.2.2.2.2.1 a2.toInt.toNat (by have : ((a2.toInt.toNat : Nat) : Int) = a2.toInt := k2; omega)
  refine ⟨fun c => ?_, fun c25 => ⟨fun c => ?_, fun c26 => ⟨fun c => ?_, fun c27 => ⟨fun c => ?_, fun c28 => ⟨fun c => ?_, fun c29 => ⟨fun c => ?_, fun c30 => ⟨fun c => ?_, fun c31 => ⟨fun c => ?_, fun c32 => ⟨fun c => ?_, fun c33 => ⟨fun c => ?_, fun c34 => ?_⟩⟩⟩⟩⟩⟩⟩⟩⟩⟩
  · have ca : a1.toInt = 25 := by rw [c]; rfl
    obtain ⟨s1, s2, s3⟩ := st25 hst ca
    intro S9 e9 S10 e10
    obtain ⟨g10, e36⟩ := at_25 g s1 (by omega) (by omega) e9 e10
    rw [s3] at pl
    exact hK S10 (RES_n g10 pl (by rw [e36]; exact h36) (by rw [pdn (by decide)]; omega) (by rw [odn (by decide)]; omega))
  · have ca : a1.toInt = 26 := by rw [c]; rfl
    obtain ⟨s1, s2, s3⟩ := st26 hst ca
    have hs := hs1 (by rw [c]; unfold STP; decide)
    rw [s3] at pl
    obtain ⟨env, num, trn, cr, fr, ly, h22⟩ := g
    exact hK S (RES_n (ty := ty + 1) ⟨env, num, trn, cr, fr, LYR_26 ly s1 s2, h22⟩ pl h36 (by rw [pdn (by omega)]; omega) (by have := od_1 (ty := ty + 1); omega))
  · have ca : a1.toInt = 27 := by rw [c]; rfl
    obtain ⟨s1, s2, s3, s4⟩ := st27 hst (Or.inl ca)
    have hs := hs1 (by rw [c]; unfold STP; decide)
    have hb := act.2.2.2.2.1 (by rw [← ho]; exact ca)
    rw [← e7b] at hb
    exact sk_X6_beginLetter (ty1 := stp a1.toInt ty) g hb ⟨s1, by omega⟩ (by omega) (fun S1 U1 L1 D1 g1 e1 => hK S1 (RES_n g1 pl (by rw [e1]; exact h36) (by rw [pdn (by omega)]; omega) (by rw [odn (by omega)]; omega)))
  · have ca : a1.toInt = 28 := by rw [c]; rfl
    obtain ⟨s1, s2, s3, s4⟩ := st28 hst (Or.inl ca)
    have o1 := odp ⟨s1, s2⟩
    refine kmT_X6_pop _ _ _ _ (fun S15 r15 hF p2 => ?_) (sk_X6_pop _ I g.2.1.1)
    have f := HF_k hF I (by decide) (by decide) (by decide)
    have g15 := GOS_f g f (by decide) (by decide) (by decide) (by decide) (by decide) (by decide) (by decide) (by decide) (by decide) (by decide) (by decide) p2
    exact sk_X6_beginTick (ty1 := stp a1.toInt ty) g15 ⟨s1, by omega⟩ (by omega) (fun S1 U1 L1 D1 g1 e1 => hK S1 (RES_n g1 pl (by rw [e1, f.1 36 (by decide)]; exact h36) (by rw [pdn (by omega)]; omega) (by rw [odn (by omega)]; omega)))
  · have ca : a1.toInt = 29 := by rw [c]; rfl
    obtain ⟨s1, s2, s3, s4⟩ := st27 hst (Or.inr ca)
    have hs := hs1 (by rw [c]; unfold STP; decide)
    intro z18 e18 q19 e19
    obtain rfl : h = q19 := Option.some.inj (g.1.1.symm.trans (e18.symm.trans e19))
    obtain ⟨t9, kd9, hU⟩ := GOS_t g
    refine nk_X1_newPart kd9 t9 hU (fun S20 q n hap hhp => ?_)
    obtain ⟨U1, L1, D1, O, nb, e37⟩ := NPX ⟨s1, by omega⟩ g n hap hhp
    refine ⟨q, rfl, ?_⟩
    exact np_come (ty := stp a1.toInt ty) nb (by omega) (fun _ => by omega) (fun _ => by omega) (fun S1 g1 e1 => hK S1 (RES_n g1 pl (by rw [e1, e37]; exact h36) (by rw [pdn (by omega)]; omega) (by rw [odn (by omega)]; omega)))
  · have ca : a1.toInt = 30 := by rw [c]; rfl
    obtain ⟨s1, s2, s3, s4⟩ := st28 hst (Or.inr ca)
    have o1 := odp ⟨s1, s2⟩
    have hb := act.2.2.2.2.2 (by rw [← ho]; exact ca)
    rw [← e7b] at hb
    exact sk_X6_beginChild (ty1 := stp a1.toInt ty) hP h18 g (by omega) (by omega) ⟨s1, by omega⟩ (by omega) hb h2 hgv hK (fun S1 T1 U1 L1 D1 W1 g1 ew e1 => hK S1 (RES_n g1 (by rw [ew]; exact pl) (by rw [e1]; exact h36) (by rw [pdn (by omega)]; omega) (by rw [odn (by omega)]; omega)))
  · have ca : a1.toInt = 31 := by rw [c]; rfl
    obtain ⟨s1, s2, s3, s4⟩ := st31 hst (Or.inl ca)
    have hs := hs1 (by rw [c]; unfold STP; decide)
    intro z26 e26 q27 e27
    obtain rfl : h = q27 := Option.some.inj (g.1.1.symm.trans (e26.symm.trans e27))
    obtain ⟨t9, kd9, hU⟩ := GOS_t g
    refine nk_X1_newPart kd9 t9 hU (fun S28 q n hap hhp => ?_)
    obtain ⟨U1, L1, D1, O, nb, e37⟩ := NPX ⟨s1, by omega⟩ g n hap hhp
    intro S29 e29 z30 e30
    obtain ⟨g29, e63⟩ := NPB_o (ty := stp a1.toInt ty) nb e29 (by omega) (by omega) (by omega)
    refine ⟨q, e30.trans e63, ?_⟩
    intro S32 e32
    have g32 := GOS_f g29 (HF_i e32) (by decide) (by decide) (by decide) (by decide) (by decide) (by decide) (by decide) (by decide) (by decide) (by decide) (by decide) (by rw [(HF_i e32).1 21 (by decide)]; exact g29.2.1.1)
    exact hK S32 (RES_n g32 pl (by rw [(HF_i e32).1 36 (by decide), (HF_r e29 (by decide)).1 36 (by decide), e37]; exact h36) (by rw [pdn (by omega)]; omega) (by rw [odn (by omega)]; omega))
  · have ca : a1.toInt = 32 := by rw [c]; rfl
    obtain ⟨s1, s2, s3, s4⟩ := st31 hst (Or.inr ca)
    have hs := hs1 (by rw [c]; unfold STP; decide)
    intro z26 e26 q27 e27
    obtain rfl : h = q27 := Option.some.inj (g.1.1.symm.trans (e26.symm.trans e27))
    obtain ⟨t9, kd9, hU⟩ := GOS_t g
    refine nk_X1_newPart kd9 t9 hU (fun S28 q n hap hhp => ?_)
    obtain ⟨U1, L1, D1, O, nb, e37⟩ := NPX ⟨s1, by omega⟩ g n hap hhp
    intro S29 e29
    obtain ⟨g29, e63⟩ := NPB_o (ty := stp a1.toInt ty) nb e29 (by omega) (by omega) (by omega)
    exact hK S29 (RES_n g29 pl (by rw [(HF_r e29 (by decide)).1 36 (by decide), e37]; exact h36) (by rw [pdn (by omega)]; omega) (by rw [odn (by omega)]; omega))
  · have ca : a1.toInt = 33 := by rw [c]; rfl
    obtain ⟨s1, s2, s3, s4⟩ := st33 hst ca
    have o1 := odp ⟨s1, s2⟩
    intro z26 e26 q27 e27
    obtain rfl : h = q27 := Option.some.inj (g.1.1.symm.trans (e26.symm.trans e27))
    obtain ⟨t9, kd9, hU⟩ := GOS_t g
    refine nk_X1_newPart kd9 t9 hU (fun S28 q n hap hhp => ?_)
    obtain ⟨U1, L1, D1, O, nb, e37⟩ := NPX ⟨s1, by omega⟩ g n hap hhp
    intro S29 e29 z30 e30
    obtain ⟨g29, e63⟩ := NPB_o (ty := stp a1.toInt ty) nb e29 (by omega) (by omega) (by omega)
    have I29 := g29.2.2.2.1.2.2.2.1
    refine kmT_X6_pop _ _ _ _ (fun S44 r44 hF p2 => ?_) (sk_X6_pop _ I29 g29.2.1.1)
    have f := HF_k hF I29 (by decide) (by decide) (by decide)
    have g44 := GOS_f g29 f (by decide) (by decide) (by decide) (by decide) (by decide) (by decide) (by decide) (by decide) (by decide) (by decide) (by decide) p2
    refine ⟨q, e30.trans e63, ?_⟩
    intro S32 e32
    have g32 := GOS_f g44 (HF_i e32) (by decide) (by decide) (by decide) (by decide) (by decide) (by decide) (by decide) (by decide) (by decide) (by decide) (by decide) (by rw [(HF_i e32).1 21 (by decide)]; exact g44.2.1.1)
    exact hK S32 (RES_n g32 pl (by rw [(HF_i e32).1 36 (by decide), f.1 36 (by decide), (HF_r e29 (by decide)).1 36 (by decide), e37]; exact h36) (by rw [pdn (by omega)]; omega) (by rw [odn (by omega)]; omega))
  · have ca : a1.toInt = 34 := by rw [c]; rfl
    obtain ⟨s1, s2, s3, s4⟩ := st34 hst ca
    exact at_close (ty1 := stp a1.toInt ty) g ⟨s2, s3, s1⟩ (by omega) (fun S1 g1 e1 => hK S1 (RES_n g1 pl (by rw [e1]; exact h36) (by rw [pdn (by omega)]; omega) (by rw [odn (by omega)]; omega)))
  · have m25 : a1.toInt ≠ 25 := i32n c25
    have m26 : a1.toInt ≠ 26 := i32n c26
    have m27 : a1.toInt ≠ 27 := i32n c27
    have m28 : a1.toInt ≠ 28 := i32n c28
    have m29 : a1.toInt ≠ 29 := i32n c29
    have m30 : a1.toInt ≠ 30 := i32n c30
    have m31 : a1.toInt ≠ 31 := i32n c31
    have m32 : a1.toInt ≠ 32 := i32n c32
    have m33 : a1.toInt ≠ 33 := i32n c33
    have m34 : a1.toInt ≠ 34 := i32n c34
    obtain ⟨s1, s2⟩ := st35 hst (by omega)
    intro S49 e49 S50 e50
    have f : HF [0, 21, 22, 23, 31, 32, 36] [] [0, 1, 42, 58, 59, 60] [] S S50 := HF_tr (HF_s (HF_i e49) (by decide) (by decide) (by decide) (by decide)) (HF_s (HF_i e50) (by decide) (by decide) (by decide) (by decide))
    have z0 : S50.1 0 = S.1 0 := by rw [(HF_i e50).1 0 (by decide), (HF_i e49).1 0 (by decide)]
    have z21 : S50.1 21 = S.1 21 := by rw [(HF_i e50).1 21 (by decide), (HF_i e49).1 21 (by decide)]
    have z36 : S50.1 36 t = a2 := by rw [(HF_i e50).1 36 (by decide), e49, k_ii, if_pos ⟨rfl, rfl⟩]
    have z22 : S50.1 22 r = 1 := by rw [e50, k_ii, if_pos ⟨rfl, rfl⟩]
    have a59 : ar S50 59 = ar S 59 := by rw [e50, e49]; rfl
    have a60 : ar S50 60 = ar S 60 := by rw [e50, e49]; rfl
    have ot : OTH t S S50 := fun o hn => ⟨by rw [(HF_i e50).1 36 (by decide), e49, k_ii, if_neg (fun z => hn z.2)], fun j => by rw [a59], fun j => by rw [a60]⟩
    obtain ⟨x1, x2, x3, x4, x5⟩ := GOS_w (p1 := pd9 ty + s) g f (by rw [z21]; exact g.2.1.1) ot (fun b _ => by rw [z0]) (fun b hb => by rw [z0]; exact g.2.1.2.2.2.1 b hb)
    refine hK S50 ⟨x1, NUM_m x2 (by omega) (by omega), x3, by rw [x5]; exact LYR_s g.2.2.2.2.2.1, T, U, L, D, W, x4, by rw [a59, a60]; exact g.2.2.2.2.1, Or.inr (Or.inr ⟨Or.inl z22, ?_⟩)⟩
    rw [z36]
    exact ⟨h2.1, h2.2, hgv, fun _ => by rw [← ho]; exact s1⟩
end ATn
section ACTs
variable {S S1 : kS} {r h pg sc t q : Nat} {N T : Nat → Prop} {U : List Nat} {L : Nat → List Nat} {D : Nat → Nat} {V : PV} {Z0 : kS} {W : Nat → Int → Prop} {k0 : Nat} {n0 c0 m p e ty ty1 w : Int} {O : List Nat} {K : kS → Prop}
variable {a1 a2 : Int32} {s : Int}
/-- the task is over -/
theorem at_end {hw rs : Int32} (g : GOS r h pg sc t N V Z0 k0 n0 c0 m ty p e T U L D W S) (hp : 0 ≤ p) (he : 0 ≤ e) (hK : ∀ S1, RES r h pg sc t N V Z0 k0 n0 c0 m S1 → K S1) : wT_X6_end r t hw rs S K := by
  have I := g.2.2.2.1.2.2.2.1
  refine kmT_X6_end _ _ _ _ _ _ _ (fun S1 hF p2 => ?_) (sk_X6_end _ _ _ _ I)
  have f := HF_k hF I (by decide) (by decide) (by decide)
  obtain ⟨x1, x2, x3, x4, x5⟩ := GOS_w (p1 := p) g (HF_s f (by decide) (by decide) (by decide) (by decide)) (by rw [f.1 21 (by decide)]; exact g.2.1.1) (OTH_f f (by decide) (by decide)) (fun b _ => by rw [f.1 0 (by decide)]) (fun b hb => by rw [f.1 0 (by decide)]; exact g.2.1.2.2.2.1 b hb)
  exact hK S1 ⟨x1, NUM_m x2 hp he, x3, by rw [x5]; exact LYR_s g.2.2.2.2.2.1, T, U, L, D, W, x4, by rw [f.2.2.1 59 (by decide), f.2.2.1 60 (by decide)]; exact g.2.2.2.2.1, Or.inr (Or.inl p2)⟩
theorem act_65 (hP : PGM V) (h18 : 1 ≤ V.1 18) (g : GOS r h pg sc t N V Z0 k0 n0 c0 m ty (pd9 ty + s) (od9 ty + s) T U L D W S) (hs0 : 0 ≤ s) (hs1 : STP a1 → s = 1) (ho : a1.toInt = V.2 28 a2.toInt.toNat) (h2 : 0 ≤ a2.toInt ∧ a2.toInt < V.1 17) (pl : PLP V (W t) ty a2.toInt) (hK : ∀ S1, RES r h pg sc t N V Z0 k0 n0 c0 m S1 → K S1) : wT_X6_act_65 K r t a2 a1 S := by
  unfold wT_X6_act_65
  have l17 : V.1 17 ≤ 8064 := hP.1.2
  have p0 := pd_0 (ty := ty)
  have o0 := od_0 (ty := ty)
  have hgv := pl.2.2.2 h2.2
  obtain ⟨ts, hst⟩ := ty_s hP h2.1 h2.2 pl.2.2.1
  rw [← ho] at hst
  intro z17 e17 S18 e18
  have q17 : z17.toInt = a2.toInt + 1 := w_add e17 (by show _ ≤ a2.toInt + 1 ∧ a2.toInt + 1 < _; omega)
  have f := HF_i e18
  have z36 : S18.1 36 t = z17 := by rw [e18, k_ii, if_pos ⟨rfl, rfl⟩]
  have ot : OTH t S S18 := fun o hn => ⟨by rw [e18, k_ii, if_neg (fun z => hn z.2)], fun j => by rw [f.2.2.1 59 (by decide)], fun j => by rw [f.2.2.1 60 (by decide)]⟩
  have h22 : S18.1 22 r = 0 := by rw [f.1 22 (by decide)]; exact g.2.2.2.2.2.2
  have g18 : GOS r h pg sc t N V Z0 k0 n0 c0 m ty (pd9 ty + s) (od9 ty + s) T U L D W S18 := by
    obtain ⟨x1, x2, x3, x4, x5⟩ := GOS_w (p1 := pd9 ty + s) g (HF_s f (by decide) (by decide) (by decide) (by decide)) (by rw [f.1 21 (by decide)]; exact g.2.1.1) ot (fun b _ => by rw [f.1 0 (by decide)]) (fun b hb => by rw [f.1 0 (by decide)]; exact g.2.1.2.2.2.1 b hb)
    exact ⟨x1, x2, x3, x4, by rw [f.2.2.1 59 (by decide), f.2.2.1 60 (by decide)]; exact g.2.2.2.2.1, LYR_e g.2.2.2.2.2.1 x5 (f.2.1 23 (by decide)) (f.2.1 25 (by decide)) (f.2.1 63 (by decide)), h22⟩
  have h36 : (S18.1 36 t).toInt = a2.toInt + 1 := by rw [z36]; exact q17
  have I := g18.2.2.2.1.2.2.2.1
  have ev := ENV_v g18.1
  have fr := g18.2.2.2.2.1
  have c12 : (12 : Int32).toInt = 12 := rfl
  have c24 : (24 : Int32).toInt = 24 := rfl
  refine ⟨fun c => ⟨fun c1 => ?_, fun c1 => ?_⟩, fun c => ?_⟩
  · have d := Int32.lt_iff_toInt_lt.mp c1
    rw [c24] at d
    have fl : FLS (V.2 28 a2.toInt.toNat) := by rw [← ho]; unfold FLS; omega
    have pl1 := PLP_s hP pl h2.2 fl
    rw [← ho] at pl1
    exact sk_X6_attend hP h18 g18 hs0 hs1 ho h2 hgv hst pl1 h36 d hK
  · have d := Int32.lt_iff_toInt_lt.mp c
    have d1 : a1.toInt ≤ 24 := by
      have := c1
      rw [Int32.lt_iff_toInt_lt] at this
      omega
    rw [c12] at d
    obtain ⟨s1, s2, s3⟩ := st13 hst (by omega) d1
    have l4 := g18.2.2.2.2.2.1.1 s1
    have num := g18.2.1
    have hq9 : (a1.toInt = 13 ∨ a1.toInt = 14 ∨ a1.toInt = 15 ∨ a1.toInt = 22) → PCG (pv pg sc S18) (W t) (a2.toInt + 1) := fun q => by
      have fl : FLS (V.2 28 a2.toInt.toNat) := by rw [← ho]; unfold FLS; omega
      have pl1 := PLP_s hP pl h2.2 fl
      rw [← ho, s2] at pl1
      rw [ev]
      exact pl1
    refine kmT_X6_flow _ _ _ _ _ _ _ (fun S22 hF p2 => ?_) (sk_X6_flow (h := h) (pg := pg) (sc := sc) (W := W t) _ _ _ _ I g18.1.1 g18.1.2.1 g18.1.2.2.1 (by rw [ev]; exact hP) (by rw [ev]; exact h2) (by rw [ev]; exact ho) ⟨by omega, d1⟩ (by rw [ev]; exact hgv) (by rw [ev]; exact fr) h36 hq9 (by rw [l4.1]; decide) num.1 (fun b hb => ⟨(num.2.2.2.1 b hb).1, by have := (num.2.2.2.1 b hb).2; have := num.2.1.2; omega⟩))
    have f2 := HF_k hF I (by decide) (by decide) (by decide)
    rw [ev] at p2
    obtain ⟨lv, n21, pt, pt2⟩ := p2
    have ot2 : OTH t S18 S22 := by
      obtain ⟨_, _, _, ot2, _⟩ := lv
      exact ot2
    obtain ⟨b, hb, hbk, hb9⟩ := g18.1.2.2.2.2.2.2.2
    have h0 : (∀ b9, S18.2.1 9 h = some b9 → S22.1 0 b9 = S18.1 0 b9) ∧ ∀ b9, S18.2.1 40 r = some b9 → 0 ≤ (S22.1 0 b9).toInt ∧ (S22.1 0 b9).toInt + 0 ≤ (S18.1 19 r).toInt := by
      rcases Decidable.em (a1 = 14) with c4 | c4
      · have ca : a1.toInt = 14 := by rw [c4]; rfl
        have t1 : pd9 ty = 1 := by rw [s3 ca]; rfl
        obtain ⟨q1, q2⟩ := pt2 c4 b hb
        refine ⟨fun b9 h9 => q2 b9 (fun z => hb9 (by rw [← z]; exact h9)), fun b9 h9 => ?_⟩
        have eb : b = b9 := Option.some.inj (hb.symm.trans h9)
        rw [← eb, q1]
        have k := num.2.2.2.1 b hb
        omega
      · rw [pt c4]
        exact ⟨fun _ _ => rfl, fun b9 h9 => ⟨(num.2.2.2.1 b9 h9).1, by have k := num.2.2.2.1 b9 h9; omega⟩⟩
    obtain ⟨x1, x2, x3, x4, x5⟩ := GOS_w (p1 := 0) g18 (HF_s f2 (by decide) (by decide) (by decide) (by decide)) n21 ot2 h0.1 h0.2
    exact hK S22 (RES_l x1 (NUM_m x2 (Int.le_refl _) (by omega)) x3 (x5.trans l4.1) x4 l4.2 lv h22)
  · have d : a1.toInt ≤ 12 := by
      have := c
      rw [Int32.lt_iff_toInt_lt] at this
      omega
    obtain ⟨s1, s2, s3, s4⟩ := st12 hst d
    refine kmT_X6_reckon _ _ _ _ _ _ _ (fun S23 hF p2 => ?_) (sk_X6_reckon (h := h) (pg := pg) (sc := sc) (W := W t) _ _ _ _ I g18.1.1 g18.1.2.1 g18.1.2.2.1 (by rw [ev]; exact hP) (by rw [ev]; exact h2) (by rw [ev]; exact hgv) (by rw [ev]; exact fr) g18.2.1.1)
    have f2 := HF_k hF I (by decide) (by decide) (by decide)
    rw [ev] at p2
    obtain ⟨p3, n21⟩ := p2
    rcases p3 with f3 | fl
    · have g23 := GOS_f g18 f3 (by decide) (by decide) (by decide) (by decide) (by decide) (by decide) (by decide) (by decide) (by decide) (by decide) (by decide) n21
      obtain ⟨env, num, trn, cr, fr2, ly, h222⟩ := g23
      have fl : FLS (V.2 28 a2.toInt.toNat) := by rw [← ho]; unfold FLS; omega
      have pl1 := PLP_s hP pl h2.2 fl
      rw [← ho] at pl1
      refine hK S23 (RES_n (ty := stp a1.toInt ty) ⟨env, num, trn, cr, fr2, LYR_t ly s1 s2, h222⟩ pl1 (by rw [f3.1 36 (by decide)]; exact h36) ?_ ?_)
      · rcases Decidable.em (stp a1.toInt ty = -1) with c4 | c4
        · have one : pd9 (stp a1.toInt ty) = 1 := if_pos c4
          rw [one]
          rcases s4 c4 with c5 | c5
          · have hs := hs1 (by
              have k : ∀ x : Int32, a1.toInt = x.toInt → a1 = x := fun x hx => Int32.toInt_inj.mp hx
              unfold STP
              have c6 : a1.toInt = 1 ∨ a1.toInt = 2 ∨ a1.toInt = 3 ∨ a1.toInt = 4 := by omega
              rcases c6 with c6 | c6 | c6 | c6
              · exact Or.inl (k 1 c6)
              · exact Or.inr (Or.inl (k 2 c6))
              · exact Or.inr (Or.inr (Or.inl (k 3 c6)))
              · exact Or.inr (Or.inr (Or.inr (Or.inl (k 4 c6)))))
            omega
          · have t1 : pd9 ty = 1 := if_pos c5
            omega
        · rw [pdn c4]
          omega
      · rcases Decidable.em (ty < 0) with c4 | c4
        · rw [odm (s1 c4)]
          omega
        · rw [s2 (by omega)]
          omega
    · exact hK S23 (RES_b g18 (by omega) (by omega) (HF_s f2 (by decide) (by decide) (by decide) (by decide)) n21 h2 hgv fl)
theorem NUM_s (g : NUM r h k0 n0 c0 p e S) (f : HF [19, 20] [] [] [] S S1) (h19 : (S1.1 19 r).toInt = (S.1 19 r).toInt + 1) (h20 : (S1.1 20 r).toInt = (S.1 20 r).toInt + 1) (l19 : (S.1 19 r).toInt < 100000) (l20 : (S.1 20 r).toInt < 3000) : NUM r h k0 n0 c0 (p + 1) (e + 1) S1 := by
  obtain ⟨g1, g2, g3, g4, k, g5, g6, g7, g8, g9⟩ := g
  unfold NUM cnt
  unfold cnt at g5 g8 g9
  rw [h19, h20, f.1 21 (by decide), f.1 0 (by decide), f.2.1 40 (by decide), f.2.2.2.1 3 (by decide), f.2.2.2.2]
  exact ⟨g1, ⟨by omega, by omega⟩, ⟨by omega, by omega⟩, fun b hb => ⟨(g4 b hb).1, by have := (g4 b hb).2; omega⟩, k, g5, g6, g7, by omega, by omega⟩
theorem sk_X6_act (hP : PGM V) (h18 : 1 ≤ V.1 18) (g : GOS r h pg sc t N V Z0 k0 n0 c0 m ty (pd9 ty) (od9 ty) T U L D W S) (pl : PLP V (W t) ty (S.1 36 t).toInt) (hK : ∀ S1, RES r h pg sc t N V Z0 k0 n0 c0 m S1 → K S1) : wT_X6_act r t S K := by
  unfold wT_X6_act
  have ev := ENV_v g.1
  have I := g.2.2.2.1.2.2.2.1
  have l17 : V.1 17 ≤ 8064 := hP.1.2
  have p0 := pd_0 (ty := ty)
  have o0 := od_0 (ty := ty)
  intro z1 e1 q2 e2
  obtain rfl : h = q2 := Option.some.inj (g.1.1.symm.trans (e1.symm.trans e2))
  intro z3 e3 z4 e4
  rw [← e4] at pl
  refine ⟨fun c => ?_, fun c => ?_⟩
  · unfold wT_X6_act_25
    exact at_end g p0 o0 hK
  · refine ⟨pg, e3.trans g.1.2.1, ?_⟩
    intro z7 e7
    have e7b : z7.toInt = V.1 17 := by rw [e7, ← ev]; rfl
    refine ⟨fun c1 => ?_, fun c1 => ?_⟩
    · have d1 := Int32.lt_iff_toInt_lt.mp c1
      rw [e7b] at d1
      have h2 : 0 ≤ z4.toInt ∧ z4.toInt < V.1 17 := ⟨pl.1, d1⟩
      intro z9 e9 q10 e10
      refine ⟨⟨h2.1, by show z4.toInt < 8064; omega⟩, ?_⟩
      intro z11 e11
      have ho : z11.toInt = V.2 28 z4.toInt.toNat := by
        rw [e11, ar_rd (Z := []) (S0 := S) FX_rf (by decide) (by decide) (e9.symm.trans e10), ← ev]
        rfl
      have gz : GOS r h pg sc t N V Z0 k0 n0 c0 m ty (pd9 ty + 0) (od9 ty + 0) T U L D W S := GOS_m g (by omega) (by omega)
      refine sk_X5_isStep ⟨fun c2 => absurd c2 (by decide), fun _ => ?_⟩ (fun ns => ⟨fun _ => ?_, fun c2 => absurd rfl c2⟩)
      · refine kmT_X6_step _ _ _ _ (fun S14 r14 hF p2 => ?_) (sk_X6_step _ I ⟨g.2.1.2.1.1, g.2.1.2.2.1.1⟩)
        have f := HF_k hF I (by decide) (by decide) (by decide)
        refine ⟨fun c2 => ?_, fun c2 => ?_⟩
        · rcases p2 with ⟨p3, _⟩ | ⟨_, p4, p5, p6, p7⟩
          · exact absurd p3 c2
          · obtain ⟨env, num, trn, cr, fr, ly, h22⟩ := g
            have g14 : GOS r h pg sc t N V Z0 k0 n0 c0 m ty (pd9 ty + 1) (od9 ty + 1) T U L D W S14 := ⟨ENV_f env f (by decide) (by decide) (by decide) (by decide), NUM_s num f p4 p5 p6 p7, TRN_f trn f (by decide) (by decide), COR_f cr f (by decide) (by decide) (by decide) (by decide) (by decide) (by decide) (by decide) (by decide) (by decide) (by decide) (fun b _ => by rw [f.1 0 (by decide)]) (OTH_f f (by decide) (by decide)), by rw [f.2.2.1 59 (by decide), f.2.2.1 60 (by decide)]; exact fr, LYR_e ly (by rw [f.1 30 (by decide)]) (f.2.1 23 (by decide)) (f.2.1 25 (by decide)) (f.2.1 63 (by decide)), by rw [f.1 22 (by decide)]; exact h22⟩
            exact act_65 hP h18 g14 (by decide) (fun _ => rfl) ho h2 pl hK
        · rcases p2 with ⟨_, p3⟩ | ⟨p3, _⟩
          · rw [p3]
            exact at_end g p0 o0 hK
          · exact absurd c2 p3
      · exact act_65 hP h18 gz (Int.le_refl _) (fun c2 => absurd c2 ns) ho h2 pl hK
    · unfold wT_X6_act_25
      exact at_end g p0 o0 hK
end ACTs
