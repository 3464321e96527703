
section WKs
variable {S S1 S2 : kS} {r h pg sc t q : Nat} {N T T1 G : Nat → Prop} {U : List Nat} {L : Nat → List Nat} {D : Nat → Nat} {P : Nat → Int32} {V : PV} {Z0 : kS} {W : Nat → Int → Prop} {k0 : Nat} {n0 c0 m p e ty ty1 w : Int} {K : kS → Prop}
theorem HI_T (g : HI h N T G U L D P S) (k : ∀ u, tl S h u → (S.1 30 u = 0 ∨ S.1 30 u = 1 ∨ S.1 30 u = 2) → T u → T1 u) : HI h N T1 G U L D P S := ⟨g.1, g.2.1, g.2.2.1, fun u hu hl => ⟨(g.2.2.2.1 u hu hl).1, fun a b => k u hl a ((g.2.2.2.1 u hu hl).2 a b)⟩, g.2.2.2.2⟩
/-- the place alone changes -/
theorem GOS_pc {v : Int32} (g : GOS r h pg sc t N V Z0 k0 n0 c0 m ty p e T U L D W S) (e1 : S1 = cI S 36 t v) : GOS r h pg sc t N V Z0 k0 n0 c0 m ty p e T U L D W S1 ∧ S1.1 36 t = v := by
  have f := HF_i e1
  have z36 : S1.1 36 t = v := by rw [e1, k_ii, if_pos ⟨rfl, rfl⟩]
  have ot : OTH t S S1 := fun o hn => ⟨by rw [e1, k_ii, if_neg (fun z => hn z.2)], fun j => by rw [f.2.2.1 59 (by decide)], fun j => by rw [f.2.2.1 60 (by decide)]⟩
  obtain ⟨x1, x2, x3, x4, x5⟩ := GOS_w (p1 := p) g (HF_s f (by decide) (by decide) (by decide) (by decide)) (by rw [f.1 21 (by decide)]; exact g.2.1.1) ot (fun b _ => by rw [f.1 0 (by decide)]) (fun b hb => by rw [f.1 0 (by decide)]; exact g.2.1.2.2.2.1 b hb)
  exact ⟨⟨x1, x2, x3, x4, by rw [f.2.2.1 59 (by decide), f.2.2.1 60 (by decide)]; exact g.2.2.2.2.1, LYR_e g.2.2.2.2.2.1 x5 (f.2.1 23 (by decide)) (f.2.1 25 (by decide)) (f.2.1 63 (by decide)), by rw [f.1 22 (by decide)]; exact g.2.2.2.2.2.2⟩, z36⟩
theorem sk_scopeAt {x : Int32} {K2 : kS → Int32 → Prop} (hv : pv pg sc S = V) (h17 : V.1 17 ≤ 8064) (hx : 0 ≤ x.toInt ∧ x.toInt < V.1 17) (hK : ∀ y : Int32, y.toInt = V.2 30 x.toInt.toNat → K2 S y) : wT_X5_scopeAt pg x S K2 := by
  unfold wT_X5_scopeAt
  have z0 : (0 : Int32).toInt = 0 := rfl
  refine ⟨fun c => ?_, fun _ => ?_⟩
  · have d := Int32.lt_iff_toInt_lt.mp c
    omega
  · intro z2 e2
    have e2b : z2.toInt = V.1 17 := by rw [e2, ← hv]; rfl
    refine ⟨fun c => ?_, fun _ => ?_⟩
    · have d := Int32.le_iff_toInt_le.mp c
      omega
    · intro z4 e4 q5 e5
      refine ⟨⟨hx.1, by show x.toInt < 8064; omega⟩, ?_⟩
      intro z6 e6
      refine hK z6 ?_
      rw [e6, ar_rd (Z := []) (S0 := S) FX_rf (by decide) (by decide) (e4.symm.trans e5), ← hv]
      rfl
/-- a task of the row wakes -/
theorem sk_X6_wake (hP : PGM V) (env : ENV r h pg sc N V Z0 S) (num : NUM r h k0 n0 c0 0 0 S) (trn : TRN h m S) (hm : m ≤ 2000000000) (hi : HI h N T (fun _ => True) U L D P S) (kd : KDI S h N) (I : INJ S) (ot : ∀ u, tl S h u → OTk V (W u) (T u) S u) (ht : tl S h t) (h30 : S.1 30 t = 0) (hrow : ∀ i : Nat, (i : Int) < (S.1 3 h).toInt → qa S 3 h (ix (ar S 4 h i)) ≠ some t) (h22 : S.1 22 r = 0) (hK : ∀ S1, RES r h pg sc t N V Z0 k0 n0 c0 (m + 1) S1 → K S1) : wT_X6_wake r t S K := by
  unfold wT_X6_wake
  intro z1 e1 z2 e2 q3 e3
  obtain rfl : h = q3 := Option.some.inj (env.1.symm.trans (e2.symm.trans e3))
  have pa := hi.2.1
  have sg := hi.2.2.2.1 t trivial ht
  have pt := pa.2.2.1 t (tl_t hi.1 ht)
  have ott := ot t ht
  have tr := trn t ht
  refine kmT_X1_takeBack _ _ _ _ _ (fun S4 hF p4 => ?_) (sk_X1_takeBack (L := L t) (U := U) _ _ I pa.1 pt.1 (pa.2.2.2.1 t) (fun x hx => pa.2.2.2.2.1 t x hx))
  have f4 := HF_k hF I (by decide) (by decide) (by decide)
  have hi4 := HI_tb hi ht (sg.1 (Or.inl h30)) (HF_s f4 (by decide) (by decide) (by decide) (by decide)) p4
  intro S5 e5 S6 e6 z7 e7 z8 e8 S9 e9 z10 e10
  have f5 := HF_i e5
  have f6 := HF_i e6
  have f9 := HF_i e9
  have f45 : HF [30, 34, 38] [11, 24, 61, 62, 63] [] [] S S5 := HF_tr (HF_s f4 (by decide) (by decide) (by decide) (by decide)) (HF_s f5 (by decide) (by decide) (by decide) (by decide))
  have f : HF [30, 34, 38] [11, 24, 61, 62, 63] [] [] S S9 := HF_tr f45 (HF_tr (HF_s f6 (by decide) (by decide) (by decide) (by decide)) (HF_s f9 (by decide) (by decide) (by decide) (by decide)))
  have w4 : HI h N T (fun u => u ≠ t) ((L t).reverse ++ U) (qup L t []) D P S4 := HI_wk hi4 (fun _ _ => trivial)
  have h5 := HI_oc w4 e5 (fun x => absurd rfl x) (fun x => absurd rfl x)
  have h6 := HI_st h5 e6 (fun _ => by rw [f45.1 3 (by decide), f45.2.2.2.1 3 (by decide), f45.2.2.1 4 (by decide)]; exact hrow) (fun x => absurd rfl x) (fun x => absurd rfl x)
  have s6 : S6.1 30 t = 4 := by rw [e6, k_ii, if_pos ⟨rfl, rfl⟩]
  have h6b : HI h N T (fun _ => True) ((L t).reverse ++ U) (qup L t []) D P S6 := HI_sg (t := t) h6 (fun u _ => by
    rcases Decidable.em (u = t) with c | c
    · exact Or.inr c
    · exact Or.inl c) (fun x => by
    rw [s6] at x
    rcases x with x | x | x
    · exact absurd x (by decide)
    · exact absurd x (by decide)
    · exact absurd x.1 (by decide)) (fun x => by rw [s6] at x; exact absurd x (by decide))
  have h6c : HI h N (fun u => u ≠ t ∧ T u) (fun _ => True) ((L t).reverse ++ U) (qup L t []) D P S6 := HI_T h6b (fun u _ hs hT => ⟨fun c => by rw [c, s6] at hs; exact absurd hs (by decide), hT⟩)
  have h9 := HI_i h6c e9 (by decide)
  have z34 : z7 = S.1 34 t := by rw [e7, f6.1 34 (by decide), f5.1 34 (by decide), f4.1 34 (by decide)]
  have z8b : z8.toInt = (S.1 34 t).toInt + 1 := by
    have y := w_add e8 (by show _ ≤ z7.toInt + 1 ∧ z7.toInt + 1 < _; rw [z34]; omega)
    rw [z34] at y
    exact y
  have t9 : S9.1 34 t = z8 := by rw [e9, k_ii, if_pos ⟨rfl, rfl⟩]
  have e36 : S9.1 36 = S.1 36 := f.1 36 (by decide)
  have a59 : ar S9 59 = ar S 59 := f.2.2.1 59 (by decide)
  have a60 : ar S9 60 = ar S 60 := f.2.2.1 60 (by decide)
  have tle : tl S9 h = tl S h := tl_e (f.1 1 (by decide)) (f.2.2.2.1 3 (by decide))
  have s9 : S9.1 30 t = 4 := by rw [f9.1 30 (by decide)]; exact s6
  have o34 : ∀ u, u ≠ t → S9.1 34 u = S.1 34 u := fun u hu => by rw [e9, k_ii, if_neg (fun c => hu c.2), f6.1 34 (by decide), f5.1 34 (by decide), f4.1 34 (by decide)]
  have o30 : ∀ u, u ≠ t → S9.1 30 u = S.1 30 u := fun u hu => by rw [f9.1 30 (by decide), e6, k_ii, if_neg (fun c => hu c.2), f5.1 30 (by decide), f4.1 30 (by decide)]
  have o38 : S9.1 38 t = 0 := by rw [f9.1 38 (by decide), f6.1 38 (by decide), e5, k_ii, if_pos ⟨rfl, rfl⟩]
  have trn9 : TRN h (m + 1) S9 := fun u hu => by
    rw [tle] at hu
    rw [f.1 29 (by decide)]
    rcases Decidable.em (u = t) with c | c
    · rw [c, t9, z8b]
      omega
    · rw [o34 u c]
      have := trn u hu
      omega
  have cor9 : COR h t N V (fun u => u ≠ t ∧ T u) ((L t).reverse ++ U) (qup L t []) D W S9 := by
    refine ⟨fun c => c.1 rfl, ⟨P, h9⟩, KDI_e kd f (by decide) (by decide) (by decide), INJ_hf I f (by decide), by rw [tle]; exact ht, fun u hu hn => ?_, o38, fun c => ?_⟩
    · rw [tle] at hu
      have k := OTk_e (S1 := S9) (ot u hu) (by rw [e36]) (o34 u hn) (fun c => by rw [o30 u hn]; exact c) (fun j => by rw [a59]) (fun j => by rw [a60])
      exact ⟨k.1, k.2.1, fun a b => ⟨(k.2.2 a b).1, (k.2.2 a b).2.1, (k.2.2 a b).2.2.1, fun c => (k.2.2 a b).2.2.2 c.2⟩⟩
    · rw [t9] at c
      rw [c] at z8b
      have : (0 : Int32).toInt = 0 := rfl
      omega
  have env9 := ENV_f env f (by decide) (by decide) (by decide) (by decide)
  have num9 : NUM r h k0 n0 c0 0 0 S9 := NUM_f num f (by decide) (by rw [f.1 21 (by decide)]; exact num.1) (by decide) (by decide)
  have fr9 : FRS V (W t) (ar S9 59 t) (ar S9 60 t) := by rw [a59, a60]; exact ott.1
  have c22 : S9.1 22 r = 0 := by rw [f.1 22 (by decide)]; exact h22
  have g9 : GOS r h pg sc t N V Z0 k0 n0 c0 (m + 1) (-2) 0 0 (fun u => u ≠ t ∧ T u) ((L t).reverse ++ U) (qup L t []) D W S9 := ⟨env9, num9, trn9, cor9, fr9, LYR_m (by decide) s9 qup_at, c22⟩
  have I9 := cor9.2.2.2.1
  have ev := ENV_v env9
  have one : (1 : Int32).toInt = 1 := rfl
  refine ⟨fun c => ?_, fun c => ?_⟩
  · have n0t : S.1 34 t ≠ 0 := fun c9 => c (by
      rw [e10, t9]
      apply Int32.toInt_inj.mp
      rw [z8b, c9]
      rfl)
    obtain ⟨y1, y2, y3, y4⟩ := ott.2.2 n0t (by rw [h30]; decide)
    intro z12 e12 q13 e13
    obtain rfl : h = q13 := Option.some.inj (env9.1.symm.trans (e12.symm.trans e13))
    intro z14 e14 z15 e15
    refine ⟨pg, e14.trans env9.2.1, ?_⟩
    rw [e36] at e15
    refine sk_scopeAt (sc := sc) ev hP.1.2 (by rw [e15]; exact ⟨y1, y2⟩) (fun r17 e17 => ?_)
    have sc17 : -1 ≤ r17.toInt ∧ r17.toInt ≤ 1379 := by rw [e17]; exact hP.2.2.2.2.2.2.1 _
    rw [e15] at e17
    have gv17 : GV V (W t) r17.toInt := by rw [e17]; exact y3
    have lvx : ∀ {b v : Int32} {S1 : kS}, ¬ (b = 1 ∨ b = 2) → LVQ V (W t) r t S9 S1 → HF [22, 23, 31, 32, 36] [] [59, 60] [] S9 S1 → K S1 := fun hb lv fx => by
      have ot2 := lv
      obtain ⟨_, _, _, ot2, _⟩ := ot2
      obtain ⟨x1, x2, x3, x4, x5⟩ := GOS_w (p1 := 0) g9 (HF_s fx (by decide) (by decide) (by decide) (by decide)) (by rw [fx.1 21 (by decide)]; exact num9.1) ot2 (fun b _ => by rw [fx.1 0 (by decide)]) (fun b hb => by rw [fx.1 0 (by decide)]; exact num9.2.2.2.1 b hb)
      exact hK _ (RES_l x1 x2 x3 (x5.trans s9) x4 qup_at lv c22)
    refine ⟨fun c1 => ⟨fun c2 => ?_, fun c2 => ?_⟩, fun c1 => ?_⟩
    · refine kmT_X6_leave _ _ _ _ _ _ _ _ (fun S20 hF2 p2 => ?_) (sk_X6_leave (h := h) (pg := pg) (sc := sc) (W := W t) _ _ _ _ _ I9 env9.1 env9.2.1 env9.2.2.1 (by rw [ev]; exact hP) (by rw [ev]; exact gv17) sc17 (by rw [ev]; exact hP.2.2.2.1.2) (fun x => absurd x (by decide)) (by rw [ev]; exact fr9))
      have fx := HF_k hF2 I9 (by decide) (by decide) (by decide)
      rw [ev] at p2
      exact lvx (b := 5) (v := 0) (by decide) p2 fx
    · intro z21 e21
      refine kmT_X6_leave _ _ _ _ _ _ _ _ (fun S20 hF2 p2 => ?_) (sk_X6_leave (h := h) (pg := pg) (sc := sc) (W := W t) _ _ _ _ _ I9 env9.1 env9.2.1 env9.2.2.1 (by rw [ev]; exact hP) (by rw [ev]; exact gv17) sc17 (by rw [ev]; exact hP.2.2.2.1.2) (fun x => absurd x (by decide)) (by rw [ev]; exact fr9))
      have fx := HF_k hF2 I9 (by decide) (by decide) (by decide)
      rw [ev] at p2
      exact lvx (b := 4) (v := 0) (by decide) p2 fx
    · have o35 := y4 (sg.2 (Or.inl h30) (Or.inr (by rw [← e1]; exact c1)))
      intro z23 e23
      refine kmT_X6_push _ _ _ _ _ (fun S24 hF2 p2 => ?_) (sk_X6_push _ _ I9 num9.1)
      have fx := HF_k hF2 I9 (by decide) (by decide) (by decide)
      have g24 := GOS_f g9 fx (by decide) (by decide) (by decide) (by decide) (by decide) (by decide) (by decide) (by decide) (by decide) (by decide) (by decide) p2
      intro z25 e25 z26 e26 S27 e27
      obtain ⟨g27, z36⟩ := GOS_pc g24 e27
      have l17 : V.1 17 ≤ 8064 := hP.1.2
      have z25b : z25 = S.1 36 t := by rw [e25, fx.1 36 (by decide), e36]
      have z26b : z26.toInt = (S.1 36 t).toInt + 1 := by
        have y := w_add e26 (by show _ ≤ z25.toInt + 1 ∧ z25.toInt + 1 < _; rw [z25b]; omega)
        rw [z25b] at y
        exact y
      have pl0 : PLP V (W t) (tyf (V.2 28) (S.1 36 t).toInt.toNat) (S.1 36 t).toInt := ⟨y1, by omega, rfl, fun _ => y3⟩
      have ts := ty_s hP y1 y2 rfl
      have pl := PLP_s hP pl0 y2 (by rw [o35]; unfold FLS; decide)
      rw [o35] at ts pl
      have t22 := (st35 ts.2 (by decide)).2
      rw [t22] at pl
      exact hK S27 (RES_n (ty := -2) g27 pl (by rw [z36]; exact z26b) (by decide) (by decide))
  · have c0t : S.1 34 t = 0 := by
      rw [e10, t9] at c
      rw [c] at z8b
      apply Int32.toInt_inj.mp
      rw [one] at z8b
      have : (0 : Int32).toInt = 0 := rfl
      omega
    exact hK S9 (RES_n (ty := -2) g9 (ott.2.1 c0t) (by rw [e36]) (by decide) (by decide))
end WKs
section TTs
variable {S S1 S2 : kS} {r h pg sc t q : Nat} {N T T1 G : Nat → Prop} {U : List Nat} {L : Nat → List Nat} {D : Nat → Nat} {P : Nat → Int32} {V : PV} {Z0 : kS} {W : Nat → Int → Prop} {c0 m : Int}
/-- between two turns -/
def BTX (r h pg sc : Nat) (N : Nat → Prop) (V : PV) (Z0 : kS) (c0 m : Int) (T : Nat → Prop) (U : List Nat) (L : Nat → List Nat) (D : Nat → Nat) (P : Nat → Int32) (W : Nat → Int → Prop) (S : kS) : Prop := ENV r h pg sc N V Z0 S ∧ (∃ k : Nat, c0 ≤ (cnt S : Int) ∧ k ≤ 200 ∧ (∀ i : Nat, i < 200 → (qa S 3 h i = none ↔ k ≤ i)) ∧ (cnt S : Int) ≤ c0 + 4 * (k : Int) + (S.1 19 r).toInt) ∧ (0 ≤ (S.1 19 r).toInt ∧ (S.1 19 r).toInt ≤ 100000) ∧ (∀ b, S.2.1 40 r = some b → 0 ≤ (S.1 0 b).toInt ∧ (S.1 0 b).toInt ≤ (S.1 19 r).toInt) ∧ TRN h m S ∧ (0 < (S.1 1 h).toInt → 1 ≤ V.1 18) ∧ HI h N T (fun _ => True) U L D P S ∧ KDI S h N ∧ INJ S ∧ ∀ u, tl S h u → OTk V (W u) (T u) S u
def BTW (r h pg sc : Nat) (N : Nat → Prop) (V : PV) (Z0 : kS) (c0 m : Int) (S : kS) : Prop := (S.1 5 h).toInt = 0 ∧ ∃ T U L D P W, BTX r h pg sc N V Z0 c0 m T U L D P W S
theorem BTX_m {m1 : Int} (b : BTX r h pg sc N V Z0 c0 m T U L D P W S) (hm : m ≤ m1) : BTX r h pg sc N V Z0 c0 m1 T U L D P W S := ⟨b.1, b.2.1, b.2.2.1, b.2.2.2.1, fun u hu => ⟨(b.2.2.2.2.1 u hu).1, Int.le_trans (b.2.2.2.2.1 u hu).2.1 hm, (b.2.2.2.2.1 u hu).2.2⟩, b.2.2.2.2.2⟩
/-- the hall does something -/
theorem BTX_k (b : BTX r h pg sc N V Z0 c0 m T U L D P W S) (f : HF [0, 2, 3, 4, 5, 13, 14, 15, 16, 30, 31, 32, 35, 37, 38, 39] [12, 13, 25, 26, 27] [0, 1, 4, 5, 6, 10, 58] [] S S1) (hi1 : HI h N T (fun _ => True) U L D P S1) (ot : ∀ u, tl S h u → OTk V (W u) (T u) S1 u) : BTX r h pg sc N V Z0 c0 m T U L D P W S1 := by
  obtain ⟨env, ⟨k, k1, k2, k3, k4⟩, b19, bp, trn, h18, hi, kd, I, _⟩ := b
  obtain ⟨v1, v2, v3, v4, v5, v6, v7, b, v10, v11, v12⟩ := env
  have tle : tl S1 h = tl S h := tl_e (f.1 1 (by decide)) (f.2.2.2.1 3 (by decide))
  refine ⟨ENV_f ⟨v1, v2, v3, v4, v5, v6, v7, b, v10, v11, v12⟩ f (by decide) (by decide) (by decide) (by decide), ⟨k, ?_, k2, ?_, ?_⟩, by rw [f.1 19 (by decide)]; exact b19, fun x hx => ?_, TRN_f trn f (by decide) (by decide), by rw [f.1 1 (by decide)]; exact h18, hi1, KDI_e kd f (by decide) (by decide) (by decide), INJ_hf I f (by decide), by rw [tle]; exact ot⟩
  · unfold cnt at k1 ⊢
    rw [f.2.2.2.2]
    exact k1
  · rw [f.2.2.2.1 3 (by decide)]
    exact k3
  · unfold cnt at k4 ⊢
    rw [f.2.2.2.2, f.1 19 (by decide)]
    exact k4
  · rw [f.2.1 40 (by decide)] at hx
    have eb : b = x := Option.some.inj (v10.symm.trans hx)
    rw [f.1 19 (by decide), ← eb]
    have p1 := hi.2.2.2.2.2.2.2.1.2 b v11 v12
    have p2 := hi1.2.2.2.2.2.2.2.1.2 b (by rw [f.2.2.2.2]; exact v11) (by rw [f.2.1 9 (by decide)]; exact v12)
    rw [p2, ← p1]
    exact bp b v10
theorem OTk_k {Wu : Int → Prop} {Q : Prop} {u : Nat} (g : OTk V Wu Q S u) (f : HF [0, 2, 3, 4, 5, 13, 14, 15, 16, 30, 31, 32, 35, 37, 38, 39] [12, 13, 25, 26, 27] [0, 1, 4, 5, 6, 10, 58] [] S S1) (k3 : K3 S S1) : OTk V Wu Q S1 u := OTk_e g (by rw [f.1 36 (by decide)]) (by rw [f.1 34 (by decide)]) (k3 u) (fun j => by rw [f.2.2.1 59 (by decide)]) (fun j => by rw [f.2.2.1 60 (by decide)])
/-- a turn's end -/
theorem BTX_r {k0 : Nat} {n0 : Int} (a1 : ENV r h pg sc N V Z0 S) (a2 : NUM r h k0 n0 c0 0 0 S) (a3 : TRN h m S) (h18 : 1 ≤ V.1 18) (hi : HI h N T (fun _ => True) U L D P S) (kd : KDI S h N) (I : INJ S) (f : HF [0, 2, 3, 4, 5, 13, 14, 15, 16, 30, 31, 32, 35, 37, 38, 39] [12, 13, 25, 26, 27] [0, 1, 4, 5, 6, 10, 58] [] S S1) (hi1 : HI h N T (fun _ => True) U L D P S1) (ot : ∀ u, tl S h u → OTk V (W u) (T u) S1 u) : BTX r h pg sc N V Z0 c0 m T U L D P W S1 := by
  obtain ⟨env, ⟨k, k1, k2, k3, k4⟩, b19, bp, trn, h18, kd, I⟩ : ENV r h pg sc N V Z0 S ∧ (∃ k : Nat, c0 ≤ (cnt S : Int) ∧ k ≤ 200 ∧ (∀ i : Nat, i < 200 → (qa S 3 h i = none ↔ k ≤ i)) ∧ (cnt S : Int) ≤ c0 + 4 * (k : Int) + (S.1 19 r).toInt) ∧ (0 ≤ (S.1 19 r).toInt ∧ (S.1 19 r).toInt ≤ 100000) ∧ (∀ b, S.2.1 40 r = some b → 0 ≤ (S.1 0 b).toInt ∧ (S.1 0 b).toInt ≤ (S.1 19 r).toInt) ∧ TRN h m S ∧ (0 < (S.1 1 h).toInt → 1 ≤ V.1 18) ∧ KDI S h N ∧ INJ S := by
    obtain ⟨g1, g2, g3, g4, k, g5, g6, g7, g8, g9⟩ := a2
    exact ⟨a1, ⟨k, g5.2, g6, g7, by omega⟩, g2, fun b hb => ⟨(g4 b hb).1, by have := (g4 b hb).2; omega⟩, a3, fun _ => h18, kd, I⟩
  obtain ⟨v1, v2, v3, v4, v5, v6, v7, b, v10, v11, v12⟩ := env
  have tle : tl S1 h = tl S h := tl_e (f.1 1 (by decide)) (f.2.2.2.1 3 (by decide))
  refine ⟨ENV_f ⟨v1, v2, v3, v4, v5, v6, v7, b, v10, v11, v12⟩ f (by decide) (by decide) (by decide) (by decide), ⟨k, ?_, k2, ?_, ?_⟩, by rw [f.1 19 (by decide)]; exact b19, fun x hx => ?_, TRN_f trn f (by decide) (by decide), by rw [f.1 1 (by decide)]; exact h18, hi1, KDI_e kd f (by decide) (by decide) (by decide), INJ_hf I f (by decide), by rw [tle]; exact ot⟩
  · unfold cnt at k1 ⊢
    rw [f.2.2.2.2]
    exact k1
  · rw [f.2.2.2.1 3 (by decide)]
    exact k3
  · unfold cnt at k4 ⊢
    rw [f.2.2.2.2, f.1 19 (by decide)]
    exact k4
  · rw [f.2.1 40 (by decide)] at hx
    have eb : b = x := Option.some.inj (v10.symm.trans hx)
    rw [f.1 19 (by decide), ← eb]
    have p1 := hi.2.2.2.2.2.2.2.1.2 b v11 v12
    have p2 := hi1.2.2.2.2.2.2.2.1.2 b (by rw [f.2.2.2.2]; exact v11) (by rw [f.2.1 9 (by decide)]; exact v12)
    rw [p2, ← p1]
    exact bp b v10
theorem tt_61 {k0 : Nat} {n0 : Int} {n9 : Nat} {K : kS → Int32 → Prop} (h18 : 1 ≤ V.1 18) (g : RES r h pg sc t N V Z0 k0 n0 c0 m S) (hK : ∀ S1 r1, BTW r h pg sc N V Z0 c0 m S1 → K S1 r1) : wT_X6_takeTurn_61 K n9 r t S := by
  unfold wT_X6_takeTurn_61
  obtain ⟨a1, a2, a3, a4, T, U, L, D, W, ⟨c1, ⟨P, c2⟩, c3, c4, c5, c6, c7, c8⟩, fr, res⟩ := g
  have n3 : S.1 30 t ≠ 3 := by rcases a4 with c | c <;> (rw [c]; decide)
  have nz : S.1 30 t ≠ 0 := by rcases a4 with c | c <;> (rw [c]; decide)
  intro z14 e14
  refine ⟨fun d1 => ?_, fun d1 => ?_⟩
  · intro z16 e16
    refine ⟨fun d2 => ?_, fun d2 => ?_⟩
    · intro z18 e18 q19 e19
      obtain rfl : h = q19 := Option.some.inj (a1.1.symm.trans (e18.symm.trans e19))
      refine kmT_X1_end _ _ _ _ _ (fun S20 hF p2 => ?_) (sk_X1_end (N := N) (T := T) (G := fun _ => True) (U := U) (L := L) (D := D) (P := P) _ _ c4 c2 c5 (fun _ => trivial))
      have f := HF_k hF c4 (by decide) (by decide) (by decide)
      have f2 : HF [0, 2, 3, 4, 5, 13, 14, 15, 16, 30, 31, 32, 35, 37, 38, 39] [12, 13, 25, 26, 27] [0, 1, 4, 5, 6, 10, 58] [] S S20 := HF_s f (by decide) (by decide) (by decide) (by decide)
      intro z21 e21
      refine hK S20 z21 ⟨p2.2.1, T, U, L, D, P, W, BTX_r a1 a2 a3 h18 c2 c3 c4 f2 p2.1 (fun u hu => ?_)⟩
      rcases Decidable.em (u = t) with c | c
      · rw [c]
        refine ⟨by rw [f.2.2.1 59 (by decide), f.2.2.1 60 (by decide)]; exact fr, fun z => absurd (show S.1 34 t = 0 by rw [← f.1 34 (by decide)]; exact z) c8, fun _ z => absurd p2.2.2.2 z⟩
      · exact OTk_k (c6 u hu c) f2 p2.2.2.1
    · intro z22 e22 z23 e23 q24 e24
      obtain rfl : h = q24 := Option.some.inj (a1.1.symm.trans (e22.symm.trans e24))
      have k2 : S.1 22 r = 2 := e16.symm.trans d2
      rcases res with ⟨c, _⟩ | c | ⟨_, r1, r2, r3, _⟩
      · rw [k2] at c
        exact absurd c (by decide)
      · rw [k2] at c
        exact absurd c (by decide)
      · refine kmT_X1_breakOff _ _ _ _ _ _ (fun S25 hF p2 => ?_) (sk_X1_breakOff (N := N) (T := T) (G := fun _ => True) (U := U) (L := L) (D := D) (P := P) _ _ _ c4 c2 c5 (fun _ => trivial) n3 nz)
        have f := HF_k hF c4 (by decide) (by decide) (by decide)
        have f2 : HF [0, 2, 3, 4, 5, 13, 14, 15, 16, 30, 31, 32, 35, 37, 38, 39] [12, 13, 25, 26, 27] [0, 1, 4, 5, 6, 10, 58] [] S S25 := HF_s f (by decide) (by decide) (by decide) (by decide)
        intro z26 e26
        refine hK S25 z26 ⟨p2.2.1, T, U, L, D, P, W, BTX_r a1 a2 a3 h18 c2 c3 c4 f2 p2.1 (fun u hu => ?_)⟩
        rcases Decidable.em (u = t) with c | c
        · rw [c]
          have o : OTk V (W t) (T t) S t := ⟨fr, fun z => absurd z c8, fun _ _ => ⟨r1, r2, r3, fun z => absurd z c1⟩⟩
          exact OTk_k o f2 p2.2.2
        · exact OTk_k (c6 u hu c) f2 p2.2.2
  · intro z27 e27 q28 e28
    obtain rfl : h = q28 := Option.some.inj (a1.1.symm.trans (e27.symm.trans e28))
    have k2 : S.1 22 r = 1 := e14.symm.trans d1
    rcases res with ⟨c, _⟩ | c | ⟨_, r1, r2, r3, r4⟩
    · rw [k2] at c
      exact absurd c (by decide)
    · rw [k2] at c
      exact absurd c (by decide)
    · have hT : HI h N (fun u => T u ∨ u = t) (fun _ => True) U L D P S := HI_T c2 (fun u _ _ z => Or.inl z)
      refine kmT_X1_stand _ _ _ _ _ (fun S25 hF p2 => ?_) (sk_X1_stand (N := N) (T := fun u => T u ∨ u = t) (G := fun _ => True) (U := U) (L := L) (D := D) (P := P) _ _ c4 hT c5 (fun _ => trivial) n3 nz c7 (Or.inr rfl))
      have f := HF_k hF c4 (by decide) (by decide) (by decide)
      have f2 : HF [0, 2, 3, 4, 5, 13, 14, 15, 16, 30, 31, 32, 35, 37, 38, 39] [12, 13, 25, 26, 27] [0, 1, 4, 5, 6, 10, 58] [] S S25 := HF_s f (by decide) (by decide) (by decide) (by decide)
      intro z26 e26
      refine hK S25 z26 ⟨p2.2.1, _, U, L, D, P, W, BTX_r a1 a2 a3 h18 hT c3 c4 f2 p2.1 (fun u hu => ?_)⟩
      rcases Decidable.em (u = t) with c | c
      · rw [c]
        have o : OTk V (W t) (T t ∨ t = t) S t := ⟨fr, fun z => absurd z c8, fun _ _ => ⟨r1, r2, r3, fun _ => r4 k2⟩⟩
        exact OTk_k o f2 p2.2.2
      · have o := c6 u hu c
        have o2 : OTk V (W u) (T u ∨ u = t) S u := ⟨o.1, o.2.1, fun z1 z2 => ⟨(o.2.2 z1 z2).1, (o.2.2 z1 z2).2.1, (o.2.2 z1 z2).2.2.1, fun z3 => (o.2.2 z1 z2).2.2.2 (z3.resolve_right c)⟩⟩
        exact OTk_k o2 f2 p2.2.2
theorem sk_X6_takeTurn {a0 : Int32} {K : kS → Int32 → Prop} (hP : PGM V) (b : BTW r h pg sc N V Z0 c0 m S) (hm : m ≤ 2000000000) (hK : ∀ S1 r1, BTW r h pg sc N V Z0 c0 (m + 1) S1 → K S1 r1) : wT_X6_takeTurn r a0 S K := by
  obtain ⟨A, T, U, L, D, P, W, bx⟩ := b
  have bx0 := bx
  obtain ⟨env, ⟨k, k1, k2, k3, k4⟩, b19, bp, trn, h18, hi, kd, I, ot⟩ := bx
  unfold wT_X6_takeTurn
  intro z1 e1 q2 e2
  obtain rfl : h = q2 := Option.some.inj (env.1.symm.trans (e1.symm.trans e2))
  have rw0 := hi.2.2.2.2.2.1
  refine kmT_X1_leaveRow _ _ _ _ _ (fun S3 o3 hF p3 => ?_) (sk_X1_leaveRow (n := (S.1 1 h).toInt) _ _ I rw0.1 hi.1.2.1)
  have f3 := HF_k hF I (by decide) (by decide) (by decide)
  have hi3 := HI_lv hi (HF_s f3 (by decide) (by decide) (by decide) (by decide)) p3
  have kk : K3 S S3 := K3_f f3 (by decide)
  have f3b : HF [0, 2, 3, 4, 5, 13, 14, 15, 16, 30, 31, 32, 35, 37, 38, 39] [12, 13, 25, 26, 27] [0, 1, 4, 5, 6, 10, 58] [] S S3 := HF_s f3 (by decide) (by decide) (by decide) (by decide)
  have bx3 := BTX_k bx0 f3b hi3 (fun u hu => OTk_k (ot u hu) f3b kk)
  refine ⟨fun c => hK S3 (-1) ⟨by rw [f3.1 5 (by decide)]; exact A, T, U, L, D, P, W, BTX_m bx3 (by omega)⟩, fun q4 c => ?_⟩
  rcases p3 with ⟨x1, _⟩ | ⟨x0, x1, x2, x3, x4⟩
  · rw [x1] at c
    cases c
  · have p3b : LVE h a0 S S3 o3 := Or.inr ⟨x0, x1, x2, x3, x4⟩
    have hq4 : qa S 3 h (ix (ar S 4 h (ix a0))) = some q4 := x2.symm.trans c
    have kx := kx_int a0 x0
    have en := rw0.1.2.2 (ix a0) (by rw [kx]; exact x1)
    have ex := kx_int (ar S 4 h (ix a0)) en.1
    have ht : tl S h q4 := ⟨ix (ar S 4 h (ix a0)), by rw [ex]; exact en.2, hq4⟩
    have h30 : S.1 30 q4 = 0 := rw0.2.2 (ix a0) q4 (by rw [kx]; exact x1) hq4
    have t200 := hi.1.2.1
    have n28 := hi.1.2.2.2 (ix (ar S 4 h (ix a0))) q4 (by omega) hq4
    have e28 : S.1 28 q4 = ar S 4 h (ix a0) := Int32.toInt_inj.mp (n28.trans ex)
    have ro := (RWI_out rw0 p3b (f3.1 1 (by decide)) (f3.1 30 (by decide)) (f3.2.2.2.1 3 (by decide))).2
    have nr : ∀ i : Nat, (i : Int) < (S3.1 3 h).toInt → ar S3 4 h i ≠ S3.1 28 q4 := fun i hi9 z => (ro i hi9).1 ⟨x0, x1⟩ (by rw [f3.1 28 (by decide), e28] at z; exact z)
    have nq := nr_u hi3.2.2.2.2.2.1 hi3.1 nr
    intro S5 e5 S6 e6 S7 e7
    have f7 : HF [20, 21, 22] [] [] [] S3 S7 := HF_tr (HF_s (HF_i e5) (by decide) (by decide) (by decide) (by decide)) (HF_tr (HF_s (HF_i e6) (by decide) (by decide) (by decide) (by decide)) (HF_s (HF_i e7) (by decide) (by decide) (by decide) (by decide)))
    have z20 : S7.1 20 r = 0 := by rw [(HF_i e7).1 20 (by decide), (HF_i e6).1 20 (by decide), e5, k_ii, if_pos ⟨rfl, rfl⟩]
    have z21 : S7.1 21 r = 0 := by rw [(HF_i e7).1 21 (by decide), e6, k_ii, if_pos ⟨rfl, rfl⟩]
    have z22 : S7.1 22 r = 0 := by rw [e7, k_ii, if_pos ⟨rfl, rfl⟩]
    have z0 : (0 : Int32).toInt = 0 := rfl
    obtain ⟨env3, ⟨k9, l1, l2, l3, l4⟩, c19, cp, trn3, _, _, kd3, I3, ot3⟩ := bx3
    have hi7 := HI_f hi3 f7 (by decide) (by decide) (by decide) (by decide)
    have tl7 : tl S7 h = tl S h := by rw [tl_e (f7.1 1 (by decide)) (f7.2.2.2.1 3 (by decide)), tl_e (f3.1 1 (by decide)) (f3.2.2.2.1 3 (by decide))]
    have tl3 : tl S3 h = tl S h := tl_e (f3.1 1 (by decide)) (f3.2.2.2.1 3 (by decide))
    have one : 1 ≤ V.1 18 := h18 (by
      obtain ⟨i, hi9, _⟩ := ht
      omega)
    have cn7 : cnt S7 = cnt S := by
      unfold cnt
      rw [f7.2.2.2.2, f3.2.2.2.2]
    have num7 : NUM r h k9 (cnt S : Int) c0 0 0 S7 := by
      refine ⟨by rw [z21, z0]; decide, by rw [f7.1 19 (by decide)]; exact c19, by rw [z20, z0]; decide, fun x hx => ?_, k9, ⟨Nat.le_refl _, ?_⟩, l2, ?_, ?_, ?_⟩
      · rw [f7.2.1 40 (by decide)] at hx
        rw [f7.1 0 (by decide), f7.1 19 (by decide)]
        have := cp x hx
        omega
      · unfold cnt at l1 ⊢
        rw [f7.2.2.2.2]
        exact l1
      · rw [f7.2.2.2.1 3 (by decide)]
        exact l3
      · unfold cnt at l4 ⊢
        rw [f7.2.2.2.2, f7.1 19 (by decide)]
        omega
      · rw [cn7, z20, z0]
        omega
    have ot7 : ∀ u, tl S7 h u → OTk V (W u) (T u) S7 u := fun u hu => by
      rw [tl7, ← tl3] at hu
      exact OTk_e (ot3 u hu) (by rw [f7.1 36 (by decide)]) (by rw [f7.1 34 (by decide)]) (fun z => by rw [f7.1 30 (by decide)]; exact z) (fun j => by rw [f7.2.2.1 59 (by decide)]) (fun j => by rw [f7.2.2.1 60 (by decide)])
    refine sk_X6_wake hP (ENV_f env3 f7 (by decide) (by decide) (by decide) (by decide)) num7 (TRN_f trn3 f7 (by decide) (by decide)) hm hi7 (KDI_e kd3 f7 (by decide) (by decide) (by decide)) (INJ_hf I3 f7 (by decide)) ot7 (by rw [tl7]; exact ht) (by rw [f7.1 30 (by decide), f3.1 30 (by decide)]; exact h30) (by rw [f7.1 3 (by decide), f7.2.2.2.1 3 (by decide), f7.2.2.1 4 (by decide)]; exact nq) z22 (fun S8 g8 => ?_)
    refine it_rule (fun u : Nat × Nat × Int32 × kS => u.1 = r ∧ u.2.1 = q4 ∧ 0 ≤ u.2.2.1.toInt ∧ u.2.2.1.toInt ≤ 1000000 ∧ RES r h pg sc q4 N V Z0 k9 (cnt S : Int) c0 (m + 1) u.2.2.2) (fun u => (1000000 - u.2.2.1.toInt).toNat) ?_ ⟨rfl, rfl, Int.le_refl _, by show (0 : Int32).toInt ≤ 1000000; decide, g8⟩
    rintro ⟨x0, x2, x3, Sl⟩ k37 ⟨h3, h4, h5, h6, gl⟩ hk
    have h3 : x0 = r := h3
    have h4 : x2 = q4 := h4
    have h5 : 0 ≤ x3.toInt := h5
    have h6 : x3.toInt ≤ 1000000 := h6
    have gl : RES r h pg sc q4 N V Z0 k9 (cnt S : Int) c0 (m + 1) Sl := gl
    subst h3
    subst h4
    show wT_X6_takeTurn_37 K (cnt S) k37 x0 x2 x3 Sl
    unfold wT_X6_takeTurn_37
    refine ⟨fun _ => tt_61 one gl hK, fun d1 => ?_⟩
    intro z10 e10
    refine ⟨fun _ => tt_61 one gl hK, fun d2 => ?_⟩
    obtain ⟨a1, a2, a3, a4, T9, U9, L9, D9, W9, cr, fr, res⟩ := gl
    have l22 : Sl.1 22 x0 = 0 := e10.symm.trans d2
    refine ⟨?_, ?_⟩
    · obtain ⟨g1, g2, g3, g4, k8, g5, g6, g7, g8, g9⟩ := a2
      omega
    · rcases res with ⟨_, ty, ly, pl, nm⟩ | c9 | ⟨c9, _⟩
      · refine sk_X6_act hP one ⟨a1, nm, a3, cr, fr, ly, l22⟩ pl (fun S12 g12 => ?_)
        intro z13 e13
        have d3 : x3.toInt < 1000000 := by
          have y := d1
          rw [Int32.le_iff_toInt_le] at y
          have zm : (1000000 : Int32).toInt = 1000000 := rfl
          omega
        have zz : z13.toInt = x3.toInt + 1 := w_add e13 (by show _ ≤ x3.toInt + 1 ∧ x3.toInt + 1 < _; omega)
        exact hk _ ⟨rfl, rfl, by show 0 ≤ z13.toInt; omega, by show z13.toInt ≤ 1000000; omega, g12⟩ (by show (1000000 - z13.toInt).toNat < (1000000 - x3.toInt).toNat; omega)
      · rw [l22] at c9
        exact absurd c9 (by decide)
      · rw [l22] at c9
        exact absurd c9 (by decide)
end TTs
