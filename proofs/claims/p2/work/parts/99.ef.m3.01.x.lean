
theorem FWt_oh {hx nx : Nat} {cd nt nw na : Int} {ty : Nat → T6} {S S1 : mS} (hn : hx + nx = 1) (h : OH nx S S1) (hw : FWt hx cd nt nw na ty S) : FWt hx cd nt nw na ty S1 := by
  obtain ⟨b, u, c, t, w, r, a⟩ := hw
  obtain ⟨i1, i2, i3, i4, i5⟩ := HH_i hn
  have gc : ∀ k q, 12 ≤ k → k ≤ 21 → 12000 * hx ≤ q → (q : Int) < 12000 * hx + 12000 → S1.2.1 k q = S.2.1 k q := fun k q h1 h2 h3 h4 => h.1 k q (i1 k q h1 h2 h3 (by omega))
  have gt : ∀ k q, 25 ≤ k → k ≤ 45 → 500 * hx ≤ q → (q : Int) < 500 * hx + 500 → S1.2.1 k q = S.2.1 k q := fun k q h1 h2 h3 h4 => h.1 k q (i2 k q h1 h2 h3 (by omega))
  have gr : ∀ k q, (k = 7 ∨ k = 8 ∨ k = 10 ∨ k = 11 ∨ k = 22 ∨ k = 23) → 12 * hx ≤ q → (q : Int) < 12 * hx + 12 → S1.2.1 k q = S.2.1 k q := fun k q h1 h3 h4 => h.1 k q (i3 k q h1 h3 (by omega))
  have gw : ∀ q, 204 * hx ≤ q → q < 204 * hx + 204 → S1.2.1 24 q = S.2.1 24 q := fun q h3 h4 => h.1 24 q (i4 q h3 h4)
  have g5 : S1.2.1 5 hx = S.2.1 5 hx := h.1 5 hx i5
  have hc : ∀ t : Nat, ((500 * hx : Nat) : Int) ≤ t → (t : Int) < nt → ((S.2.1 25) t).toInt = -1 ∨ (((500 * hx : Nat) : Int) ≤ ((S.2.1 25) t).toInt ∧ ((S.2.1 25) t).toInt < t) := by
    intro t h1 h2
    have q := (a.2.1 t (by omega) h2).1
    omega
  have he : ∀ t : Nat, ((500 * hx : Nat) : Int) ≤ t → (t : Int) < nt → S1.2.1 25 t = S.2.1 25 t := fun t h1 h2 => gt 25 t (by decide) (by decide) (by omega) (by omega)
  have hd := dpt_up hc he (by omega)
  have hn9 := chn_up hc he (by omega)
  have x5 : ∀ t : Int32, 500 * hx ≤ t.toInt → ((ix t : Nat) : Int) = t.toInt := by intro t _; unfold ix; omega
  have xt : ∀ k, 25 ≤ k → k ≤ 45 → ∀ t : Int32, 500 * hx ≤ t.toInt → t.toInt < 500 * hx + 500 → S1.2.1 k (ix t) = S.2.1 k (ix t) := fun k h1 h2 t h3 h4 => gt k (ix t) h1 h2 (by unfold ix; omega) (by unfold ix; omega)
  have st : ∀ z : Int32, 12000 * hx ≤ z.toInt → ST1 cd (S.2.1 12) z → ST1 cd (S1.2.1 12) z := fun z h1 h2 => ⟨h2.1, by rw [gc 12 (ix z) (by decide) (by decide) (by unfold ix; omega) (by have := h2.1; unfold ix; omega)]; exact h2.2⟩
  refine ⟨by rw [g5]; exact b, u, fun q h1 h2 => ?_, fun z h1 h2 => ?_, fun z h1 h2 => ?_, fun z h1 h2 => ?_, fun q h1 h2 => ?_, fun q h1 h2 => ?_, fun q h1 h2 => ?_⟩
  · have k := c q h1 h2
    have e12 := gc 12 q (by decide) (by decide) h1 (by omega)
    have e13 := gc 13 q (by decide) (by decide) h1 (by omega)
    have e14 := gc 14 q (by decide) (by decide) h1 (by omega)
    unfold okF at k ⊢
    rw [e12, e13, e14]
    refine okJ_m k (fun g => ⟨g.1, g.2.imp id (st _ g.1.1)⟩) (fun g => ?_) (fun g => ?_) (fun g => ?_) id (fun g => ?_)
    · rw [g5]
      refine ⟨g.1, g.2.1, ?_⟩
      rw [gr 7 _ (Or.inl rfl) (by omega) (by have := g.1; have := g.2.1; have := b.2.2.2.2.2.2; unfold ix; omega)]
      exact g.2.2
    · obtain ⟨r1, r2, ⟨j, r3⟩, r4⟩ := g
      refine ⟨r1, r2, ⟨j, ?_⟩, r4⟩
      rw [hn9 j _ (by rcases r4 with q | q <;> omega), xt 40 (by decide) (by decide) _ r1 (by omega)]
      exact r3
    · obtain ⟨r1, r2, r3, n, r4, r5⟩ := g
      have a9 := x5 _ r1
      have c9 := hc (ix ((S.2.1 13) q)) (by omega) (by omega)
      exact ⟨r1, r2, (xt 25 (by decide) (by decide) _ r1 (by omega)).trans r3, n, r4, hd n _ (by rw [← r3]; omega) r5⟩
    · refine ⟨g.1, g.2.1, ?_⟩
      rw [xt 29 (by decide) (by decide) _ g.1 (by have := g.2.1; omega), xt 32 (by decide) (by decide) _ g.1 (by have := g.2.1; omega)]
      exact g.2.2
  · have k := t z h1 h2
    have e := fun k a b => xt k a b z h1 (by omega)
    unfold oTr at k ⊢
    rw [e 25 (by decide) (by decide), e 28 (by decide) (by decide), e 29 (by decide) (by decide), e 30 (by decide) (by decide), e 31 (by decide) (by decide), e 32 (by decide) (by decide), e 33 (by decide) (by decide)]
    exact k
  · have k := w z h1 h2
    have e := fun k a b => xt k a b z h1 (by omega)
    refine ⟨?_, ?_, ?_⟩
    · rw [e 42 (by decide) (by decide), e 40 (by decide) (by decide)]
      exact ⟨k.1.1, st _ k.1.1.1 k.1.2⟩
    · rw [e 41 (by decide) (by decide), e 40 (by decide) (by decide)]
      exact ⟨k.2.1.1, hd _ _ (by rcases k.2.1.2.2 with q | q <;> omega) k.2.1.2.1, k.2.1.2.2⟩
    · rw [e 43 (by decide) (by decide), e 40 (by decide) (by decide)]
      exact k.2.2
  · rw [g5] at h2
    have k := r z h1 h2
    have hb := b.2.2.2.2.2.2
    have e := fun k a => gr k z a h1 (by omega)
    have e11 := e 11 (by decide)
    have e10 := e 10 (by decide)
    have e22 := e 22 (by decide)
    have e23 := e 23 (by decide)
    refine ⟨by rw [e11]; exact k.1, ⟨by rw [e22]; exact k.2.1.1, by rw [e23]; exact k.2.1.2.1, fun j hj => ?_⟩, by rw [e10]; exact k.2.2⟩
    rw [e10] at hj
    rw [gw _ (by omega) (by have := k.2.2; omega)]
    exact k.2.1.2.2 j hj
  · have k := a.1 q h1 h2
    have e := fun k a b => gc k q a b h1 (by omega)
    unfold AC at k ⊢
    rw [e 15 (by decide) (by decide), e 16 (by decide) (by decide), e 17 (by decide) (by decide), e 18 (by decide) (by decide), e 19 (by decide) (by decide)]
    exact k
  · have k := a.2.1 q h1 h2
    have e := fun k a b => gt k q a b h1 (by omega)
    refine ⟨?_, ?_, ?_, ?_, ?_, ?_⟩
    · rw [e 25 (by decide) (by decide)]; exact k.1
    · rw [e 35 (by decide) (by decide)]; exact k.2.1
    · rw [e 36 (by decide) (by decide)]; exact k.2.2.1
    · rw [e 28 (by decide) (by decide), e 34 (by decide) (by decide)]; exact k.2.2.2.1
    · rw [e 37 (by decide) (by decide), e 38 (by decide) (by decide), e 27 (by decide) (by decide)]; exact k.2.2.2.2.1
    · rw [e 27 (by decide) (by decide), e 25 (by decide) (by decide)]
      intro g
      have l := k.2.2.2.2.2 g
      refine ⟨l.1, l.2.1, l.2.2.imp (fun m => ?_) (fun m => ⟨m.1, ?_⟩)⟩
      · rw [xt 40 (by decide) (by decide) _ l.1 (by omega)]; exact m
      · rw [xt 27 (by decide) (by decide) _ (by rcases k.1 with z | z <;> omega) (by rcases k.1 with z | z <;> omega)]; exact m.2
  · have k := a.2.2 q h1 h2
    have e := fun k a b => gt k q a b h1 (by omega)
    unfold AL at k ⊢
    rw [e 44 (by decide) (by decide), e 45 (by decide) (by decide)]
    exact k
/-- the frames by another half's program -/
theorem FRM_oh {hx : Nat} {nt nw : Int} {tt wt tt1 wt1 ft fp fl fw : Nat → Int32} {t fr tr : Int32} (hc : ∀ t : Nat, ((500 * hx : Nat) : Int) ≤ t → (t : Int) < nt → (tt t).toInt = -1 ∨ (((500 * hx : Nat) : Int) ≤ (tt t).toInt ∧ (tt t).toInt < t)) (he : ∀ t : Nat, ((500 * hx : Nat) : Int) ≤ t → (t : Int) < nt → tt1 t = tt t) (hw : ∀ w : Int32, 500 * hx ≤ w.toInt → w.toInt < nw → wt1 (ix w) = wt (ix w)) (h : FRM hx nt nw tt wt t fr tr ft fp fl fw) : FRM hx nt nw tt1 wt1 t fr tr ft fp fl fw := by
  have hd := dpt_up hc he (by omega)
  have hn := chn_up hc he (by omega)
  have hr : tr.toInt < 0 ∨ (((500 * hx : Nat) : Int) ≤ tr.toInt ∧ tr.toInt < nt) := h.2.2.2.1.imp id (fun q => ⟨by have := q.1; omega, q.2⟩)
  -- the way out stays in the half
  have st : ∀ (j : Nat) (s : Int32), (s.toInt < 0 ∨ (((500 * hx : Nat) : Int) ≤ s.toInt ∧ s.toInt < nt)) → (chn tt j s).toInt < 0 ∨ (((500 * hx : Nat) : Int) ≤ (chn tt j s).toInt ∧ (chn tt j s).toInt < nt) := by
    intro j
    induction j with
    | zero => exact fun s q => q
    | succ j ih =>
      intro s q
      rcases q with q | q
      · rw [chn_n q]; exact Or.inl q
      · rw [chn_s (by omega)]
        refine ih _ ?_
        have e : ((ix s : Nat) : Int) = s.toInt := by unfold ix; omega
        rcases hc (ix s) (by omega) (by omega) with g | g
        · exact Or.inl (by omega)
        · exact Or.inr ⟨g.1, by omega⟩
  refine ⟨h.1, h.2.1, hd _ _ hr h.2.2.1, h.2.2.2.1, fun i hi => ?_⟩
  have q := h.2.2.2.2 i hi
  rw [hn i tr hr, hn (i + 1) tr hr]
  refine ⟨q.1, q.2.1, ?_⟩
  rcases q.2.2 with g | g | g | g | g
  · exact Or.inl g
  · exact Or.inr (Or.inl g)
  · exact Or.inr (Or.inr (Or.inl g))
  · exact Or.inr (Or.inr (Or.inr (Or.inl g)))
  · obtain ⟨g1, g2, g3, j, g4⟩ := g
    exact Or.inr (Or.inr (Or.inr (Or.inr ⟨g1, g2, g3, j, by rw [hn j _ (st (i + 1) tr hr), hw _ g2 g3]; exact g4⟩)))
/-- W0 behind calls that do not touch the tasks -/
theorem W0_n5 {hx : Nat} {cd nt nw : Int} {ty : Nat → T6} {P P1 S S1 : mS} (h1 : ∀ k, k ∈ [22, 23, 28, 29, 30] → S1.1 k = S.1 k) (h2 : ∀ k, k ∈ WF9 → S1.2.1 k = S.2.1 k) (h3 : S1.2.2 86 = S.2.2 86) (hE : EQ P1 S1) (hT : TYP hx cd nt nw ty P S → TYP hx cd nt nw ty P1 S) (hr : (P1.2.1 5) hx = (P.2.1 5) hx) (h60 : P1.1 60 = P.1 60) (hW : W0 hx cd nt nw ty P S) : W0 hx cd nt nw ty P1 S1 := by
  obtain ⟨wE, wT, wD, wY, wC, wL, wR⟩ := hW
  have z22 := h1 22 (by decide)
  have z23 := h1 23 (by decide)
  have z28 := h1 28 (by decide)
  have z29 := h1 29 (by decide)
  have z30 := h1 30 (by decide)
  have e51 := h2 51 (by decide)
  have e52 := h2 52 (by decide)
  have e53 := h2 53 (by decide)
  have e54 := h2 54 (by decide)
  have e57 := h2 57 (by decide)
  have e60 := h2 60 (by decide)
  have e61 := h2 61 (by decide)
  have e64 := h2 64 (by decide)
  have e65 := h2 65 (by decide)
  have e66 := h2 66 (by decide)
  have e68 := h2 68 (by decide)
  have e69 := h2 69 (by decide)
  have e70 := h2 70 (by decide)
  have e71 := h2 71 (by decide)
  have e72 := h2 72 (by decide)
  have e73 := h2 73 (by decide)
  have e78 := h2 78 (by decide)
  have e80 := h2 80 (by decide)
  have e81 := h2 81 (by decide)
  have e82 := h2 82 (by decide)
  have e83 := h2 83 (by decide)
  have e84 := h2 84 (by decide)
  have e85 := h2 85 (by decide)
  have e87 := h2 87 (by decide)
  refine ⟨hE, ?_, ⟨ET_rf, ?_, ?_, ?_, ?_, ?_, ?_⟩, TYP_tr z22 e57 e68 e69 e70 e71 e72 (fun i q => by rw [e54] at q; exact q) (hT wY), ?_, ?_, ?_⟩
  · unfold TREE at wT ⊢; rw [z22, z29, e52, e53, e81, e82, e85]; exact wT
  · rw [z22, z23, e54, e73]; exact wD.2.1
  · have q := wD.2.2.1; unfold D2 at q ⊢; rw [z22, e54, e60]; exact q
  · have q := wD.2.2.2.1; unfold D3 at q ⊢; rw [z22, z29, e80, e83, e84, e85, e53]; exact q
  · have q := wD.2.2.2.2.1; unfold D4 OFT at q ⊢; rw [z22, z29, e54, e65, e66, e85]; exact q
  · rw [z22, z28, e61]; exact wD.2.2.2.2.2.1
  · rw [z30, z29, e87, e80, h3]; exact wD.2.2.2.2.2.2
  · rw [e64]; exact wC
  · rw [e78]; exact wL
  · rw [z22, e51, e60, hr, h60]; exact wR
/-- no task is there yet -/
theorem W0_fresh {hx : Nat} {cd nt nw : Int} {ty : Nat → T6} {S : mS} {b : Int32} (hg : FG S) (hc : CC ((S.2.1 64))) (hb : TNB b ((S.2.1 60))) : W0 hx cd nt nw ty (bmp S b) S := by
  obtain ⟨g1, g2, g3, g4, g5, g6, g7, g8, g9⟩ := hg
  have q0 : (0 : Int32).toInt = 0 := rfl
  refine ⟨⟨rfl, fun _ _ _ => rfl⟩, ⟨?_, fun n n0 n1 => absurd n1 (by rw [g7, q0]; omega), fun t t0 t1 => absurd t1 (by rw [g1, q0]; omega)⟩, ⟨ET_rf, ?_, fun t t0 t1 => absurd t1 (by rw [g1, q0]; omega), fun n n0 n1 => absurd n1 (by rw [g7, q0]; omega), fun t t0 t1 => absurd t1 (by rw [g1, q0]; omega), ?_, ?_⟩, fun t t0 t1 => absurd t1 (by rw [g1, q0]; omega), hc, fun i hi => ?_, fun t t1 => absurd t1 (by rw [g1, q0]; omega), hb⟩
  · rw [g1, g7, q0]; omega
  · rw [g1, g2, q0]
    exact ⟨by omega, fun i hi => absurd hi (by omega), fun i j hi => absurd hi (by omega), fun t t0 t1 => absurd t1 (by omega)⟩
  · rw [g6, g1, q0]
    exact ⟨by decide, by rw [q0]; omega⟩
  · rw [g8, g7, q0]
    exact ⟨by omega, fun i hi => absurd hi (by omega), fun i j hij hj => absurd hj (by omega)⟩
  · rw [g9 i (by omega), q0]; omega
theorem CC_e {f g : Nat → Int32} (e : g = f) (h : CC f) : CC g := by rw [e]; exact h
theorem lm_named (n k : Nat) (M : mS) (a0 : Int32) (hk : k < 512) (h : MI n k M) : wp_named a0 M (fun M1 r => MI 0 (k + 1) M1) := by
  obtain ⟨a, b, hx, cd, nt, nw, na, ty, P, c1, c2, c3, c4, c5, c6⟩ := h
  have fb := FW_b c3
  have e5 : (M.2.1 5) = (P.2.1 5) := c5.1.2 5 (by decide) (by decide)
  refine fm_named _ _ _ _ (fun M1 r f p => ?_) (sg_named (hx := hx) (m := n) (T := M) a0 EQ_rf a.1 a.2 ⟨c2, c1, by rw [e5]; omega, by rw [e5]; omega⟩ b.2.1)
  have q : MI 0 (k + 1) M1 := ⟨⟨by rw [p.1]; rfl, by omega⟩, MIb_up (MIb_fr f (by decide) (by decide) (by decide) b) (by omega), hx, cd, nt, nw, na, ty, P, c1, by rw [f.1 5 (by decide)]; exact c2, c3, c4, W0_n5 (fun j hj => f.1 j (by revert hj; revert j; decide)) (fun j hj => f.2.1 j (by revert hj; revert j; decide)) (f.2.2 86 (by decide)) ⟨p.2.1.trans c5.1.1, fun j h5 hj => (p.2.2 j h5 hj).trans (c5.1.2 j h5 hj)⟩ id rfl rfl c5, by omega⟩
  exact q
theorem lm_program (n k : Nat) (M : mS) (hk : k < 512) (h : MI n k M) : wp_program M (fun M1 r => MI 0 (k + 1) M1) := by
  obtain ⟨a, b, hx, cd, nt, nw, na, ty, P, c1, c2, c3, c4, c5, c6⟩ := h
  obtain ⟨b1, b2, b3, b4, b5, b6, b7⟩ := b
  refine fm_program _ _ _ (fun M1 r f p => ?_) (sg_program (m := n) (nx := 1 - hx) a.1 a.2 ⟨by omega, by omega⟩ ⟨b2, b3⟩ b4 b1 trivial)
  obtain ⟨⟨p1, p2, p3, p4, p5, p6⟩, p7, p8⟩ := p
  have e64 : (M1.2.1 64) = (M.2.1 64) := f.2.1 64 (by decide)
  have e60 : (M1.2.1 60) = (M.2.1 60) := f.2.1 60 (by decide)
  have e25 : M1.1 25 = M.1 25 := f.1 25 (by decide)
  have ew : M1.2.2 4 = M.2.2 4 := f.2.2 4 (by decide)
  have q0 : (0 : Int32).toInt = 0 := rfl
  rcases Decidable.em (r = 0) with d | d
  · obtain ⟨g1, g2⟩ := p5 d
    have fg := g2
    obtain ⟨f1, f2, f3, f4, f5, f6, f7, f8, f9⟩ := g2
    obtain ⟨cd1, nt1, nw1, na1, ty1, hw⟩ := p7 d
    refine ⟨⟨by rw [p1]; rfl, by omega⟩, ⟨by rw [ew]; exact b1, p2, p3, p4, by rw [f3, q0]; omega, ?_, by rw [e25, f7, q0]; omega⟩, 1 - hx, cd1, nt1, nw1, na1, ty1, bmp M1 (P.1 60), by omega, g1, hw, p3, W0_fresh fg (CC_e e64 c5.2.2.2.2.1) (by rw [e60]; exact c5.2.2.2.2.2.2.2), by rw [bmp_60]; omega⟩
    unfold BNp
    rw [f5, e25, q0]
    omega
  · obtain ⟨g1, k1⟩ := p6 d
    have oh := p8 d
    obtain ⟨k22, k23, k24, k26, k27, k28, k29, k30, k78⟩ := k1
    have e5 : ∀ j, 5 ≤ j → j ≤ 45 → M.2.1 j = P.2.1 j := c5.1.2
    have hwM : FWt hx cd nt nw na ty M := by
      have q := c3
      unfold FWt okF oTr oWh RT AW AC AT AL at q ⊢
      rw [e5 5 (by decide) (by decide), e5 7 (by decide) (by decide), e5 10 (by decide) (by decide), e5 11 (by decide) (by decide), e5 12 (by decide) (by decide), e5 13 (by decide) (by decide), e5 14 (by decide) (by decide), e5 15 (by decide) (by decide), e5 16 (by decide) (by decide), e5 17 (by decide) (by decide), e5 18 (by decide) (by decide), e5 19 (by decide) (by decide), e5 22 (by decide) (by decide), e5 23 (by decide) (by decide), e5 24 (by decide) (by decide), e5 25 (by decide) (by decide), e5 27 (by decide) (by decide), e5 28 (by decide) (by decide), e5 29 (by decide) (by decide), e5 30 (by decide) (by decide), e5 31 (by decide) (by decide), e5 32 (by decide) (by decide), e5 33 (by decide) (by decide), e5 34 (by decide) (by decide), e5 35 (by decide) (by decide), e5 36 (by decide) (by decide), e5 37 (by decide) (by decide), e5 38 (by decide) (by decide), e5 40 (by decide) (by decide), e5 41 (by decide) (by decide), e5 42 (by decide) (by decide), e5 43 (by decide) (by decide), e5 44 (by decide) (by decide), e5 45 (by decide) (by decide)]
      exact q
    have hw := FWt_oh (nx := 1 - hx) (by omega) oh hwM
    have fb := FW_b c3
    obtain ⟨u1, u2, u3, u4, u5⟩ := HH_i (hx := hx) (nx := 1 - hx) (by omega)
    have o25 : ∀ t : Nat, ((500 * hx : Nat) : Int) ≤ t → (t : Int) < nt → (M1.2.1 25) t = (P.2.1 25) t := fun t t1 t2 => (oh.1 25 t (u2 25 t (by decide) (by decide) (by omega) (by omega))).trans (by rw [e5 25 (by decide) (by decide)])
    have o40 : ∀ w : Int32, 500 * hx ≤ w.toInt → w.toInt < nw → (M1.2.1 40) (ix w) = (P.2.1 40) (ix w) := fun w t1 t2 => (oh.1 40 (ix w) (u2 40 (ix w) (by decide) (by decide) (by unfold ix; omega) (by unfold ix; omega))).trans (by rw [e5 40 (by decide) (by decide)])
    have hc : ∀ t : Nat, ((500 * hx : Nat) : Int) ≤ t → (t : Int) < nt → ((P.2.1 25) t).toInt = -1 ∨ (((500 * hx : Nat) : Int) ≤ ((P.2.1 25) t).toInt ∧ ((P.2.1 25) t).toInt < t) := by
      intro t t1 t2
      have q := (c3.2.2.2.2.2.2.2.1 t (by omega) t2).1
      omega
    have w1 : W0 hx cd nt nw ty (bmp M1 (P.1 60)) M1 := W0_n5 (P := P) (fun j hj => by
      simp at hj
      rcases hj with g | g | g | g | g
      · rw [g]; exact k22
      · rw [g]; exact k23
      · rw [g]; exact k28
      · rw [g]; exact k29
      · rw [g]; exact k30) (fun j hj => by
      rcases Decidable.em (j = 78) with d9 | d9
      · rw [d9]; exact k78
      · exact f.2.1 j (by clear f; revert d9; revert hj; revert j; decide)) (f.2.2 86 (by decide)) ⟨rfl, fun _ _ _ => rfl⟩ (fun hy t t0 t1 t2 => by
      obtain ⟨tr, x1, x2⟩ := hy t t0 t1 t2
      exact ⟨tr, x1, FRM_oh hc o25 o40 x2⟩) ((oh.1 5 hx u5).trans (by rw [e5 5 (by decide) (by decide)])) bmp_60 c5
    refine ⟨⟨by rw [p1]; rfl, by omega⟩, ⟨by rw [ew]; exact b1, p2, p3, p4, by rw [k24]; exact ⟨b5.1, by omega⟩, ?_, by rw [e25, k29]; exact b7⟩, hx, cd, nt, nw, na, ty, bmp M1 (P.1 60), c1, by rw [g1]; exact c2, hw, p3, w1, by rw [bmp_60]; omega⟩
    unfold BNp at b6 ⊢
    rw [e25, k27]
    exact b6
