
/-- a code of a program that stands -/
def okF (hx : Nat) (cd nt nw : Int) (S : mS) (ty : Nat → T6) (q : Nat) : Prop := okJ (TG hx cd ty ((S.2.1 13) q) (ty q).2.2.2.2.2 ∧ GO cd ((S.2.1 12)) q ((S.2.1 13) q)) (0 ≤ ((S.2.1 13) q).toInt ∧ ((S.2.1 13) q).toInt < ((S.2.1 5) hx).toInt ∧ (S.2.1 7) (12 * hx + ix ((S.2.1 13) q)) = (S.2.1 14) q) (oBP hx nt nw ((S.2.1 25)) ((S.2.1 40)) ((S.2.1 13) q) (ty q)) (oYP hx nt ((S.2.1 25)) ((S.2.1 13) q) (ty q)) (oLP hx nt ((S.2.1 13) q)) (500 * hx ≤ ((S.2.1 13) q).toInt ∧ ((S.2.1 13) q).toInt < nt ∧ ((S.2.1 29) (ix ((S.2.1 13) q)) = 0 ∨ (q : Int) < ((S.2.1 32) (ix ((S.2.1 13) q))).toInt)) ((S.2.1 12) q) ((S.2.1 13) q) ((S.2.1 14) q) (ty q) (ty (q + 1))
def FWt (hx : Nat) (cd nt nw na : Int) (ty : Nat → T6) (S : mS) : Prop := (12000 * hx ≤ cd ∧ cd ≤ 12000 * hx + 12000 ∧ nt ≤ 500 * hx + 500 ∧ nw ≤ 500 * hx + 500 ∧ na ≤ 12000 * hx + 12000 ∧ 0 ≤ ((S.2.1 5) hx).toInt ∧ ((S.2.1 5) hx).toInt ≤ 12) ∧ ty cd.toNat = DD ∧ (∀ q : Nat, 12000 * hx ≤ q → (q : Int) < cd → okF hx cd nt nw S ty q) ∧ (∀ t : Int32, 500 * hx ≤ t.toInt → t.toInt < nt → oTr hx [] cd S ty t) ∧ (∀ w : Int32, 500 * hx ≤ w.toInt → w.toInt < nw → oWh hx [] cd nt S ((S.2.1 12)) ty w) ∧ (∀ r : Nat, 12 * hx ≤ r → (r : Int) < 12 * hx + ((S.2.1 5) hx).toInt → TG hx cd ty ((S.2.1 11) r) (-1) ∧ RT hx na ((S.2.1 10) r).toInt S r ∧ ((S.2.1 10) r).toInt ≤ 16) ∧ AW hx na nt nw S
/-- a whole program stands in half hx -/
def FW0 (hx : Nat) (S : mS) : Prop := ∃ (cd nt nw na : Int) (ty : Nat → T6), FWt hx cd nt nw na ty S
/-- the children noted below k have their routine -/
def DN (nx : Nat) (k : Int) (S : mS) : Prop := ∀ j : Nat, (j : Int) < k → 0 ≤ ((S.2.1 13) (ix ((S.2.1 48) j))).toInt ∧ ((S.2.1 13) (ix ((S.2.1 48) j))).toInt < ((S.2.1 5) nx).toInt ∧ (S.2.1 7) (12 * nx + ix ((S.2.1 13) (ix ((S.2.1 48) j)))) = (S.2.1 14) (ix ((S.2.1 48) j))
def LQp (nx : Nat) (k : Int) (S : mS) : Prop := (S.1 4) = 0 → ∃ L : LT3, K6 L ∧ CD nx L (S.1 9).toInt (S.1 10).toInt S ∧ AB nx (12 * nx + ((S.2.1 5) nx).toInt) S ∧ RLs nx (12 * nx + ((S.2.1 5) nx).toInt) L ((S.2.1 11)) ∧ DN nx k S
theorem LQp_nf {nx : Nat} {k : Int} {S : mS} (h : ¬ (S.1 4) = 0) : LQp nx k S := fun q => absurd q h
theorem LQp_0 {nx : Nat} {S : mS} (h : Q2 nx S) : LQp nx 0 S := fun hf => by
  obtain ⟨L, a, b, c, d⟩ := h hf
  exact ⟨L, a, b, c, d, fun j hj => absurd hj (by omega)⟩
theorem LQp_z {nx : Nat} {k : Int} {v : Int32} {S S1 : mS} (e : S1 = sZ S 3 v) (h : LQp nx k S) : LQp nx k S1 := fun hf => by
  obtain ⟨L, a, b, c, d, f⟩ := h (by rw [e] at hf; exact hf)
  refine ⟨L, a, ?_, AB_z e (by decide) ?_, ?_, ?_⟩
  · have q := CD_nc (NC_z e (by decide)) b
    rw [e] at q ⊢; exact q
  · rw [e]; exact c
  · rw [e]; exact d
  · rw [e]; exact f
theorem K6_0 {L : LT3} {p j : Nat} {t : Int32} (h : K6 L) (hj : j ≠ 6) : ¬ (p, j, t) ∈ L := fun q => hj (h _ q)
/-- a child's routine is put in -/
theorem CD_ch {nx p : Nat} {L : LT3} {nt nw : Int} {v : Int32} {S S1 : mS} (e : S1 = sF S 13 p v) (h6 : K6 L) (ho : (S.2.1 12) p = 27) (h : CD nx L nt nw S) : CD nx L nt nw S1 := fun hf => by
  obtain ⟨a, ty, hw, hu⟩ := h (by rw [e] at hf; exact hf)
  subst e
  refine ⟨a, ty, ⟨fun q h1 h2 => ?_, hw.2.1, hw.2.2.1, fun x hx h0 => absurd (h6 x hx) (by rw [h0]; decide), hw.2.2.2.2.1, hw.2.2.2.2.2⟩, hu⟩
  have k := hw.1 q h1 h2
  show okI nx L (S.1 7).toInt nt nw (S.1 11).toInt S ((S.2.1 12)) ty q ((S.2.1 12) q) (upd ((S.2.1 13)) p v q) ((S.2.1 14) q) (ty q) (ty (q + 1))
  unfold upd
  rcases Decidable.em (q = p) with d | d
  · rw [if_pos d]
    subst d
    rw [ho] at k ⊢
    exact okJ_c k id
  · rw [if_neg d]; exact k
theorem LQp_p {nx : Nat} {x z r : Int32} {S S1 : mS} (e : S1 = sF S 13 (ix z) r) (hz : z = (S.2.1 48) (ix x)) (hx : 0 ≤ x.toInt ∧ x.toInt < (S.1 11).toInt) (hr : 0 ≤ r.toInt ∧ r.toInt < ((S.2.1 5) nx).toInt) (hg : (S.2.1 7) (12 * nx + ix r) = (S.2.1 47) (ix x)) (h : LQp nx x.toInt S) : LQp nx (x.toInt + 1) S1 := fun hf => by
  have hf0 : (S.1 4) = 0 := by rw [e] at hf; exact hf
  obtain ⟨L, a, b, c, d, f⟩ := h hf0
  have hx9 : ((ix x : Nat) : Int) = x.toInt := by unfold ix; omega
  obtain ⟨b0, ty, hw, hu⟩ := b hf0
  have k := hw.2.2.2.2.1 (ix x) (by omega)
  have ho : (S.2.1 12) (ix z) = 27 := by rw [hz]; exact k.2.2.1
  have h2 : (S.2.1 14) (ix z) = (S.2.1 47) (ix x) := by rw [hz]; exact k.2.2.2
  refine ⟨L, a, ?_, ?_, ?_, ?_⟩
  · have q := CD_ch e a ho b
    rw [e] at q ⊢; exact q
  · have q := AB_na (NA_f e (by decide)) c
    rw [e] at q ⊢; exact q
  · rw [e]; exact d
  · subst e
    intro j hj
    show 0 ≤ (upd ((S.2.1 13)) (ix z) r (ix ((S.2.1 48) j))).toInt ∧ (upd ((S.2.1 13)) (ix z) r (ix ((S.2.1 48) j))).toInt < ((S.2.1 5) nx).toInt ∧ (S.2.1 7) (12 * nx + ix (upd ((S.2.1 13)) (ix z) r (ix ((S.2.1 48) j)))) = (S.2.1 14) (ix ((S.2.1 48) j))
    unfold upd
    rcases Decidable.em (ix ((S.2.1 48) j) = ix z) with g | g
    · rw [if_pos g, g]
      exact ⟨hr.1, hr.2, hg.trans h2.symm⟩
    · rw [if_neg g]
      refine f j ?_
      rcases Decidable.em ((j : Int) = x.toInt) with w | w
      · exact absurd (by rw [hz, show j = ix x by omega]) g
      · omega
theorem FW0_i {nx : Nat} {k : Int} {S : mS} (h : LQp nx k S) (hf : (S.1 4) = 0) (hk : (S.1 11).toInt ≤ k) (hb : 12000 * nx ≤ (S.1 7).toInt ∧ (S.1 7).toInt ≤ 12000 * nx + 12000 ∧ (S.1 9).toInt ≤ 500 * nx + 500 ∧ (S.1 10).toInt ≤ 500 * nx + 500 ∧ (S.1 8).toInt ≤ 12000 * nx + 12000 ∧ 0 ≤ ((S.2.1 5) nx).toInt ∧ ((S.2.1 5) nx).toInt ≤ 12) : FW0 nx S := by
  obtain ⟨L, a, b, c, d, f⟩ := h hf
  obtain ⟨b0, ty, hw, hu⟩ := b hf
  refine ⟨(S.1 7).toInt, (S.1 9).toInt, (S.1 10).toInt, (S.1 8).toInt, ty, hb, hu, fun q h1 h2 => ?_, fun t h1 h2 => ?_, fun w h1 h2 => ?_, fun r h1 h2 => ?_, (c.2 hf).1⟩
  · refine okJ_m (hw.1 q h1 h2) (fun g => g.elim (fun m => absurd m (K6_0 a (by decide))) id) (fun g => ?_) id id id (fun r => ⟨r.1, r.2.1, r.2.2.elim (fun m => absurd m (K6_0 a (by decide))) id⟩)
    rcases g with g | ⟨j, g1, g2, g3⟩
    · exact absurd g (K6_0 a (by decide))
    · have q9 := f j (by omega)
      have e9 : ix ((S.2.1 48) j) = q := by unfold ix; omega
      rw [e9] at q9
      exact q9
  · have k := hw.2.1 t h1 h2
    exact ⟨k.1.elim (fun m => absurd m (K6_0 a (by decide))) Or.inr, k.2.1.elim (fun m => absurd m (K6_0 a (by decide))) Or.inr, k.2.2.elim (fun m => absurd m (K6_0 a (by decide))) Or.inr⟩
  · have k := hw.2.2.1 w h1 h2
    exact ⟨k.1, k.2.1, k.2.2.elim (fun m => absurd m (K6_0 a (by decide))) Or.inr⟩
  · have k := (c.2 hf).2 r h1 h2
    exact ⟨hw.2.2.2.2.2 _ (d r h1 h2) rfl, k.1, k.2⟩
/-- nothing is read yet -/
theorem Q2_0 {nx : Nat} {S : mS} (h1 : (S.1 7).toInt = 12000 * nx) (h2 : (S.1 8).toInt = 12000 * nx) (h3 : (S.1 9).toInt = 500 * nx) (h4 : (S.1 10).toInt = 500 * nx) (h5 : (S.1 11).toInt = 0) (h6 : ((S.2.1 5) nx).toInt = 0) : Q2 nx S := fun hf => by
  refine ⟨[], fun x hx => absurd hx (List.not_mem_nil), fun _ => ⟨by omega, fun _ => DD, ⟨fun q a b => absurd b (by omega), fun t a b => absurd b (by omega), fun t a b => absurd b (by omega), fun x hx => absurd hx (List.not_mem_nil), fun k hk => absurd hk (by omega), fun x hx => absurd hx (List.not_mem_nil)⟩, rfl⟩, ⟨by omega, fun _ => ⟨⟨fun q a b => absurd b (by omega), fun q a b => absurd b (by omega), fun q a b => absurd b (by omega)⟩, fun r a b => absurd b (by omega)⟩⟩, fun r a b => absurd b (by omega)⟩
theorem OH_rf {nx : Nat} {S : mS} : OH nx S S := ⟨fun _ _ _ => rfl, fun _ _ _ => rfl⟩
theorem FW0_e {hx : Nat} {S S1 : mS} (e : S1.2.1 = S.2.1) (h : FW0 hx S) : FW0 hx S1 := by
  obtain ⟨cd, nt, nw, na, ty, h⟩ := h
  refine ⟨cd, nt, nw, na, ty, ?_⟩
  unfold FWt okF oTr oWh RT AW AC AT AL at h ⊢
  rw [e]
  exact h
theorem FW0_7 {hx : Nat} {S S1 : mS} (e : ∀ k, k ≤ 45 → S1.2.1 k = S.2.1 k) (h : FW0 hx S) : FW0 hx S1 := by
  have e5 := e 5 (by decide)
  have e7 := e 7 (by decide)
  have e10 := e 10 (by decide)
  have e11 := e 11 (by decide)
  have e12 := e 12 (by decide)
  have e13 := e 13 (by decide)
  have e14 := e 14 (by decide)
  have e15 := e 15 (by decide)
  have e16 := e 16 (by decide)
  have e17 := e 17 (by decide)
  have e18 := e 18 (by decide)
  have e19 := e 19 (by decide)
  have e22 := e 22 (by decide)
  have e23 := e 23 (by decide)
  have e24 := e 24 (by decide)
  have e25 := e 25 (by decide)
  have e27 := e 27 (by decide)
  have e28 := e 28 (by decide)
  have e29 := e 29 (by decide)
  have e30 := e 30 (by decide)
  have e31 := e 31 (by decide)
  have e32 := e 32 (by decide)
  have e33 := e 33 (by decide)
  have e34 := e 34 (by decide)
  have e35 := e 35 (by decide)
  have e36 := e 36 (by decide)
  have e37 := e 37 (by decide)
  have e38 := e 38 (by decide)
  have e40 := e 40 (by decide)
  have e41 := e 41 (by decide)
  have e42 := e 42 (by decide)
  have e43 := e 43 (by decide)
  have e44 := e 44 (by decide)
  have e45 := e 45 (by decide)
  obtain ⟨cd, nt, nw, na, ty, h⟩ := h
  refine ⟨cd, nt, nw, na, ty, ?_⟩
  unfold FWt okF oTr oWh RT AW AC AT AL at h ⊢
  rw [e5, e7, e10, e11, e12, e13, e14, e15, e16, e17, e18, e19, e22, e23, e24, e25, e27, e28, e29, e30, e31, e32, e33, e34, e35, e36, e37, e38, e40, e41, e42, e43, e44, e45]
  exact h
theorem HH_i {hx nx : Nat} (hn : hx + nx = 1) : (∀ k q, 12 ≤ k → k ≤ 21 → 12000 * hx ≤ q → q < 12000 * hx + 12000 → HH nx k q) ∧ (∀ k t, 25 ≤ k → k ≤ 45 → 500 * hx ≤ t → t < 500 * hx + 500 → HH nx k t) ∧ (∀ k r, (k = 7 ∨ k = 8 ∨ k = 10 ∨ k = 11 ∨ k = 22 ∨ k = 23) → 12 * hx ≤ r → r < 12 * hx + 12 → HH nx k r) ∧ (∀ w, 204 * hx ≤ w → w < 204 * hx + 204 → HH nx 24 w) ∧ HH nx 5 hx := by
  refine ⟨fun k q a b c d => ?_, fun k t a b c d => ?_, fun k r a b c => ?_, fun w a b => ?_, ?_⟩ <;> unfold HH <;> omega
/-- the half that stands is not touched by a reading of the other half -/
theorem FW0_oh {hx nx : Nat} {S S1 : mS} (hn : hx + nx = 1) (h : OH nx S S1) (hw : FW0 hx S) : FW0 hx S1 := by
  obtain ⟨cd, nt, nw, na, ty, b, u, c, t, w, r, a⟩ := hw
  obtain ⟨i1, i2, i3, i4, i5⟩ := HH_i hn
  have gc : ∀ k q, 12 ≤ k → k ≤ 21 → 12000 * hx ≤ q → (q : Int) < 12000 * hx + 12000 → S1.2.1 k q = S.2.1 k q := fun k q h1 h2 h3 h4 => h.1 k q (i1 k q h1 h2 h3 (by omega))
  have gt : ∀ k q, 25 ≤ k → k ≤ 45 → 500 * hx ≤ q → (q : Int) < 500 * hx + 500 → S1.2.1 k q = S.2.1 k q := fun k q h1 h2 h3 h4 => h.1 k q (i2 k q h1 h2 h3 (by omega))
  have gr : ∀ k q, (k = 7 ∨ k = 8 ∨ k = 10 ∨ k = 11 ∨ k = 22 ∨ k = 23) → 12 * hx ≤ q → (q : Int) < 12 * hx + 12 → S1.2.1 k q = S.2.1 k q := fun k q h1 h3 h4 => h.1 k q (i3 k q h1 h3 (by omega))
  have gw : ∀ q, 204 * hx ≤ q → q < 204 * hx + 204 → S1.2.1 24 q = S.2.1 24 q := fun q h3 h4 => h.1 24 q (i4 q h3 h4)
  have g5 : S1.2.1 5 hx = S.2.1 5 hx := h.1 5 hx i5
  have hc : ∀ t : Nat, ((500 * hx : Nat) : Int) ≤ t → (t : Int) < nt → ((S.2.1 25) t).toInt = -1 ∨ (((500 * hx : Nat) : Int) ≤ ((S.2.1 25) t).toInt ∧ ((S.2.1 25) t).toInt < t) := by
    intro t h1 h2
    have q := (a.2.1 t (by omega) h2).1
    omega
  have he : ∀ t : Nat, ((500 * hx : Nat) : Int) ≤ t → (t : Int) < nt → S1.2.1 25 t = S.2.1 25 t := fun t h1 h2 => gt 25 t (by decide) (by decide) (by omega) (by omega)
  have hd := dpt_up hc he (by omega)
  have hn9 := chn_up hc he (by omega)
  have x5 : ∀ t : Int32, 500 * hx ≤ t.toInt → ((ix t : Nat) : Int) = t.toInt := by intro t _; unfold ix; omega
  have xt : ∀ k, 25 ≤ k → k ≤ 45 → ∀ t : Int32, 500 * hx ≤ t.toInt → t.toInt < 500 * hx + 500 → S1.2.1 k (ix t) = S.2.1 k (ix t) := fun k h1 h2 t h3 h4 => gt k (ix t) h1 h2 (by unfold ix; omega) (by unfold ix; omega)
  have st : ∀ z : Int32, 12000 * hx ≤ z.toInt → ST1 cd (S.2.1 12) z → ST1 cd (S1.2.1 12) z := fun z h1 h2 => ⟨h2.1, by rw [gc 12 (ix z) (by decide) (by decide) (by unfold ix; omega) (by have := h2.1; unfold ix; omega)]; exact h2.2⟩
  refine ⟨cd, nt, nw, na, ty, by rw [g5]; exact b, u, fun q h1 h2 => ?_, fun z h1 h2 => ?_, fun z h1 h2 => ?_, fun z h1 h2 => ?_, fun q h1 h2 => ?_, fun q h1 h2 => ?_, fun q h1 h2 => ?_⟩
  · have k := c q h1 h2
    have e12 := gc 12 q (by decide) (by decide) h1 (by omega)
    have e13 := gc 13 q (by decide) (by decide) h1 (by omega)
    have e14 := gc 14 q (by decide) (by decide) h1 (by omega)
    unfold okF at k ⊢
    rw [e12, e13, e14]
    refine okJ_m k (fun g => ⟨g.1, g.2.imp id (st _ g.1.1)⟩) (fun g => ?_) (fun g => ?_) (fun g => ?_) id (fun g => ?_)
    · rw [g5]
      refine ⟨g.1, g.2.1, ?_⟩
      rw [gr 7 _ (Or.inl rfl) (by omega) (by have := g.1; have := g.2.1; have := b.2.2.2.2.2.2; unfold ix; omega)]
      exact g.2.2
    · obtain ⟨r1, r2, ⟨j, r3⟩, r4⟩ := g
      refine ⟨r1, r2, ⟨j, ?_⟩, r4⟩
      rw [hn9 j _ (by rcases r4 with q | q <;> omega), xt 40 (by decide) (by decide) _ r1 (by omega)]
      exact r3
    · obtain ⟨r1, r2, r3, n, r4, r5⟩ := g
      have a9 := x5 _ r1
      have c9 := hc (ix ((S.2.1 13) q)) (by omega) (by omega)
      exact ⟨r1, r2, (xt 25 (by decide) (by decide) _ r1 (by omega)).trans r3, n, r4, hd n _ (by rw [← r3]; omega) r5⟩
    · refine ⟨g.1, g.2.1, ?_⟩
      rw [xt 29 (by decide) (by decide) _ g.1 (by have := g.2.1; omega), xt 32 (by decide) (by decide) _ g.1 (by have := g.2.1; omega)]
      exact g.2.2
  · have k := t z h1 h2
    have e := fun k a b => xt k a b z h1 (by omega)
    unfold oTr at k ⊢
    rw [e 25 (by decide) (by decide), e 28 (by decide) (by decide), e 29 (by decide) (by decide), e 30 (by decide) (by decide), e 31 (by decide) (by decide), e 32 (by decide) (by decide), e 33 (by decide) (by decide)]
    exact k
  · have k := w z h1 h2
    have e := fun k a b => xt k a b z h1 (by omega)
    refine ⟨?_, ?_, ?_⟩
    · rw [e 42 (by decide) (by decide), e 40 (by decide) (by decide)]
      exact ⟨k.1.1, st _ k.1.1.1 k.1.2⟩
    · rw [e 41 (by decide) (by decide), e 40 (by decide) (by decide)]
      exact ⟨k.2.1.1, hd _ _ (by rcases k.2.1.2.2 with q | q <;> omega) k.2.1.2.1, k.2.1.2.2⟩
    · rw [e 43 (by decide) (by decide), e 40 (by decide) (by decide)]
      exact k.2.2
  · rw [g5] at h2
    have k := r z h1 h2
    have hb := b.2.2.2.2.2.2
    have e := fun k a => gr k z a h1 (by omega)
    have e11 := e 11 (by decide)
    have e10 := e 10 (by decide)
    have e22 := e 22 (by decide)
    have e23 := e 23 (by decide)
    refine ⟨by rw [e11]; exact k.1, ⟨by rw [e22]; exact k.2.1.1, by rw [e23]; exact k.2.1.2.1, fun j hj => ?_⟩, by rw [e10]; exact k.2.2⟩
    rw [e10] at hj
    rw [gw _ (by omega) (by have := k.2.2; omega)]
    exact k.2.1.2.2 j hj
  · have k := a.1 q h1 h2
    have e := fun k a b => gc k q a b h1 (by omega)
    unfold AC at k ⊢
    rw [e 15 (by decide) (by decide), e 16 (by decide) (by decide), e 17 (by decide) (by decide), e 18 (by decide) (by decide), e 19 (by decide) (by decide)]
    exact k
  · have k := a.2.1 q h1 h2
    have e := fun k a b => gt k q a b h1 (by omega)
    refine ⟨?_, ?_, ?_, ?_, ?_, ?_⟩
    · rw [e 25 (by decide) (by decide)]; exact k.1
    · rw [e 35 (by decide) (by decide)]; exact k.2.1
    · rw [e 36 (by decide) (by decide)]; exact k.2.2.1
    · rw [e 28 (by decide) (by decide), e 34 (by decide) (by decide)]; exact k.2.2.2.1
    · rw [e 37 (by decide) (by decide), e 38 (by decide) (by decide), e 27 (by decide) (by decide)]; exact k.2.2.2.2.1
    · rw [e 27 (by decide) (by decide), e 25 (by decide) (by decide)]
      intro g
      have l := k.2.2.2.2.2 g
      refine ⟨l.1, l.2.1, l.2.2.imp (fun m => ?_) (fun m => ⟨m.1, ?_⟩)⟩
      · rw [xt 40 (by decide) (by decide) _ l.1 (by omega)]; exact m
      · rw [xt 27 (by decide) (by decide) _ (by rcases k.1 with z | z <;> omega) (by rcases k.1 with z | z <;> omega)]; exact m.2
  · have k := a.2.2 q h1 h2
    have e := fun k a b => gt k q a b h1 (by omega)
    unfold AL at k ⊢
    rw [e 44 (by decide) (by decide), e 45 (by decide) (by decide)]
    exact k
theorem FW0_z {S : mS} (h : ((S.2.1 5) 0).toInt = 0) : FW0 0 S := by
  refine ⟨0, 0, 0, 0, fun _ => DD, ⟨by omega, by omega, by omega, by omega, by omega, by omega, by omega⟩, rfl, fun q h1 h2 => absurd h2 (by omega), fun q h1 h2 => absurd h2 (by omega), fun q h1 h2 => absurd h2 (by omega), fun q h1 h2 => absurd h2 (by omega), ⟨fun q h1 h2 => absurd h2 (by omega), fun q h1 h2 => absurd h2 (by omega), fun q h1 h2 => absurd h2 (by omega)⟩⟩
def LZ (n : Int) (l : Nat → Int32) : Prop := ∀ i : Nat, (i : Int) < n → l i = 0
theorem LZ_0 {n : Int} {l : Nat → Int32} (h : n ≤ 0) : LZ n l := fun i hi => absurd hi (by omega)
theorem LZ_up {x : Int32} {m : Int} {l : Nat → Int32} (h : LZ x.toInt l) (h0 : 0 ≤ x.toInt) (hm : m = x.toInt + 1) : LZ m (upd l (ix x) 0) := fun i hi => by
  unfold upd
  rcases Decidable.em (i = ix x) with d | d
  · rw [if_pos d]
  · rw [if_neg d]; exact h i (by unfold ix at d; omega)
def FG (S : mS) : Prop := (S.1 22) = 0 ∧ (S.1 23) = 0 ∧ (S.1 24) = 0 ∧ (S.1 26) = 0 ∧ (S.1 27) = 0 ∧ (S.1 28) = 0 ∧ (S.1 29) = 0 ∧ (S.1 30) = 0 ∧ LZ 8 ((S.2.1 78))
def KP (S0 S : mS) : Prop := S.1 22 = S0.1 22 ∧ S.1 23 = S0.1 23 ∧ S.1 24 = S0.1 24 ∧ S.1 26 = S0.1 26 ∧ S.1 27 = S0.1 27 ∧ S.1 28 = S0.1 28 ∧ S.1 29 = S0.1 29 ∧ S.1 30 = S0.1 30 ∧ S.2.1 78 = S0.2.1 78
def QE (nx : Nat) (S0 S : mS) : Prop := ∃ (n : Nat) (so pl : Nat → Int32) (wo ws : Nat → Int64), QI nx n so pl wo ws S0 0 0 S
theorem QE_i {nx n : Nat} {so pl : Nat → Int32} {wo ws : Nat → Int64} {S0 S : mS} (h : QI nx n so pl wo ws S0 0 0 S) : QE nx S0 S := ⟨n, so, pl, wo, ws, h⟩
theorem PTc_0 {nx : Nat} {w : Int32} {a b c : Nat → Int32} (h : w.toInt ≤ 500 * nx) : PTc nx w a b c := fun t h1 h2 => absurd h2 (by omega)
theorem PW_0 {nx : Nat} {w : Int32} {a : Nat → Int32} (h : w.toInt ≤ 500 * nx) : PW nx w a := fun t h1 h2 => absurd h2 (by omega)
theorem PL_0 {nx n : Nat} {w : Int32} {a b : Nat → Int32} (h : w.toInt ≤ 0) : PL nx n w a b := fun t h2 => absurd h2 (by omega)
theorem PL_a {nx n : Nat} {w x : Int32} {a b : Nat → Int32} (h : PL nx n w a b) (h0 : 0 ≤ x.toInt) (h1 : x.toInt < w.toInt) : 0 ≤ (a (ix x)).toInt ∧ (a (ix x)).toInt ≤ n := by
  have q := h (ix x) (by unfold ix; omega)
  exact ⟨q.1, q.2.1⟩
theorem PL_b {nx n : Nat} {w x : Int32} {a b : Nat → Int32} (h : PL nx n w a b) (h0 : 0 ≤ x.toInt) (h1 : x.toInt < w.toInt) : 12000 * nx ≤ (b (ix x)).toInt ∧ (b (ix x)).toInt < 12000 * nx + 12000 := (h (ix x) (by unfold ix; omega)).2.2
theorem TK_rf {so pl : Nat → Int32} {wo ws : Nat → Int64} : TK so pl wo ws so pl wo ws := ⟨fun _ => rfl, fun _ => rfl, fun _ => rfl, fun _ => rfl⟩
theorem WB_0 {nx n : Nat} {so pl : Nat → Int32} {S : mS} (hL : LG n so pl) (h1 : (S.1 10).toInt = 500 * nx) (h2 : (S.1 9).toInt = 500 * nx) (h3 : (S.1 3) = 0) : WB nx pl 0 0 S := fun _ => by
  have q := hL.2.2 0 (Nat.zero_le _)
  rw [h3]
  have e : ix 0 = 0 := rfl
  rw [e]
  omega
