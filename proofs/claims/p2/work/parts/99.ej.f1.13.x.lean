
/-- what stands behind a routine: V0 is where the text began -/
def RDX (V0 V : PV) : Prop := RG V ∧ V.1 8 = -1 ∧ V.1 9 = -1 ∧ TY (-2) V ∧ (V.1 7 = 0 → EX 0 (-1) (-1) (-1) (-1) V0 V ∧ (∀ r : Nat, (r : Int) < V.1 18 → jTG V (V.2 32 r) (-1)) ∧ STI (fun _ => False) V)
theorem RDX_b {V0 V : PV} (h : RDX V0 V) (h17 : V0.1 17 = 0) (h6 : V0.1 6 = 0) : BG 12 V := fun q => by
  have x := (h.2.2.2.2 q).1.2.2.1
  omega
theorem TG_rx {e q s : Int} {V V1 : PV} (h : Rx e V V1) (q1 : V1.1 7 = 0) (ht : jTG V q s) : jTG V1 q s := by
  have x := h.2.2.2.2 q1
  exact TG_st x.1 ⟨x.2.1, fun _ => h.2.2.2.1.1⟩ ht
/-- a routine more -/
theorem RDX_s {e1 e2 : Int} {V0 V Va Vb Vc : PV} (h0 : RG V0) (h : RDX V0 V) (hH : HDP V Va) (hb : Rx e1 Va Vb) (hT : TY (-2) Vb) (hc : Rx e2 Vb Vc) (hTc : TY (-2) Vc) (he : e1 + e2 ≤ 0) (h8 : V0.1 8 = -1) : RDX V0 Vc := by
  obtain ⟨g, s8, s9, t, x⟩ := h
  rcases hH with ⟨r1, f1⟩ | ⟨W1, W2, r1, t1, o1, r2⟩
  · have f3 : Vc.1 7 ≠ 0 := fun q => f1 (hb.2.2.1 (hc.2.2.1 q))
    exact ⟨hc.1 (hb.1 (r1.1 g)), by rw [hc.2.2.2.1.1, hb.2.2.2.1.1, r1.2.2.2.1.1, s8], by rw [hc.2.2.2.1.2.1, hb.2.2.2.1.2.1, r1.2.2.2.1.2.1, s9], hTc, fun q => absurd q f3⟩
  · have o8 : W2.1 8 = W1.1 8 := o1.2.2.2.1.1 8 (by decide)
    have o9 : W2.1 9 = W1.1 9 := o1.2.2.2.1.1 9 (by decide)
    have o7 : W2.1 7 = W1.1 7 := o1.2.2.2.1.1 7 (by decide)
    have o17 : W2.1 17 = W1.1 17 := o1.2.2.2.1.1 17 (by decide)
    have p1 : W1.1 8 = -1 := by rw [r1.2.2.2.1.1, s8]
    have gW := r2.1 o1.2.2.2.2.1
    refine ⟨hc.1 (hb.1 gW), by rw [hc.2.2.2.1.1, hb.2.2.2.1.1, r2.2.2.2.1.1, o8, p1], by rw [hc.2.2.2.1.2.1, hb.2.2.2.1.2.1, r2.2.2.2.1.2.1, o9, r1.2.2.2.1.2.1, s9], hTc, fun q => ?_⟩
    have qb := hc.2.2.1 q
    have qa := hb.2.2.1 qb
    have q2 := r2.2.2.1 qa
    have q1 : W1.1 7 = 0 := by rw [← o7]; exact q2
    have q0 := r1.2.2.1 q1
    obtain ⟨x0, x1, xs⟩ := x q0
    have z := h0.2.1.1
    have y1 := EX_go z x0 r1 q1 (by rw [s8, h8])
    have y2 := EX_cg y1 o1.2.2.2.1 (by decide) (by decide)
    have y3 := EX_go z y2 r2 qa (by rw [o8, p1, h8])
    have y4 := EX_go z y3 hb qb (by rw [r2.2.2.2.1.1, o8, p1, h8])
    have y5 := EX_go z y4 hc q (by rw [hb.2.2.2.1.1, r2.2.2.2.1.1, o8, p1, h8])
    refine ⟨EX_m y5 (by omega), fun r hr => ?_, hc.2.2.2.1.2.2.2.2 q _ (hb.2.2.2.1.2.2.2.2 qb _ (r2.2.2.2.1.2.2.2.2 qa _ (OPN_s o1 (r1.2.2.2.1.2.2.2.2 q1 _ xs))))⟩
    have n18 : Vc.1 18 = W2.1 18 := by rw [hc.2.2.2.1.2.2.1, hb.2.2.2.1.2.2.1, r2.2.2.2.1.2.2.1]
    have n32 : Vc.2 32 = W2.2 32 := by rw [hc.2.2.2.1.2.2.2.1, hb.2.2.2.1.2.2.2.1, r2.2.2.2.1.2.2.2.1]
    have m18 : W1.1 18 = V.1 18 := r1.2.2.2.1.2.2.1
    have m32 : W1.2 32 = V.2 32 := r1.2.2.2.1.2.2.2.1
    have tg2 : jTG W2 (W2.2 32 r) (-1) := by
      rw [o1.2.2.1 r]
      rcases Decidable.em ((r : Int) = W1.1 18) with c | c
      · rw [if_pos c]
        have g1 := (r1.1 g).2.1.1
        exact ⟨g1, by omega, by rw [o1.2.2.2.1.2 28 (by decide) (by decide)]; exact t1 q1, fun c9 => absurd c9 (by omega), fun _ => by rw [o8, p1]⟩
      · rw [if_neg c, m32]
        exact TG_cg o1.2.2.2.1 (by decide) (by decide) (TG_rx r1 q1 (x1 r (by have := o1.2.1; omega)))
    rw [n32]
    exact TG_rx hc q (TG_rx hb qb (TG_rx r2 qa tg2))
/-- a program as it may be run -/
def TGr (V : PV) (q s : Int) : Prop := 0 ≤ q ∧ q ≤ V.1 17 ∧ tyf (V.2 28) q.toNat = -2 ∧ (q < V.1 17 → CP V (V.2 30 q.toNat) s)
def ACTr (V : PV) (i : Nat) : Prop := ((V.2 28 i = 15 ∨ V.2 28 i = 16) → TGr V (V.2 29 i) (V.2 30 i)) ∧ ((V.2 28 i = 17 ∨ V.2 28 i = 18) → 0 ≤ V.2 29 i ∧ V.2 29 i < V.1 25 ∧ onc (V.1 24) (V.2 43) (V.2 30 i) (V.2 50 (V.2 29 i).toNat)) ∧ (V.2 28 i = 21 → 0 ≤ V.2 29 i ∧ V.2 29 i < V.1 24 ∧ (V.2 30 i = 3 * V.2 29 i ∨ V.2 30 i = 3 * V.2 29 i + 1)) ∧ (V.2 28 i = 23 → 0 ≤ V.2 29 i ∧ V.2 29 i < V.1 24 ∧ V.2 30 i = 3 * V.2 29 i + 2) ∧ (V.2 28 i = 27 → 0 ≤ V.2 29 i ∧ V.2 29 i < 8) ∧ (V.2 28 i = 30 → 0 ≤ V.2 29 i ∧ (V.2 29 i < 1 ∨ V.2 29 i < V.1 18))
def WFP (V : PV) : Prop := tyf (V.2 28) (V.1 17).toNat = -2 ∧ (∀ i : Nat, (i : Int) < V.1 17 → ACTr V i) ∧ (∀ i : Nat, (i : Int) + 1 < V.1 17 → FLS (V.2 28 i) → CP V (V.2 30 (i + 1)) (V.2 30 i)) ∧ (∀ l : Nat, (l : Int) < V.1 25 → TGr V (V.2 51 l) (V.2 50 l) ∧ TGr V (V.2 52 l) (V.2 50 l)) ∧ (∀ k : Nat, (k : Int) < V.1 24 → (V.2 149 k % 2 = 1 → TGr V (V.2 46 k) (3 * (k : Int) + 1)) ∧ (2 ≤ V.2 149 k → TGr V (V.2 47 k) (3 * (k : Int) + 2)) ∧ TGr V (V.2 48 k) (V.2 43 k)) ∧ (∀ r : Nat, (r : Int) < V.1 18 → TGr V (V.2 32 r) (-1))
theorem TGr_of {V : PV} {q s : Int} (h : jTG V q s) : TGr V q s := ⟨h.1, h.2.1, h.2.2.1, h.2.2.2.1⟩
/-- what findChildren does -/
def FCI (V V1 : PV) : Prop := VF [7] [29] V V1 ∧ (V1.1 7 = 0 → V.1 7 = 0 ∧ ∀ i : Nat, V1.2 29 i = V.2 29 i ∨ (V.2 28 i = 30 ∧ 0 ≤ V1.2 29 i ∧ V1.2 29 i < V.1 18))
theorem FCI_rf {V : PV} : FCI V V := ⟨⟨fun _ _ => rfl, fun _ _ _ => rfl⟩, fun q => ⟨q, fun _ => Or.inl rfl⟩⟩
theorem WFP_of {V0 V V1 : PV} (h : RDX V0 V) (h17 : V0.1 17 = 0) (h24 : V0.1 24 = 0) (h25 : V0.1 25 = 0) (hF : FCI V V1) (q : V1.1 7 = 0) : WFP V1 := by
  obtain ⟨hv, hi⟩ := hF
  obtain ⟨q0, hi⟩ := hi q
  obtain ⟨g, s8, s9, t, x⟩ := h
  obtain ⟨⟨k, n1, b, a1, f1, z1, l1, t1⟩, st, _⟩ := x q0
  have i17 := hv.1 17 (by decide)
  have i18 := hv.1 18 (by decide)
  have i24 := hv.1 24 (by decide)
  have i25 := hv.1 25 (by decide)
  have r : ∀ f, f ≠ 29 → V1.2 f = V.2 f := fun f hf => hv.2 f (fun q => hf (List.mem_singleton.mp q)) (fun _ => by decide)
  have r28 := r 28 (by decide)
  have r30 := r 30 (by decide)
  have r32 := r 32 (by decide)
  have r43 := r 43 (by decide)
  have r46 := r 46 (by decide)
  have r47 := r 47 (by decide)
  have r48 := r 48 (by decide)
  have r50 := r 50 (by decide)
  have r51 := r 51 (by decide)
  have r52 := r 52 (by decide)
  have r149 := r 149 (by decide)
  have tg : ∀ q s, jTG V q s → TGr V1 q s := fun q s h9 => by
    have := TGr_of h9
    unfold TGr CP at this ⊢
    rw [i17, i24, r28, r30, r43]
    exact this
  refine ⟨by rw [r28, i17]; exact t q0, fun i hi9 => ?_, fun i c1 c2 => ?_, fun l hl => ?_, fun k9 hk => ?_, fun r9 hr => ?_⟩
  · rw [i17] at hi9
    obtain ⟨c1, c2, c3, c4, c5, c6⟩ := a1 i (by omega) hi9 (by omega) (by omega)
    rcases hi i with e | ⟨e1, e2, e3⟩
    · unfold ACTr
      rw [r28, r30, i24, i25, r43, r50, e]
      exact ⟨fun h9 => tg _ _ (c1 h9), c2, c3, c4, c5, fun h9 => ⟨(c6 h9).1, Or.inl (c6 h9).2⟩⟩
    · unfold ACTr
      rw [r28, e1]
      refine ⟨fun h9 => ?_, fun h9 => ?_, fun h9 => ?_, fun h9 => ?_, fun h9 => ?_, fun _ => ⟨e2, Or.inr (by rw [i18]; exact e3)⟩⟩ <;> (exfalso; omega)
  · rw [i17] at c1
    rw [r28] at c2
    have := f1 i (by omega) c1 c2
    unfold CP at this ⊢
    rw [r30, i24, r43]
    exact this
  · rw [i25] at hl
    have := l1 l (by omega) hl (by omega)
    rw [r50, r51, r52]
    exact ⟨tg _ _ this.1, tg _ _ this.2⟩
  · rw [i24] at hk
    have := t1 k9 (by omega) hk (by omega)
    rw [r149, r46, r47, r48, r43]
    exact ⟨fun h9 => tg _ _ (this.1 h9), fun h9 => tg _ _ (this.2.1 h9), tg _ _ this.2.2⟩
  · rw [i18] at hr
    rw [r32]
    exact tg _ _ (st r9 hr)
theorem STI_of {V0 V V1 : PV} (h : RDX V0 V) (hF : FCI V V1) (q : V1.1 7 = 0) : STI (fun _ => False) V1 := STf_v hF.1 (by decide) (by decide) q _ (h.2.2.2.2 (hF.2 q).1).2.2
