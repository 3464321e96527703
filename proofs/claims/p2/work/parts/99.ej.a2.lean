
/-- all that is new is good, but acts u, j, loop la, try ta -/
def jNW (u j la ta : Int) (V V1 : PV) : Prop := (∀ i : Nat, V.1 17 ≤ i → (i : Int) < V1.1 17 → (i : Int) ≠ u → (i : Int) ≠ j → ACT V1 i) ∧ (∀ i : Nat, V.1 17 ≤ i → (i : Int) + 1 < V1.1 17 → FLS (V1.2 28 i) → CP V1 (V1.2 30 (i + 1)) (V1.2 30 i)) ∧ (V.1 17 < V1.1 17 → FLS (V1.2 28 (V1.1 17 - 1).toNat) → V1.2 30 (V1.1 17 - 1).toNat = V1.1 8) ∧ (∀ l : Nat, V.1 25 ≤ l → (l : Int) < V1.1 25 → (l : Int) ≠ la → LPO V1 l) ∧ (∀ k : Nat, V.1 24 ≤ k → (k : Int) < V1.1 24 → (k : Int) ≠ ta → TRO V1 k)
def EX (e u j la ta : Int) (V V1 : PV) : Prop := jKP V V1 ∧ (V.1 17 < V1.1 17 → CP V1 (V1.2 30 (V.1 17).toNat) (V.1 8)) ∧ V1.1 17 + 2 * V.1 6 ≤ V.1 17 + 2 * V1.1 6 + e ∧ jNW u j la ta V V1
theorem EX_rf {V : PV} : EX 0 (-1) (-1) (-1) (-1) V V := ⟨KP_rf, fun h => absurd h (by omega), by omega, fun i h1 h2 => absurd h2 (by omega), fun i h1 h2 => absurd h2 (by omega), fun h => absurd h (by omega), fun i h1 h2 => absurd h2 (by omega), fun i h1 h2 => absurd h2 (by omega)⟩
theorem EX_m {e e1 u j la ta : Int} {V V1 : PV} (h : EX e u j la ta V V1) (he : e ≤ e1) : EX e1 u j la ta V V1 := ⟨h.1, h.2.1, by have := h.2.2.1; omega, h.2.2.2⟩
theorem EX_tr {e e1 u j la ta : Int} {V V1 V2 : PV} (h0 : 0 ≤ V.1 17) (h : EX e u j la ta V V1) (h1 : EX e1 (-1) (-1) (-1) (-1) V1 V2) (hs : V2.1 17 = V1.1 17 → V2.1 8 = V1.1 8) (hN : V1.1 17 = V.1 17 → V1.1 17 < V2.1 17 → CP V2 (V2.2 30 (V1.1 17).toNat) (V.1 8)) : EX (e + e1) u j la ta V V2 := by
  obtain ⟨k1, n1, b1, a1, f1, z1, l1, t1⟩ := h
  obtain ⟨k2, n2, b2, a2, f2, z2, l2, t2⟩ := h1
  have g1 := k1.1
  have g2 := k2.1
  have nn : N1 V1 V2 := ⟨n2, hs⟩
  refine ⟨KP_tr k1 k2, fun h => ?_, by omega, fun i i1 i2 i3 i4 => ?_, fun i i1 i2 i3 => ?_, fun h i3 => ?_, fun l i1 i2 i3 => ?_, fun k i1 i2 i3 => ?_⟩
  · rcases Int.lt_or_le (V.1 17) (V1.1 17) with c | c
    · rw [(k2.2.2.2.1 _ (by omega)).2.2]
      exact CP_st k2 (n1 c)
    · have e9 : V1.1 17 = V.1 17 := by omega
      have q := hN e9 (by omega)
      rw [e9] at q
      exact q
  · rcases Int.lt_or_le (i : Int) (V1.1 17) with c | c
    · exact ACT_st k2 nn c (a1 i i1 c i3 i4)
    · exact a2 i c i2 (by omega) (by omega)
  · rcases Int.lt_or_le (i : Int) (V1.1 17) with c | c
    · obtain ⟨q1, q2, q3⟩ := k2.2.2.2.1 i c
      rcases Int.lt_or_le ((i : Int) + 1) (V1.1 17) with d | d
      · rw [(k2.2.2.2.1 (i + 1) (by omega)).2.2, q3]
        rw [q1] at i3
        exact CP_st k2 (f1 i i1 d i3)
      · have e9 : (V1.1 17 - 1).toNat = i := by omega
        have e8 : (V1.1 17).toNat = i + 1 := by omega
        rw [q1] at i3
        have q := z1 (by omega) (by rw [e9]; exact i3)
        rw [e9] at q
        have r := n2 (by omega)
        rw [e8] at r
        rw [q3, q]
        exact r
    · exact f2 i c i2 i3
  · rcases Int.lt_or_le (V1.1 17) (V2.1 17) with c | c
    · exact z2 c i3
    · have e9 : V2.1 17 = V1.1 17 := by omega
      rw [e9] at i3 ⊢
      obtain ⟨q1, q2, q3⟩ := k2.2.2.2.1 (V1.1 17 - 1).toNat (by omega)
      rw [q1] at i3
      rw [q3, hs e9]
      exact z1 (by omega) i3
  · rcases Int.lt_or_le (l : Int) (V1.1 25) with c | c
    · exact LPO_st k2 nn c (l1 l i1 c i3)
    · exact l2 l c i2 (by omega)
  · rcases Int.lt_or_le (k : Int) (V1.1 24) with c | c
    · exact TRO_st k2 nn c (t1 k i1 c i3)
    · exact t2 k c i2 (by omega)
/-- an act was laid -/
def EMz (o a : Int) (V V1 : PV) : Prop := V1.1 17 = V.1 17 + 1 ∧ (∀ i : Nat, V1.2 28 i = if (i : Int) = V.1 17 then o else V.2 28 i) ∧ (∀ i : Nat, V1.2 29 i = if (i : Int) = V.1 17 then a else V.2 29 i) ∧ (∀ i : Nat, V1.2 30 i = if (i : Int) = V.1 17 then V.1 8 else V.2 30 i) ∧ VF [8, 17] [28, 29, 30] V V1
def ACTn (o a : Int) (V : PV) : Prop := ((o = 15 ∨ o = 16) → jTG V a (V.1 8)) ∧ ((o = 17 ∨ o = 18) → 0 ≤ a ∧ a < V.1 25 ∧ onc (V.1 24) (V.2 43) (V.1 8) (V.2 50 a.toNat)) ∧ (o = 21 → 0 ≤ a ∧ a < V.1 24 ∧ (V.1 8 = 3 * a ∨ V.1 8 = 3 * a + 1)) ∧ (o = 23 → 0 ≤ a ∧ a < V.1 24 ∧ V.1 8 = 3 * a + 2) ∧ (o = 27 → 0 ≤ a ∧ a < 8) ∧ (o = 30 → 0 ≤ a ∧ a < 1)
theorem ACTn_s {o a : Int} {V : PV} (h : o ≠ 15 ∧ o ≠ 16 ∧ o ≠ 17 ∧ o ≠ 18 ∧ o ≠ 21 ∧ o ≠ 23 ∧ o ≠ 27 ∧ o ≠ 30) : ACTn o a V := by
  refine ⟨fun q => ?_, fun q => ?_, fun q => ?_, fun q => ?_, fun q => ?_, fun q => ?_⟩ <;> omega
theorem EM_k {o a : Int} {V V1 : PV} (h : EMz o a V V1) : jKP V V1 := by
  obtain ⟨h1, h2, h3, h4, h5⟩ := h
  have v := h5.1
  have w := h5.2
  refine ⟨by omega, by rw [v 24 (by decide)]; omega, by rw [v 25 (by decide)]; omega, fun i hi => ?_, fun k hk => ?_, fun l hl => ?_⟩
  · rw [h2 i, h3 i, h4 i, if_neg (by omega), if_neg (by omega), if_neg (by omega)]
    exact ⟨rfl, rfl, rfl⟩
  · rw [w 43 (by decide) (by decide), w 44 (by decide) (by decide), w 46 (by decide) (by decide), w 47 (by decide) (by decide), w 48 (by decide) (by decide), w 149 (by decide) (by decide)]
    exact ⟨rfl, rfl, rfl, rfl, rfl, rfl⟩
  · rw [w 50 (by decide) (by decide), w 51 (by decide) (by decide), w 52 (by decide) (by decide)]
    exact ⟨rfl, rfl, rfl⟩
theorem EM_1 {o a : Int} {V V1 : PV} (h0 : 0 ≤ V.1 17) (h : EMz o a V V1) : V1.2 28 (V.1 17).toNat = o ∧ V1.2 29 (V.1 17).toNat = a ∧ V1.2 30 (V.1 17).toNat = V.1 8 := by
  obtain ⟨h1, h2, h3, h4, h5⟩ := h
  rw [h2, h3, h4, if_pos (by omega), if_pos (by omega), if_pos (by omega)]
  exact ⟨rfl, rfl, rfl⟩
theorem EM_n {o a : Int} {V V1 : PV} (h0 : 0 ≤ V.1 17) (h : EMz o a V V1) : N1 V V1 := ⟨fun _ => Or.inl (EM_1 h0 h).2.2, fun e => absurd e (by have := h.1; omega)⟩
theorem EM_t {o a t : Int} {V V1 : PV} (h0 : 0 ≤ V.1 17) (h : EMz o a V V1) (ht : tyf (V.2 28) (V.1 17).toNat = t) : tyf (V1.2 28) (V1.1 17).toNat = stp o t := by
  have e : (V1.1 17).toNat = (V.1 17).toNat + 1 := by have := h.1; omega
  rw [e]
  show stp (V1.2 28 (V.1 17).toNat) (tyf (V1.2 28) (V.1 17).toNat) = _
  rw [(EM_1 h0 h).1, tyf_st (EM_k h) (by omega), ht]
theorem ACT_n {o a : Int} {V V1 : PV} (h0 : 0 ≤ V.1 17) (h : EMz o a V V1) (hA : ACTn o a V) : ACT V1 (V.1 17).toNat := by
  obtain ⟨e1, e2, e3⟩ := EM_1 h0 h
  have v := h.2.2.2.2.1
  have w := h.2.2.2.2.2
  unfold ACT
  rw [e1, e2, e3, v 24 (by decide), v 25 (by decide), w 43 (by decide) (by decide), w 50 (by decide) (by decide)]
  exact ⟨fun q => TG_st (EM_k h) (EM_n h0 h) (hA.1 q), hA.2⟩
/-- one act more; u, j: it may be excused -/
theorem EX_emz {e o a u j u1 j1 la ta : Int} {V V1 V2 : PV} (h0 : 0 ≤ V.1 17) (h : EX e u j la ta V V1) (hE : EMz o a V1 V2) (hF : FLS o → V2.1 8 = V1.1 8) (hu : u = -1 ∨ u1 = u) (hj : j = -1 ∨ j1 = j) (hA : V1.1 17 ≠ u1 → V1.1 17 ≠ j1 → ACTn o a V1) (hN : V1.1 17 = V.1 17 → CP V2 (V1.1 8) (V.1 8)) : EX (e + 1) u1 j1 la ta V V2 := by
  obtain ⟨k1, n1, b1, a1, f1, z1, l1, t1⟩ := h
  have k2 := EM_k hE
  have g1 := k1.1
  have g2 := hE.1
  have h1 : 0 ≤ V1.1 17 := by omega
  have nn := EM_n h1 hE
  have v := hE.2.2.2.2.1
  have m1 := EM_1 h1 hE
  refine ⟨KP_tr k1 k2, fun h => ?_, by rw [v 6 (by decide)]; omega, fun i i1 i2 i3 i4 => ?_, fun i i1 i2 i3 => ?_, fun h i3 => ?_, fun l i1 i2 i3 => ?_, fun k i1 i2 i3 => ?_⟩
  · rcases Int.lt_or_le (V.1 17) (V1.1 17) with c | c
    · rw [(k2.2.2.2.1 _ (by omega)).2.2]
      exact CP_st k2 (n1 c)
    · have e9 : V1.1 17 = V.1 17 := by omega
      have q := hN e9
      rw [← e9, m1.2.2]
      exact q
  · rcases Int.lt_or_le (i : Int) (V1.1 17) with c | c
    · exact ACT_st k2 nn c (a1 i i1 c (by omega) (by omega))
    · have e9 : i = (V1.1 17).toNat := by omega
      rw [e9]
      exact ACT_n h1 hE (hA (by omega) (by omega))
  · have c : (i : Int) < V1.1 17 := by omega
    obtain ⟨q1, q2, q3⟩ := k2.2.2.2.1 i c
    rw [q1] at i3
    rcases Int.lt_or_le ((i : Int) + 1) (V1.1 17) with d | d
    · rw [(k2.2.2.2.1 (i + 1) (by omega)).2.2, q3]
      exact CP_st k2 (f1 i i1 d i3)
    · have e9 : (V1.1 17 - 1).toNat = i := by omega
      have e8 : (V1.1 17).toNat = i + 1 := by omega
      have q := z1 (by omega) (by rw [e9]; exact i3)
      rw [e9] at q
      rw [q3, q, ← e8, m1.2.2]
      exact Or.inl rfl
  · have e9 : (V2.1 17 - 1).toNat = (V1.1 17).toNat := by omega
    rw [e9] at i3 ⊢
    rw [m1.1] at i3
    rw [m1.2.2, hF i3]
  · rw [v 25 (by decide)] at i2
    exact LPO_st k2 nn i2 (l1 l i1 i2 i3)
  · rw [v 24 (by decide)] at i2
    exact TRO_st k2 nn i2 (t1 k i1 i2 i3)
/-- only what the acts do not see was changed -/
theorem EX_cg {e u j la ta : Int} {zi fa : List Nat} {V V1 V2 : PV} (h : EX e u j la ta V V1) (hv : VF zi fa V1 V2) (hz : dis9 [6, 8, 17, 24, 25] zi = true) (hf : dis9 [28, 29, 30, 43, 44, 46, 47, 48, 49, 50, 51, 52, 149] fa = true) : EX e u j la ta V V2 := by
  have i6 := hv.1 6 (dis9_m hz (by decide))
  have i8 := hv.1 8 (dis9_m hz (by decide))
  have i17 := hv.1 17 (dis9_m hz (by decide))
  have i24 := hv.1 24 (dis9_m hz (by decide))
  have i25 := hv.1 25 (dis9_m hz (by decide))
  have c49 : 49 ∉ fa := dis9_m hf (by decide)
  have r : ∀ f, f ∈ [28, 29, 30, 43, 44, 46, 47, 48, 49, 50, 51, 52, 149] → V2.2 f = V1.2 f := fun f h9 => hv.2 f (dis9_m hf h9) (fun _ => c49)
  have r28 := r 28 (by decide)
  have r29 := r 29 (by decide)
  have r30 := r 30 (by decide)
  have r43 := r 43 (by decide)
  have r44 := r 44 (by decide)
  have r46 := r 46 (by decide)
  have r47 := r 47 (by decide)
  have r48 := r 48 (by decide)
  have r50 := r 50 (by decide)
  have r51 := r 51 (by decide)
  have r52 := r 52 (by decide)
  have r149 := r 149 (by decide)
  unfold EX jKP jNW ACT LPO TRO jTG CP at h ⊢
  rw [i6, i8, i17, i24, i25, r28, r29, r30, r43, r44, r46, r47, r48, r50, r51, r52, r149]
  exact h
