
def jEM (o a : Int) (V V1 : PV) : Prop := V1.1 17 = V.1 17 + 1 ∧ (∀ i : Nat, V1.2 28 i = if (i : Int) = V.1 17 then o else V.2 28 i) ∧ (∀ i : Nat, V1.2 29 i = if (i : Int) = V.1 17 then a else V.2 29 i) ∧ (∀ i : Nat, V1.2 30 i = if (i : Int) = V.1 17 then V.1 8 else V.2 30 i) ∧ VF [17] [28, 29, 30] V V1
theorem EM_z {o a : Int} {V V1 : PV} (h : jEM o a V V1) : EMz o a V V1 := ⟨h.1, h.2.1, h.2.2.1, h.2.2.2.1, fun f hf => h.2.2.2.2.1 f (fun q => hf (by rw [List.mem_singleton.mp q]; decide)), h.2.2.2.2.2⟩
/-- the view with scope s -/
def sv (V : PV) (s : Int) : PV := (fun f => if f = 8 then s else V.1 f, V.2)
theorem EM_sv {o a s : Int} {V V1 : PV} (h : jEM o a V V1) : EMz o a V (sv V1 s) := ⟨h.1, h.2.1, h.2.2.1, h.2.2.2.1, fun f hf => by
  have e : f ≠ 8 := fun q => hf (by rw [q]; decide)
  show (if f = 8 then s else V1.1 f) = V.1 f
  rw [if_neg e]
  exact (EM_z h).2.2.2.2.1 f hf, h.2.2.2.2.2⟩
theorem EX_em {e o a u j u1 j1 la ta : Int} {V V1 V2 : PV} (h0 : 0 ≤ V.1 17) (h : EX e u j la ta V V1) (hE : jEM o a V1 V2) (hu : u = -1 ∨ u1 = u) (hj : j = -1 ∨ j1 = j) (hA : V1.1 17 ≠ u1 → V1.1 17 ≠ j1 → ACTn o a V1) (hN : V1.1 17 = V.1 17 → CP V2 (V1.1 8) (V.1 8)) : EX (e + 1) u1 j1 la ta V V2 := EX_emz h0 h (EM_z hE) (fun _ => hE.2.2.2.2.1 8 (by decide)) hu hj hA hN
/-- behind an act that does not fall through the scope may change -/
theorem EX_ems {e o a la ta : Int} {V V1 V2 : PV} (h0 : 0 ≤ V.1 17) (h : EX e (-1) (-1) la ta V V1) (hE : jEM o a V1 V2) (hF : ¬ FLS o) (hA : ACTn o a V1) (hN : V1.1 17 = V.1 17 → CP V2 (V1.1 8) (V.1 8)) : ∀ s : Int, EX (e + 1) (-1) (-1) la ta V (sv V2 s) := fun s => EX_emz h0 h (EM_sv hE) (fun q => absurd q hF) (Or.inl rfl) (Or.inl rfl) (fun _ _ => hA) hN
theorem EX_at {e e1 u j la ta : Int} {V V1 V2 : PV} (h : EX e u j la ta V V1) (hv : VF [6] [] V1 V2) (he : e + 2 * V1.1 6 ≤ e1 + 2 * V2.1 6) : EX e1 u j la ta V V2 := by
  have i8 := hv.1 8 (by decide)
  have i17 := hv.1 17 (by decide)
  have i24 := hv.1 24 (by decide)
  have i25 := hv.1 25 (by decide)
  have r : ∀ f, V2.2 f = V1.2 f := fun f => hv.2 f (List.not_mem_nil) (fun _ => List.not_mem_nil)
  have r2 : V2.2 = V1.2 := funext r
  obtain ⟨a1, a2, a3, a4⟩ := h
  unfold EX
  refine ⟨?_, ?_, by omega, ?_⟩
  · unfold jKP at a1 ⊢
    rw [r2, i17, i24, i25]
    exact a1
  · unfold CP at a2 ⊢
    rw [r2, i17, i24]
    exact a2
  · unfold jNW ACT LPO TRO jTG CP at a4 ⊢
    rw [r2, i8, i17, i24, i25]
    exact a4
/-- the argument of act k was set -/
def jPT (k a : Int) (V V1 : PV) : Prop := (∀ i : Nat, V1.2 29 i = if (i : Int) = k then a else V.2 29 i) ∧ VF [] [29] V V1
theorem EX_pt {e u j u1 j1 la ta k a : Int} {V V1 V2 : PV} (h : EX e u j la ta V V1) (hP : jPT k a V1 V2) (hk : V.1 17 ≤ k) (hA : ACT V2 k.toNat) (hu : u = k ∨ u1 = u) (hj : j = k ∨ j1 = j) : EX e u1 j1 la ta V V2 := by
  obtain ⟨p1, p2⟩ := hP
  have i1 : V2.1 = V1.1 := funext (fun f => p2.1 f List.not_mem_nil)
  have r : ∀ f, f ≠ 29 → V2.2 f = V1.2 f := fun f hf => p2.2 f (fun q => hf (List.mem_singleton.mp q)) (fun _ => by decide)
  have r28 := r 28 (by decide)
  have r30 := r 30 (by decide)
  have r43 := r 43 (by decide)
  have r44 := r 44 (by decide)
  have r46 := r 46 (by decide)
  have r47 := r 47 (by decide)
  have r48 := r 48 (by decide)
  have r50 := r 50 (by decide)
  have r51 := r 51 (by decide)
  have r52 := r 52 (by decide)
  have r149 := r 149 (by decide)
  obtain ⟨⟨k1, k2, k3, k4, k5, k6⟩, n1, b1, a1, f1, z1, l1, t1⟩ := h
  refine ⟨⟨by rw [i1]; exact k1, by rw [i1]; exact k2, by rw [i1]; exact k3, fun i hi => ?_, ?_, ?_⟩, ?_, by rw [i1]; exact b1, fun i q1 q2 q3 q4 => ?_, ?_, ?_, ?_, ?_⟩
  · rw [r28, r30, p1 i, if_neg (by omega)]
    exact k4 i hi
  · rw [r43, r44, r46, r47, r48, r149]
    exact k5
  · rw [r50, r51, r52]
    exact k6
  · unfold CP
    rw [i1, r30, r43]
    exact n1
  · rcases Decidable.em ((i : Int) = k) with c | c
    · have e9 : i = k.toNat := by omega
      rw [e9]
      exact hA
    · rw [i1] at q2
      have q := a1 i q1 q2 (by omega) (by omega)
      unfold ACT jTG CP at q ⊢
      rw [i1, r28, r30, r43, r50, p1 i, if_neg c]
      exact q
  · unfold CP
    rw [i1, r28, r30, r43]
    exact f1
  · rw [i1, r28, r30]
    exact z1
  · unfold LPO jTG CP at l1 ⊢
    rw [i1, r28, r30, r43, r50, r51, r52]
    exact l1
  · unfold TRO jTG CP at t1 ⊢
    rw [i1, r28, r30, r43, r46, r47, r48, r149]
    exact t1
/-- a loop begins -/
def NL (q : Int) (V V1 : PV) : Prop := V1.1 25 = V.1 25 + 1 ∧ (∀ i : Nat, V1.2 50 i = if (i : Int) = V.1 25 then V.1 8 else V.2 50 i) ∧ (∀ i : Nat, V1.2 51 i = if (i : Int) = V.1 25 then q else V.2 51 i) ∧ VF [25] [50, 51] V V1
theorem EX_nl {e u j ta q : Int} {V V1 V2 : PV} (h : EX e u j (-1) ta V V1) (hL : NL q V1 V2) : EX e u j (V1.1 25) ta V V2 := by
  obtain ⟨p0, p1, p2, p3⟩ := hL
  have i6 := p3.1 6 (by decide)
  have i8 := p3.1 8 (by decide)
  have i17 := p3.1 17 (by decide)
  have i24 := p3.1 24 (by decide)
  have r28 := p3.2 28 (by decide) (by decide)
  have r29 := p3.2 29 (by decide) (by decide)
  have r30 := p3.2 30 (by decide) (by decide)
  have r43 := p3.2 43 (by decide) (by decide)
  have r44 := p3.2 44 (by decide) (by decide)
  have r46 := p3.2 46 (by decide) (by decide)
  have r47 := p3.2 47 (by decide) (by decide)
  have r48 := p3.2 48 (by decide) (by decide)
  have r52 := p3.2 52 (by decide) (by decide)
  have r149 := p3.2 149 (by decide) (by decide)
  obtain ⟨⟨k1, k2, k3, k4, k5, k6⟩, n1, b1, a1, f1, z1, l1, t1⟩ := h
  refine ⟨⟨by rw [i17]; exact k1, by rw [i24]; exact k2, by omega, ?_, ?_, fun l hl => ?_⟩, ?_, by rw [i6, i17]; exact b1, fun i q1 q2 q3 q4 => ?_, ?_, ?_, fun l q1 q2 q3 => ?_, ?_⟩
  · rw [r28, r29, r30]
    exact k4
  · rw [r43, r44, r46, r47, r48, r149]
    exact k5
  · rw [p1 l, p2 l, r52, if_neg (by omega), if_neg (by omega)]
    exact k6 l hl
  · unfold CP
    rw [i17, i24, r30, r43]
    exact n1
  · rw [i17] at q2
    obtain ⟨c1, c2, c3⟩ := a1 i q1 q2 q3 q4
    unfold ACT jTG CP
    rw [i8, i17, i24, r28, r29, r30, r43]
    refine ⟨c1, fun h9 => ?_, c3⟩
    obtain ⟨d1, d2, d3⟩ := c2 h9
    refine ⟨d1, by omega, ?_⟩
    rw [p1, if_neg (by omega)]
    exact d3
  · unfold CP
    rw [i17, i24, r28, r30, r43]
    exact f1
  · rw [i17, i8, r28, r30]
    exact z1
  · have q := l1 l q1 (by omega) (by omega)
    unfold LPO jTG CP at q ⊢
    rw [i8, i17, i24, r28, r30, r43, p1 l, p2 l, r52, if_neg (by omega), if_neg (by omega)]
    exact q
  · unfold TRO jTG CP at t1 ⊢
    rw [i8, i17, i24, r28, r30, r43, r46, r47, r48, r149]
    exact t1
/-- a loop's way out was set -/
theorem EX_cl {e u j ta l : Int} {q : Int} {V V1 V2 : PV} (h : EX e u j l ta V V1) (hl : V.1 25 ≤ l) (hp : ∀ i : Nat, V2.2 52 i = if (i : Int) = l then q else V1.2 52 i) (hv : VF [] [52] V1 V2) (hL : LPO V2 l.toNat) : EX e u j (-1) ta V V2 := by
  have i1 : V2.1 = V1.1 := funext (fun f => hv.1 f List.not_mem_nil)
  have r : ∀ f, f ≠ 52 → V2.2 f = V1.2 f := fun f hf => hv.2 f (fun q => hf (List.mem_singleton.mp q)) (fun _ => by decide)
  have r28 := r 28 (by decide)
  have r29 := r 29 (by decide)
  have r30 := r 30 (by decide)
  have r43 := r 43 (by decide)
  have r44 := r 44 (by decide)
  have r46 := r 46 (by decide)
  have r47 := r 47 (by decide)
  have r48 := r 48 (by decide)
  have r50 := r 50 (by decide)
  have r51 := r 51 (by decide)
  have r149 := r 149 (by decide)
  obtain ⟨⟨k1, k2, k3, k4, k5, k6⟩, n1, b1, a1, f1, z1, l1, t1⟩ := h
  refine ⟨⟨by rw [i1]; exact k1, by rw [i1]; exact k2, by rw [i1]; exact k3, ?_, ?_, fun i hi => ?_⟩, ?_, by rw [i1]; exact b1, ?_, ?_, ?_, fun i q1 q2 q3 => ?_, ?_⟩
  · rw [r28, r29, r30]
    exact k4
  · rw [r43, r44, r46, r47, r48, r149]
    exact k5
  · rw [r50, r51, hp i, if_neg (by omega)]
    exact k6 i hi
  · unfold CP
    rw [i1, r30, r43]
    exact n1
  · unfold ACT jTG CP at a1 ⊢
    rw [i1, r28, r29, r30, r43, r50]
    exact a1
  · unfold CP
    rw [i1, r28, r30, r43]
    exact f1
  · rw [i1, r28, r30]
    exact z1
  · rcases Decidable.em ((i : Int) = l) with c | c
    · have e9 : i = l.toNat := by omega
      rw [e9]
      exact hL
    · rw [i1] at q2
      have q := l1 i q1 q2 c
      unfold LPO jTG CP at q ⊢
      rw [i1, r28, r30, r43, r50, r51, hp i, if_neg c]
      exact q
  · unfold TRO jTG CP at t1 ⊢
    rw [i1, r28, r30, r43, r46, r47, r48, r149]
    exact t1
/-- a try begins -/
def jNT (V V1 : PV) : Prop := V1.1 24 = V.1 24 + 1 ∧ (∀ i : Nat, V1.2 43 i = if (i : Int) = V.1 24 then V.1 8 else V.2 43 i) ∧ (∀ i : Nat, (i : Int) ≠ V.1 24 → V1.2 44 i = V.2 44 i ∧ V1.2 149 i = V.2 149 i) ∧ VF [24] [43, 44, 45, 49] V V1
theorem NT_o {V V1 : PV} (h : jNT V V1) {a b : Int} (hb : onc (V.1 24) (V.2 43) a b) : onc (V1.1 24) (V1.2 43) a b := onc_k (by have := h.1; omega) (fun k hk => by rw [h.2.1 k, if_neg (by omega)]) hb
theorem EX_nt {e u j la : Int} {V V1 V2 : PV} (h : EX e u j la (-1) V V1) (hT : jNT V1 V2) : EX e u j la (V1.1 24) V V2 := by
  have hT0 := hT
  obtain ⟨p0, p1, p2, p3⟩ := hT
  have i6 := p3.1 6 (by decide)
  have i8 := p3.1 8 (by decide)
  have i17 := p3.1 17 (by decide)
  have i25 := p3.1 25 (by decide)
  have r28 := p3.2 28 (by decide) (by decide)
  have r29 := p3.2 29 (by decide) (by decide)
  have r30 := p3.2 30 (by decide) (by decide)
  have r46 := p3.2 46 (by decide) (by decide)
  have r47 := p3.2 47 (by decide) (by decide)
  have r48 := p3.2 48 (by decide) (by decide)
  have r50 := p3.2 50 (by decide) (by decide)
  have r51 := p3.2 51 (by decide) (by decide)
  have r52 := p3.2 52 (by decide) (by decide)
  have cp : ∀ a s, CP V1 a s → CP V2 a s := fun a s h9 => by
    rcases h9 with c | ⟨c1, c2, c3, c4⟩
    · exact Or.inl c
    · refine Or.inr ⟨c1, c2, by omega, ?_⟩
      rw [p1, if_neg (by omega)]
      exact c4
  have tg : ∀ q s, jTG V1 q s → jTG V2 q s := fun q s h9 => by
    unfold jTG at h9 ⊢
    rw [i17, r28, r30, i8]
    exact ⟨h9.1, h9.2.1, h9.2.2.1, fun c => cp _ _ (h9.2.2.2.1 c), h9.2.2.2.2⟩
  obtain ⟨⟨k1, k2, k3, k4, k5, k6⟩, n1, b1, a1, f1, z1, l1, t1⟩ := h
  refine ⟨⟨by rw [i17]; exact k1, by omega, by rw [i25]; exact k3, ?_, fun k hk => ?_, ?_⟩, fun c => ?_, by rw [i6, i17]; exact b1, fun i q1 q2 q3 q4 => ?_, fun i q1 q2 q3 => ?_, ?_, fun l q1 q2 q3 => ?_, fun k q1 q2 q3 => ?_⟩
  · rw [r28, r29, r30]
    exact k4
  · obtain ⟨c1, c2⟩ := p2 k (by omega)
    rw [p1 k, if_neg (by omega), c1, c2, r46, r47, r48]
    exact k5 k hk
  · rw [r50, r51, r52]
    exact k6
  · rw [r30]
    exact cp _ _ (n1 (by omega))
  · rw [i17] at q2
    obtain ⟨c1, c2, c3, c4, c5⟩ := a1 i q1 q2 q3 q4
    unfold ACT
    rw [r28, r29, r30, i25, r50]
    refine ⟨fun h9 => tg _ _ (c1 h9), fun h9 => ?_, fun h9 => ?_, fun h9 => ?_, c5⟩
    · obtain ⟨d1, d2, d3⟩ := c2 h9
      exact ⟨d1, d2, NT_o hT0 d3⟩
    · obtain ⟨d1, d2, d3⟩ := c3 h9
      exact ⟨d1, by omega, d3⟩
    · obtain ⟨d1, d2, d3⟩ := c4 h9
      exact ⟨d1, by omega, d3⟩
  · rw [i17] at q2
    rw [r28] at q3
    rw [r30]
    exact cp _ _ (f1 i q1 q2 q3)
  · rw [i17, i8, r28, r30]
    exact z1
  · rw [i25] at q2
    have q := l1 l q1 q2 q3
    unfold LPO
    rw [r50, r51, r52]
    exact ⟨tg _ _ q.1, tg _ _ q.2⟩
  · have q := t1 k q1 (by omega) (by omega)
    obtain ⟨c1, c2⟩ := p2 k (by omega)
    unfold TRO
    rw [c2, r46, r47, r48, p1 k, if_neg (by omega)]
    exact ⟨fun h9 => tg _ _ (q.1 h9), fun h9 => tg _ _ (q.2.1 h9), tg _ _ q.2.2⟩
/-- the tables of the open try k were set -/
theorem EX_kt {e u j la k : Int} {zi : List Nat} {V V1 V2 : PV} (h : EX e u j la k V V1) (hk : V.1 24 ≤ k) (hv : VF zi [46, 47, 48, 49, 149] V1 V2) (hz : dis9 [6, 8, 17, 24, 25] zi = true) (ho : ∀ i : Nat, (i : Int) ≠ k → V2.2 46 i = V1.2 46 i ∧ V2.2 47 i = V1.2 47 i ∧ V2.2 48 i = V1.2 48 i ∧ V2.2 149 i = V1.2 149 i) : EX e u j la k V V2 := by
  have i6 := hv.1 6 (dis9_m hz (by decide))
  have i8 := hv.1 8 (dis9_m hz (by decide))
  have i17 := hv.1 17 (dis9_m hz (by decide))
  have i24 := hv.1 24 (dis9_m hz (by decide))
  have i25 := hv.1 25 (dis9_m hz (by decide))
  have r28 := hv.2 28 (by decide) (by decide)
  have r29 := hv.2 29 (by decide) (by decide)
  have r30 := hv.2 30 (by decide) (by decide)
  have r43 := hv.2 43 (by decide) (by decide)
  have r44 := hv.2 44 (by decide) (by decide)
  have r50 := hv.2 50 (by decide) (by decide)
  have r51 := hv.2 51 (by decide) (by decide)
  have r52 := hv.2 52 (by decide) (by decide)
  obtain ⟨⟨k1, k2, k3, k4, k5, k6⟩, n1, b1, a1, f1, z1, l1, t1⟩ := h
  refine ⟨⟨by rw [i17]; exact k1, by rw [i24]; exact k2, by rw [i25]; exact k3, ?_, fun i hi => ?_, ?_⟩, ?_, by rw [i6, i17]; exact b1, ?_, ?_, ?_, ?_, fun i q1 q2 q3 => ?_⟩
  · rw [r28, r29, r30]
    exact k4
  · obtain ⟨c1, c2, c3, c4⟩ := ho i (by omega)
    rw [r43, r44, c1, c2, c3, c4]
    exact k5 i hi
  · rw [r50, r51, r52]
    exact k6
  · unfold CP
    rw [i17, i24, r30, r43]
    exact n1
  · unfold ACT jTG CP at a1 ⊢
    rw [i8, i17, i24, i25, r28, r29, r30, r43, r50]
    exact a1
  · unfold CP
    rw [i17, i24, r28, r30, r43]
    exact f1
  · rw [i8, i17, r28, r30]
    exact z1
  · unfold LPO jTG CP at l1 ⊢
    rw [i8, i17, i24, i25, r28, r30, r43, r50, r51, r52]
    exact l1
  · rw [i24] at q2
    have q := t1 i q1 q2 q3
    obtain ⟨c1, c2, c3, c4⟩ := ho i q3
    unfold TRO jTG CP at q ⊢
    rw [i8, i17, i24, r28, r30, r43, c1, c2, c3, c4]
    exact q
/-- the try k is closed -/
theorem EX_ct {e u j la k : Int} {V V1 : PV} (h : EX e u j la k V V1) (hk : 0 ≤ k) (hT : TRO V1 k.toNat) : EX e u j la (-1) V V1 := by
  obtain ⟨k1, n1, b1, a1, f1, z1, l1, t1⟩ := h
  refine ⟨k1, n1, b1, a1, f1, z1, l1, fun i q1 q2 q3 => ?_⟩
  rcases Decidable.em ((i : Int) = k) with c | c
  · have e9 : i = k.toNat := by omega
    rw [e9]
    exact hT
  · exact t1 i q1 q2 c
