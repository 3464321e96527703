
theorem HDP_g {V V1 : PV} (h : HDP V V1) (hG : RG V) : RG V1 := by
  rcases h with ⟨r1, _⟩ | ⟨W1, W2, r1, t1, o1, r2⟩
  · exact r1.1 hG
  · exact r2.1 o1.2.2.2.2.1
theorem HDP_f {V V1 : PV} (h : HDP V V1) (q : V1.1 7 = 0) : V.1 7 = 0 := by
  rcases h with ⟨_, f⟩ | ⟨W1, W2, r1, t1, o1, r2⟩
  · exact absurd q f
  · have := r2.2.2.1 q
    rw [o1.2.2.2.1.1 7 (by decide)] at this
    exact r1.2.2.1 this
theorem HDP_b {V V1 : PV} (h : HDP V V1) (hB : BG 12 V) : BG 12 V1 := by
  rcases h with ⟨_, f⟩ | ⟨W1, W2, r1, t1, o1, r2⟩
  · exact fun q => absurd q f
  · exact BG_r r2 (BG_v o1.2.2.2.1 (by decide) (BG_r (c1 := 12) r1 hB (by decide))) (by decide)
theorem HDP_t {V V1 : PV} (h : HDP V V1) (hT : TY (-2) V) (h1 : V1.1 17 = V.1 17) (h2 : V1.2 28 = V.2 28) : TY (-2) V1 := fun q => by
  rw [h1, h2]
  exact hT (HDP_f h q)
theorem RDX_w {e : Int} {V0 V V1 : PV} (h : RDX V0 V) (h1 : Rx e V V1) (hf : V1.1 7 ≠ 0) : RDX V0 V1 := ⟨h1.1 h.1, by rw [h1.2.2.2.1.1]; exact h.2.1, by rw [h1.2.2.2.1.2.1]; exact h.2.2.1, fun q => absurd q hf, fun q => absurd q hf⟩
/-- the ranges that stay over a parse -/
def RGA (V : PV) : Prop := AR 0 12 (V.2 35) ∧ AR 0 16 (V.2 36) ∧ AR (-1) 1379 (V.2 43) ∧ AR (-1) 1379 (V.2 30) ∧ AR 0 9 (V.2 44) ∧ AR (-1) 459 (V.2 45) ∧ AR 0 8063 (V.2 37) ∧ AR 0 8063 (V.2 17)
def TKI (V : PV) : Prop := 1 ≤ V.1 40 ∧ V.1 40 ≤ 4001 ∧ V.2 64 4001 = 4 ∧ V.2 64 (V.1 40 - 1).toNat = 0 ∧ AR 0 4000 (V.2 65)
theorem RG_0 {V : PV} (ht : TKI V) (ha : RGA V) (h6 : V.1 6 = 0) (h7 : V.1 7 = 0) (h8 : V.1 8 = -1) (h9 : V.1 9 = -1) (h11 : V.1 11 = 0) (h17 : V.1 17 = 0) (h18 : V.1 18 = 0) (h24 : V.1 24 = 0) (h25 : V.1 25 = 0) : RG V := by
  obtain ⟨t1, t2, t3, t4, t5⟩ := ht
  obtain ⟨a1, a2, a3, a4, a5, a6, a7, a8⟩ := ha
  exact ⟨⟨by omega, by omega, t1, t2, t3, fun q => absurd h7 q, fun _ => by omega, t4, t5, fun _ i hi => absurd hi (by omega)⟩, ⟨by omega, by omega⟩, ⟨by omega, by omega⟩, ⟨by omega, by omega⟩, ⟨by omega, by omega⟩, ⟨by omega, by omega⟩, ⟨by omega, by omega⟩, ⟨by omega, by omega⟩, a1, a2, a3, a4, a5, a6, a7, a8⟩
theorem RDX_0 {V : PV} (hG : RG V) (h8 : V.1 8 = -1) (h9 : V.1 9 = -1) (h17 : V.1 17 = 0) (h18 : V.1 18 = 0) : RDX V V := ⟨hG, h8, h9, fun _ => by rw [h17]; rfl, fun _ => ⟨EX_rf, fun r hr => absurd hr (by omega), fun r w hr => absurd hr (by omega)⟩⟩
theorem RB_v {V V1 : PV} (hv : VF [7] [29] V V1) (h : jRB V) : jRB V1 := by
  obtain ⟨b1, b2, b3, b4, b5, b6, b7, b8, b9, b10, b11, b12, b13, b14, b15⟩ := h
  have v := hv.1
  have w := hv.2
  exact ⟨by rw [v 17 (by decide)]; exact b1, by rw [v 18 (by decide)]; exact b2, by rw [v 24 (by decide)]; exact b3, by rw [v 25 (by decide)]; exact b4, by rw [v 11 (by decide)]; exact b5, by rw [v 8 (by decide), v 24 (by decide)]; exact b6, by rw [v 9 (by decide), v 25 (by decide)]; exact b7, by rw [w 35 (by decide) (by decide)]; exact b8, by rw [w 36 (by decide) (by decide)]; exact b9, by rw [w 43 (by decide) (by decide)]; exact b10, by rw [w 30 (by decide) (by decide)]; exact b11, by rw [w 44 (by decide) (by decide)]; exact b12, by rw [w 45 (by decide) (by decide)]; exact b13, by rw [w 37 (by decide) (by decide)]; exact b14, by rw [w 17 (by decide) (by decide)]; exact b15⟩
