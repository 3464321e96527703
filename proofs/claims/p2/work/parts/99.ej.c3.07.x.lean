
/-- a further wait; where it stands is set -/
def NWR (r : Int) (V V1 : PV) : Prop := VF [] [36] V V1 ∧ (RG V → RG V1) ∧ -1 ≤ r ∧ r ≤ 15 ∧ (0 ≤ r → 1 ≤ V.1 18 ∧ V.2 36 (V.1 18 - 1).toNat = r ∧ ∀ i : Nat, V1.2 36 i = if (i : Int) = V.1 18 - 1 then r + 1 else V.2 36 i)
def SSR (w k : Int) (V V1 : PV) : Prop := VF [] [37] V V1 ∧ (RG V → RG V1) ∧ ((1 ≤ V.1 18 ∧ 0 ≤ w ∧ w < 16) → ∀ i : Nat, V1.2 37 i = if (i : Int) = 16 * (V.1 18 - 1) + w then k else V.2 37 i)
theorem TY_w {t : Int} {zi fa : List Nat} {V V1 : PV} (hv : VF zi fa V V1) (hz : dis9 [7, 17] zi = true) (hf : dis9 [28] fa = true) (h : TY t V) : TY t V1 := fun q => by
  rw [hv.1 7 (dis9_m hz (by decide))] at q
  rw [hv.1 17 (dis9_m hz (by decide)), hv.2 28 (dis9_m hf (by decide)) (fun e => absurd e (by decide))]
  exact h q
theorem BG_w {c : Int} {zi fa : List Nat} {V V1 : PV} (hv : VF zi fa V V1) (hz : dis9 [6, 7, 17] zi = true) (h : BG c V) : BG c V1 := fun q => by
  rw [hv.1 7 (dis9_m hz (by decide))] at q
  rw [hv.1 17 (dis9_m hz (by decide)), hv.1 6 (dis9_m hz (by decide))]
  exact h q
theorem Rz_n {r : Int} {V V1 : PV} (h : NWR r V V1) : Rz 0 V V1 := Rz_ir h.1 (by decide) (by decide) h.2.1
theorem Rz_s {w k : Int} {V V1 : PV} (h : SSR w k V V1) : Rz 0 V V1 := Rz_ir h.1 (by decide) (by decide) h.2.1
/-- a wait that could not be had: there is a fault -/
theorem Rx_nw {e1 e2 e r : Int} {V Va Vb Vc : PV} (hG : RG V) (h1 : Rx e1 V Va) (hn : NWR r Va Vb) (h2 : Rx e2 Vb Vc) (f : Vc.1 7 ≠ 0) : Rx e V Vc := by
  have z := Rz_tr hG (Rz_tr hG (Rz_x h1) (Rz_n hn)) (Rz_x h2)
  exact ⟨z.1, z.2.1, z.2.2.1, ⟨z.2.2.2.1.1, z.2.2.2.1.2.1, z.2.2.2.1.2.2.1, z.2.2.2.1.2.2.2, fun q => absurd q f⟩, fun q => absurd q f⟩
/-- a whole wait: its STAND is set -/
theorem Rx_as {e1 e2 e3 w k : Int} {V Va Vb Vc Vd Ve : PV} (hG : RG V) (h1 : Rx e1 V Va) (hn : NWR w Va Vb) (hw : 0 ≤ w) (h2 : Rx e2 Vb Vc) (hk0 : 0 ≤ k) (hk : Vc.1 7 = 0 → k < Vc.1 17 ∧ Vc.2 28 k.toNat = 35) (hs : SSR w k Vc Vd) (h3 : Rx e3 Vd Ve) : Rx (e1 + 0 + e2 + 0 + e3) V Ve := by
  refine Rx_z (Rz_tr hG (Rz_tr hG (Rz_tr hG (Rz_tr hG (Rz_x h1) (Rz_n hn)) (Rz_x h2)) (Rz_s hs)) (Rz_x h3)) (fun q E x => ?_)
  have qd := h3.2.2.1 q
  have qc : Vc.1 7 = 0 := by rw [← hs.1.1 7 (by decide)]; exact qd
  have qb := h2.2.2.1 qc
  have qa : Va.1 7 = 0 := by rw [← hn.1.1 7 (by decide)]; exact qb
  obtain ⟨n1, n2, n3⟩ := hn.2.2.2.2 hw
  have w15 := hn.2.2.2.1
  have b18 : Vb.1 18 = Va.1 18 := hn.1.1 18 (by decide)
  have c18 : Vc.1 18 = Va.1 18 := h2.2.2.2.1.2.2.1.trans b18
  have x1 : STI E Va := h1.2.2.2.1.2.2.2.2 qa E x
  have x2 : STI (fun i => E i ∨ (i : Int) = 16 * (Va.1 18 - 1) + w) Vb := by
    intro r w9 hr h9 hE
    rw [b18] at hr
    rw [n3 r] at h9
    rw [hn.1.2 37 (by decide) (by decide), hn.1.1 17 (by decide), hn.1.2 28 (by decide) (by decide)]
    rcases Decidable.em ((r : Int) = Va.1 18 - 1) with c | c
    · rw [if_pos c] at h9
      have er : (Va.1 18 - 1).toNat = r := by omega
      rw [er] at n2
      exact x1 r w9 hr (by
        rcases Int.lt_or_le (w9 : Int) w with d | d
        · omega
        · exact absurd (Or.inr (by omega)) hE) (fun z => hE (Or.inl z))
    · rw [if_neg c] at h9
      exact x1 r w9 hr h9 (fun z => hE (Or.inl z))
  have x3 := h2.2.2.2.1.2.2.2.2 qc _ x2
  have x4 : STI E Vd := by
    have s3 := hs.2.2 ⟨by omega, hw, by omega⟩
    intro r w9 hr h9 hE
    rw [hs.1.1 18 (by decide)] at hr
    rw [hs.1.2 36 (by decide) (by decide)] at h9
    rw [s3 (16 * r + w9), hs.1.1 17 (by decide), hs.1.2 28 (by decide) (by decide)]
    rcases Decidable.em (((16 * r + w9 : Nat) : Int) = 16 * (Vc.1 18 - 1) + w) with c | c
    · rw [if_pos c]
      exact ⟨hk0, (hk qc).1, (hk qc).2⟩
    · rw [if_neg c]
      exact x3 r w9 hr h9 (fun z => by
        rcases z with z | z
        · exact hE z
        · exact c (by rw [c18]; exact z))
  exact h3.2.2.2.1.2.2.2.2 q E x4
