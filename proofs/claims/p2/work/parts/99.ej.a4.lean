
def NZ (V : PV) : Prop := V.2 64 (V.1 6).toNat ≠ 0
def TKs (V V1 : PV) : Prop := V1.1 40 = V.1 40 ∧ V1.2 64 = V.2 64 ∧ V1.2 65 = V.2 65 ∧ V.1 24 ≤ V1.1 24 ∧ V.1 25 ≤ V1.1 25
/-- the waits of the routines stand at STANDs, but for those of E -/
def STI (E : Nat → Prop) (V : PV) : Prop := ∀ r w : Nat, (r : Int) < V.1 18 → (w : Int) < V.2 36 r → ¬ E (16 * r + w) → 0 ≤ V.2 37 (16 * r + w) ∧ V.2 37 (16 * r + w) < V.1 17 ∧ V.2 28 (V.2 37 (16 * r + w)).toNat = 35
def STf (V V1 : PV) : Prop := V1.1 7 = 0 → ∀ E, STI E V → STI E V1
theorem STf_rf {V : PV} : STf V V := fun _ _ h => h
theorem STf_tr {V V1 V2 : PV} (h : STf V V1) (h1 : STf V1 V2) (hq : V2.1 7 = 0 → V1.1 7 = 0) : STf V V2 := fun q E x => h1 q E (h (hq q) E x)
theorem STf_v {zi fa : List Nat} {V V1 : PV} (hv : VF zi fa V V1) (hz : dis9 [17, 18] zi = true) (hf : dis9 [28, 36, 37] fa = true) : STf V V1 := fun _ E x => by
  have e17 := hv.1 17 (dis9_m hz (by decide))
  have e18 := hv.1 18 (dis9_m hz (by decide))
  have e28 := hv.2 28 (dis9_m hf (by decide)) (fun e => absurd e (by decide))
  have e36 := hv.2 36 (dis9_m hf (by decide)) (fun e => absurd e (by decide))
  have e37 := hv.2 37 (dis9_m hf (by decide)) (fun e => absurd e (by decide))
  unfold STI
  rw [e17, e18, e28, e36, e37]
  exact x
/-- from V to V1 the parser went on: what it laid is good unless there is a fault; at most e acts more than twice the tokens -/
def Rx (e : Int) (V V1 : PV) : Prop := (RG V → RG V1) ∧ TKs V V1 ∧ (V1.1 7 = 0 → V.1 7 = 0) ∧ (V1.1 8 = V.1 8 ∧ V1.1 9 = V.1 9 ∧ V1.1 18 = V.1 18 ∧ V1.2 32 = V.2 32 ∧ STf V V1) ∧ (V1.1 7 = 0 → EX e (-1) (-1) (-1) (-1) V V1)
theorem Rx_rf {V : PV} : Rx 0 V V := ⟨fun h => h, ⟨rfl, rfl, rfl, Int.le_refl _, Int.le_refl _⟩, fun h => h, ⟨rfl, rfl, rfl, rfl, STf_rf⟩, fun _ => EX_rf⟩
theorem Rx_m {e e1 : Int} {V V1 : PV} (h : Rx e V V1) (he : e ≤ e1) : Rx e1 V V1 := ⟨h.1, h.2.1, h.2.2.1, h.2.2.2.1, fun q => EX_m (h.2.2.2.2 q) he⟩
theorem Rx_g {e : Int} {V V1 : PV} (h : Rx e V V1) (hG : RG V) : RG V1 := h.1 hG
theorem Rx_tr {e e1 : Int} {V V1 V2 : PV} (hG : RG V) (h : Rx e V V1) (h1 : Rx e1 V1 V2) : Rx (e + e1) V V2 := by
  obtain ⟨a1, ⟨a2, a3, a4, m1, m2⟩, a5, ⟨a6, a7, a8, a9⟩, a10⟩ := h
  obtain ⟨b1, ⟨b2, b3, b4, m3, m4⟩, b5, ⟨b6, b7, b8, b9⟩, b10⟩ := h1
  refine ⟨fun g => b1 (a1 g), ⟨b2.trans a2, b3.trans a3, b4.trans a4, by omega, by omega⟩, fun q => a5 (b5 q), ⟨b6.trans a6, b7.trans a7, b8.trans a8, b9.1.trans a9.1, STf_tr a9.2 b9.2 b5⟩, fun q => ?_⟩
  have x1 := a10 (b5 q)
  have x2 := b10 q
  exact EX_tr hG.2.1.1 x1 x2 (fun _ => b6) (fun _ l => by have := x2.2.1 l; rw [a6] at this; exact this)
def Rz (e : Int) (V V1 : PV) : Prop := (RG V → RG V1) ∧ TKs V V1 ∧ (V1.1 7 = 0 → V.1 7 = 0) ∧ (V1.1 8 = V.1 8 ∧ V1.1 9 = V.1 9 ∧ V1.1 18 = V.1 18 ∧ V1.2 32 = V.2 32) ∧ (V1.1 7 = 0 → EX e (-1) (-1) (-1) (-1) V V1)
theorem Rz_x {e : Int} {V V1 : PV} (h : Rx e V V1) : Rz e V V1 := ⟨h.1, h.2.1, h.2.2.1, ⟨h.2.2.2.1.1, h.2.2.2.1.2.1, h.2.2.2.1.2.2.1, h.2.2.2.1.2.2.2.1⟩, h.2.2.2.2⟩
theorem Rx_z {e : Int} {V V1 : PV} (h : Rz e V V1) (s : STf V V1) : Rx e V V1 := ⟨h.1, h.2.1, h.2.2.1, ⟨h.2.2.2.1.1, h.2.2.2.1.2.1, h.2.2.2.1.2.2.1, h.2.2.2.1.2.2.2, s⟩, h.2.2.2.2⟩
theorem Rz_tr {e e1 : Int} {V V1 V2 : PV} (hG : RG V) (h : Rz e V V1) (h1 : Rz e1 V1 V2) : Rz (e + e1) V V2 := by
  obtain ⟨a1, ⟨a2, a3, a4, m1, m2⟩, a5, ⟨a6, a7, a8, a9⟩, a10⟩ := h
  obtain ⟨b1, ⟨b2, b3, b4, m3, m4⟩, b5, ⟨b6, b7, b8, b9⟩, b10⟩ := h1
  refine ⟨fun g => b1 (a1 g), ⟨b2.trans a2, b3.trans a3, b4.trans a4, by omega, by omega⟩, fun q => a5 (b5 q), ⟨b6.trans a6, b7.trans a7, b8.trans a8, b9.trans a9⟩, fun q => ?_⟩
  have x1 := a10 (b5 q)
  have x2 := b10 q
  exact EX_tr hG.2.1.1 x1 x2 (fun _ => b6) (fun _ l => by have := x2.2.1 l; rw [a6] at this; exact this)
def BG (c : Int) (V : PV) : Prop := V.1 7 = 0 → V.1 17 ≤ 2 * V.1 6 + c
theorem BG_r {e c c1 : Int} {V V1 : PV} (h : Rx e V V1) (hB : BG c V) (hc : c + e ≤ c1) : BG c1 V1 := fun q => by
  have h1 := hB (h.2.2.1 q)
  have h2 := (h.2.2.2.2 q).2.2.1
  omega
theorem BG_m {c c1 : Int} {V : PV} (hB : BG c V) (hc : c ≤ c1) : BG c1 V := fun q => by
  have h1 := hB q
  omega
def TY (t : Int) (V : PV) : Prop := V.1 7 = 0 → tyf (V.2 28) (V.1 17).toNat = t
def LK (V : PV) : Prop := V.1 7 = 0 → 0 ≤ V.1 9 → onc (V.1 24) (V.2 43) (V.1 8) (V.2 50 (V.1 9).toNat)
theorem LK_r {e : Int} {V V1 : PV} (hG : RG V) (h : Rx e V V1) (hL : LK V) : LK V1 := fun q h0 => by
  have x := (h.2.2.2.2 q).1
  obtain ⟨s1, s2, s3⟩ := h.2.2.2.1
  have b7 := hG.2.2.2.2.2.2.2.1
  rw [s2] at h0 ⊢
  rw [s1, (x.2.2.2.2.2 _ (by omega)).1]
  exact onc_k x.2.1 (fun k hk => (x.2.2.2.2.1 k hk).1) (hL (h.2.2.1 q) h0)
def DK (d : Int) (V : PV) : Prop := V.1 7 = 0 → 0 ≤ V.1 8 → V.2 44 (V.1 8 / 3).toNat + 2 ≤ d
theorem DK_r {e d : Int} {V V1 : PV} (hG : RG V) (h : Rx e V V1) (hL : DK d V) : DK d V1 := fun q h0 => by
  have x := (h.2.2.2.2 q).1
  obtain ⟨s1, s2, s3⟩ := h.2.2.2.1
  have b6 := hG.2.2.2.2.2.2.1
  rw [s1] at h0 ⊢
  rw [(x.2.2.2.2.1 _ (by omega)).2.1]
  exact hL (h.2.2.1 q) h0
theorem DK_m {d d1 : Int} {V : PV} (h : DK d V) (hd : d ≤ d1) : DK d1 V := fun q h0 => by have := h q h0; omega
/-- what an emit did; r: where -/
def EMr (o a r : Int) (V V1 : PV) : Prop := 0 ≤ r ∧ r ≤ 8063 ∧ ((V.1 17 < 8064 ∧ r = V.1 17 ∧ jEM o a V V1) ∨ (8064 ≤ V.1 17 ∧ V1 = V))
theorem EMr_f {o a r c : Int} {V V1 : PV} (hG : RG V) (hB : BG c V) (hc : c ≤ 60) (h : EMr o a r V V1) (h0 : V.1 7 = 0) : r = V.1 17 ∧ jEM o a V V1 := by
  obtain ⟨h1, h2, h3⟩ := h
  rcases h3 with ⟨q1, q2, q3⟩ | ⟨q1, q2⟩
  · exact ⟨q2, q3⟩
  · have := hB h0
    have := hG.1.2.2.2.1
    have := hG.1.2.2.2.2.2.2.1 h0
    omega
theorem EMr_i {o a r : Int} {V V1 : PV} (h : EMr o a r V V1) : VF [17] [28, 29, 30] V V1 := by
  obtain ⟨h1, h2, h3⟩ := h
  rcases h3 with ⟨q1, q2, q3⟩ | ⟨q1, q2⟩
  · exact q3.2.2.2.2
  · rw [q2]; exact ⟨fun _ _ => rfl, fun _ _ _ => rfl⟩
theorem RG_em {V V1 : PV} {o a : Int} (hE : jEM o a V V1) (hs : V.1 17 < 8064) (hv : VF [17] [28, 29, 30] V V1) (hG : RG V) : RG V1 := by
  obtain ⟨⟨a1, a2, a3, a4, a5, a6, a7, a8, a9, a10⟩, b1, b2, b3, b4, b5, b6, b7, b8, b9, b10, b11, b12, b13, b14, b15⟩ := hG
  have v := hv.1
  have w := hv.2
  exact ⟨⟨by rw [v 6 (by decide)]; exact a1, by rw [v 6 (by decide)]; exact a2, by rw [v 40 (by decide)]; exact a3, by rw [v 40 (by decide)]; exact a4, by rw [w 64 (by decide) (by decide)]; exact a5, by rw [v 7 (by decide), v 6 (by decide)]; exact a6, by rw [v 7 (by decide), v 6 (by decide), v 40 (by decide)]; exact a7, by rw [v 40 (by decide), w 64 (by decide) (by decide)]; exact a8, by rw [w 65 (by decide) (by decide)]; exact a9, fun q i hi => by rw [v 7 (by decide)] at q; rw [v 11 (by decide)] at hi; have h9 := a10 q i hi; rw [w 17 (by decide) (by decide)]; exact ⟨h9.1, by have := hE.1; omega, by rw [hE.2.1, if_neg (by omega)]; exact h9.2.2⟩⟩, by have := hE.1; omega, by rw [v 18 (by decide)]; exact b2, by rw [v 24 (by decide)]; exact b3, by rw [v 25 (by decide)]; exact b4, by rw [v 11 (by decide)]; exact b5, by rw [v 8 (by decide), v 24 (by decide)]; exact b6, by rw [v 9 (by decide), v 25 (by decide)]; exact b7, by rw [w 35 (by decide) (by decide)]; exact b8, by rw [w 36 (by decide) (by decide)]; exact b9, by rw [w 43 (by decide) (by decide)]; exact b10, fun i => by rw [hE.2.2.2.1 i]; split; omega; exact b11 i, by rw [w 44 (by decide) (by decide)]; exact b12, by rw [w 45 (by decide) (by decide)]; exact b13, by rw [w 37 (by decide) (by decide)]; exact b14, by rw [w 17 (by decide) (by decide)]; exact b15⟩
theorem STf_em {o a r : Int} {V V1 : PV} (h : EMr o a r V V1) : STf V V1 := fun q E x => by
  rcases h.2.2 with ⟨q1, q2, q3⟩ | ⟨q1, q2⟩
  · have w := q3.2.2.2.2
    have l := q3.1
    intro r w9 hr hw hE
    rw [w.1 18 (by decide)] at hr
    rw [w.2 36 (by decide) (by decide)] at hw
    obtain ⟨x1, x2, x3⟩ := x r w9 hr hw hE
    rw [w.2 37 (by decide) (by decide)]
    exact ⟨x1, by omega, by rw [q3.2.1, if_neg (by omega)]; exact x3⟩
  · rw [q2]; exact x
theorem EMr_R {o a r c : Int} {V V1 : PV} (hG : RG V) (hB : BG c V) (hc : c ≤ 60) (h : EMr o a r V V1) (hA : V.1 7 = 0 → ACTn o a V) : Rx 1 V V1 := by
  have v := (EMr_i h).1
  have w := (EMr_i h).2
  refine ⟨fun g => ?_, ⟨v 40 (by decide), w 64 (by decide) (by decide), w 65 (by decide) (by decide), by rw [v 24 (by decide)]; exact Int.le_refl _, by rw [v 25 (by decide)]; exact Int.le_refl _⟩, fun q => ?_, ⟨v 8 (by decide), v 9 (by decide), v 18 (by decide), w 32 (by decide) (by decide), STf_em h⟩, fun q => ?_⟩
  · rcases h.2.2 with ⟨q1, q2, q3⟩ | ⟨q1, q2⟩
    · exact RG_em q3 q1 q3.2.2.2.2 g
    · rw [q2]; exact g
  · rw [v 7 (by decide)] at q; exact q
  · rw [v 7 (by decide)] at q
    have x := (EMr_f hG hB hc h q).2
    exact EX_em (e := 0) hG.2.1.1 EX_rf x (Or.inl rfl) (Or.inl rfl) (fun _ _ => hA q) (fun _ => Or.inl rfl)
theorem EMr_T {o a r c t t1 : Int} {V V1 : PV} (hG : RG V) (hB : BG c V) (hc : c ≤ 60) (h : EMr o a r V V1) (hT : TY t V) (ht : stp o t = t1) : TY t1 V1 := fun q => by
  rw [(EMr_i h).1 7 (by decide)] at q
  rw [← ht]
  exact EM_t hG.2.1.1 (EM_z (EMr_f hG hB hc h q).2) (hT q)
theorem TY_r {e t : Int} {V V1 : PV} (h : Rx e V V1) (hT : TY t V) (h1 : V1.1 17 = V.1 17) (h2 : V1.2 28 = V.2 28) : TY t V1 := fun q => by
  rw [h1, h2]
  exact hT (h.2.2.1 q)
theorem Rz_ir {zi fa : List Nat} {V V1 : PV} (hv : VF zi fa V V1) (hz : dis9 [6, 7, 8, 9, 17, 18, 24, 25, 40] zi = true) (hf : dis9 [28, 29, 30, 32, 43, 44, 46, 47, 48, 49, 50, 51, 52, 149, 64, 65] fa = true) (hR : RG V → RG V1) : Rz 0 V V1 := by
  have v : ∀ f, f ∈ [6, 7, 8, 9, 17, 18, 24, 25, 40] → V1.1 f = V.1 f := fun f h9 => hv.1 f (dis9_m hz h9)
  have w : ∀ f, f ∈ [28, 29, 30, 32, 43, 44, 46, 47, 48, 49, 50, 51, 52, 149, 64, 65] → V1.2 f = V.2 f := fun f h9 => hv.2 f (dis9_m hf h9) (fun _ => dis9_m hf (by decide))
  refine ⟨hR, ⟨v 40 (by decide), w 64 (by decide), w 65 (by decide), by rw [v 24 (by decide)]; exact Int.le_refl _, by rw [v 25 (by decide)]; exact Int.le_refl _⟩, fun q => by rw [v 7 (by decide)] at q; exact q, ⟨v 8 (by decide), v 9 (by decide), v 18 (by decide), w 32 (by decide)⟩, fun _ => EX_cg EX_rf hv ?_ ?_⟩
  · exact List.all_eq_true.mpr (fun x hx => by have := dis9_m hz (k := x) (by revert hx; revert x; decide); simp [this])
  · exact List.all_eq_true.mpr (fun x hx => by have := dis9_m hf (k := x) (by revert hx; revert x; decide); simp [this])
theorem Rx_ir {zi fa : List Nat} {V V1 : PV} (hv : VF zi fa V V1) (hz : dis9 [6, 7, 8, 9, 17, 18, 24, 25, 40] zi = true) (hf : dis9 [28, 29, 30, 32, 43, 44, 46, 47, 48, 49, 50, 51, 52, 149, 64, 65] fa = true) (hf2 : dis9 [28, 36, 37] fa = true) (hR : RG V → RG V1) : Rx 0 V V1 := by
  have v : ∀ f, f ∈ [6, 7, 8, 9, 17, 18, 24, 25, 40] → V1.1 f = V.1 f := fun f h9 => hv.1 f (dis9_m hz h9)
  have w : ∀ f, f ∈ [28, 29, 30, 32, 43, 44, 46, 47, 48, 49, 50, 51, 52, 149, 64, 65] → V1.2 f = V.2 f := fun f h9 => hv.2 f (dis9_m hf h9) (fun _ => dis9_m hf (by decide))
  refine ⟨hR, ⟨v 40 (by decide), w 64 (by decide), w 65 (by decide), by rw [v 24 (by decide)]; exact Int.le_refl _, by rw [v 25 (by decide)]; exact Int.le_refl _⟩, fun q => by rw [v 7 (by decide)] at q; exact q, ⟨v 8 (by decide), v 9 (by decide), v 18 (by decide), w 32 (by decide), STf_v hv ?_ hf2⟩, fun _ => EX_cg EX_rf hv ?_ ?_⟩
  · exact List.all_eq_true.mpr (fun x hx => by have := dis9_m hz (k := x) (by revert hx; revert x; decide); simp [this])
  · exact List.all_eq_true.mpr (fun x hx => by have := dis9_m hz (k := x) (by revert hx; revert x; decide); simp [this])
  · exact List.all_eq_true.mpr (fun x hx => by have := dis9_m hf (k := x) (by revert hx; revert x; decide); simp [this])
theorem RG_at {V V1 : PV} (h : (V.1 6 + 1 < V.1 40 ∧ V1.1 6 = V.1 6 + 1) ∨ V1.1 6 = V.1 6) (hv : VF [6] [] V V1) (hG : RG V) : RG V1 := by
  obtain ⟨⟨a1, a2, a3, a4, a5, a6, a7, a8, a9, a10⟩, b1, b2, b3, b4, b5, b6, b7, b8, b9, b10, b11, b12, b13, b14, b15⟩ := hG
  have v := hv.1
  have w := hv.2
  exact ⟨⟨by omega, by omega, by rw [v 40 (by decide)]; exact a3, by rw [v 40 (by decide)]; exact a4, by rw [w 64 (by decide) (by decide)]; exact a5, fun q => by rw [v 7 (by decide)] at q; have := a6 q; omega, fun q => by rw [v 7 (by decide)] at q; rw [v 40 (by decide)]; have := a7 q; omega, by rw [v 40 (by decide), w 64 (by decide) (by decide)]; exact a8, by rw [w 65 (by decide) (by decide)]; exact a9, by unfold CHI at a10 ⊢; rw [v 7 (by decide), v 11 (by decide), v 17 (by decide), w 17 (by decide) (by decide), w 28 (by decide) (by decide)]; exact a10⟩, by rw [v 17 (by decide)]; exact b1, by rw [v 18 (by decide)]; exact b2, by rw [v 24 (by decide)]; exact b3, by rw [v 25 (by decide)]; exact b4, by rw [v 11 (by decide)]; exact b5, by rw [v 8 (by decide), v 24 (by decide)]; exact b6, by rw [v 9 (by decide), v 25 (by decide)]; exact b7, by rw [w 35 (by decide) (by decide)]; exact b8, by rw [w 36 (by decide) (by decide)]; exact b9, by rw [w 43 (by decide) (by decide)]; exact b10, by rw [w 30 (by decide) (by decide)]; exact b11, by rw [w 44 (by decide) (by decide)]; exact b12, by rw [w 45 (by decide) (by decide)]; exact b13, by rw [w 37 (by decide) (by decide)]; exact b14, by rw [w 17 (by decide) (by decide)]; exact b15⟩
theorem Rx_at {V V1 : PV} (hv : VF [6] [] V V1) (h : (V.1 6 + 1 < V.1 40 ∧ V1.1 6 = V.1 6 + 1) ∨ (¬ V.1 6 + 1 < V.1 40 ∧ V1.1 6 = V.1 6)) (hG : RG V) (hz : NZ V ∨ V1.1 6 = V.1 6 + 1) : Rx (-2) V V1 := by
  have v := hv.1
  have w := hv.2
  refine ⟨fun g => RG_at (by omega) hv g, ⟨v 40 (by decide), w 64 (by decide) (by decide), w 65 (by decide) (by decide), by rw [v 24 (by decide)]; exact Int.le_refl _, by rw [v 25 (by decide)]; exact Int.le_refl _⟩, fun q => by rw [v 7 (by decide)] at q; exact q, ⟨v 8 (by decide), v 9 (by decide), v 18 (by decide), w 32 (by decide) (by decide), STf_v hv (by decide) (by decide)⟩, fun q => ?_⟩
  rw [v 7 (by decide)] at q
  have a7 := hG.1.2.2.2.2.2.2.1 q
  have a8 := hG.1.2.2.2.2.2.2.2.1
  refine EX_at EX_rf hv ?_
  rcases hz with hz | hz
  · rcases h with h | h
    · omega
    · have e9 : V.1 6 = V.1 40 - 1 := by omega
      exact absurd (show V.2 64 (V.1 6).toNat = 0 by rw [e9]; exact a8) hz
  · omega
theorem RG_wr {V V1 : PV} (h : V1.1 7 ≠ 0) (h1 : V1.1 6 = 4001) (hv : VF [6, 7] [] V V1) (hG : RG V) : RG V1 := by
  obtain ⟨⟨a1, a2, a3, a4, a5, a6, a7, a8, a9, a10⟩, b1, b2, b3, b4, b5, b6, b7, b8, b9, b10, b11, b12, b13, b14, b15⟩ := hG
  have v := hv.1
  have w := hv.2
  exact ⟨⟨by omega, by omega, by rw [v 40 (by decide)]; exact a3, by rw [v 40 (by decide)]; exact a4, by rw [w 64 (by decide) (by decide)]; exact a5, fun _ => h1, fun q => absurd q h, by rw [v 40 (by decide), w 64 (by decide) (by decide)]; exact a8, by rw [w 65 (by decide) (by decide)]; exact a9, fun q => absurd q h⟩, by rw [v 17 (by decide)]; exact b1, by rw [v 18 (by decide)]; exact b2, by rw [v 24 (by decide)]; exact b3, by rw [v 25 (by decide)]; exact b4, by rw [v 11 (by decide)]; exact b5, by rw [v 8 (by decide), v 24 (by decide)]; exact b6, by rw [v 9 (by decide), v 25 (by decide)]; exact b7, by rw [w 35 (by decide) (by decide)]; exact b8, by rw [w 36 (by decide) (by decide)]; exact b9, by rw [w 43 (by decide) (by decide)]; exact b10, by rw [w 30 (by decide) (by decide)]; exact b11, by rw [w 44 (by decide) (by decide)]; exact b12, by rw [w 45 (by decide) (by decide)]; exact b13, by rw [w 37 (by decide) (by decide)]; exact b14, by rw [w 17 (by decide) (by decide)]; exact b15⟩
theorem Rx_wr {e : Int} {V V1 : PV} (hv : VF [6, 7] [] V V1) (h : V1.1 7 ≠ 0) (h1 : RG V → V1.1 6 = 4001) : Rx e V V1 := by
  have v := hv.1
  have w := hv.2
  exact ⟨fun g => RG_wr h (h1 g) hv g, ⟨v 40 (by decide), w 64 (by decide) (by decide), w 65 (by decide) (by decide), by rw [v 24 (by decide)]; exact Int.le_refl _, by rw [v 25 (by decide)]; exact Int.le_refl _⟩, fun q => absurd q h, ⟨v 8 (by decide), v 9 (by decide), v 18 (by decide), w 32 (by decide) (by decide), STf_v hv (by decide) (by decide)⟩, fun q => absurd q h⟩
theorem Rx_x {e e1 : Int} {V V1 : PV} (h : Rx e V V1) (h1 : V1.1 7 ≠ 0) : Rx e1 V V1 := ⟨h.1, h.2.1, h.2.2.1, h.2.2.2.1, fun q => absurd q h1⟩
theorem RG_35 {V V1 : PV} (h : AR 0 12 (V1.2 35)) (hv : VF [] [35] V V1) (hG : RG V) : RG V1 := by
  obtain ⟨⟨a1, a2, a3, a4, a5, a6, a7, a8, a9, a10⟩, b1, b2, b3, b4, b5, b6, b7, b8, b9, b10, b11, b12, b13, b14, b15⟩ := hG
  have v := hv.1
  have w := hv.2
  exact ⟨⟨by rw [v 6 (by decide)]; exact a1, by rw [v 6 (by decide)]; exact a2, by rw [v 40 (by decide)]; exact a3, by rw [v 40 (by decide)]; exact a4, by rw [w 64 (by decide) (by decide)]; exact a5, by rw [v 7 (by decide), v 6 (by decide)]; exact a6, by rw [v 7 (by decide), v 6 (by decide), v 40 (by decide)]; exact a7, by rw [v 40 (by decide), w 64 (by decide) (by decide)]; exact a8, by rw [w 65 (by decide) (by decide)]; exact a9, by unfold CHI at a10 ⊢; rw [v 7 (by decide), v 11 (by decide), v 17 (by decide), w 17 (by decide) (by decide), w 28 (by decide) (by decide)]; exact a10⟩, by rw [v 17 (by decide)]; exact b1, by rw [v 18 (by decide)]; exact b2, by rw [v 24 (by decide)]; exact b3, by rw [v 25 (by decide)]; exact b4, by rw [v 11 (by decide)]; exact b5, by rw [v 8 (by decide), v 24 (by decide)]; exact b6, by rw [v 9 (by decide), v 25 (by decide)]; exact b7, h, by rw [w 36 (by decide) (by decide)]; exact b9, by rw [w 43 (by decide) (by decide)]; exact b10, by rw [w 30 (by decide) (by decide)]; exact b11, by rw [w 44 (by decide) (by decide)]; exact b12, by rw [w 45 (by decide) (by decide)]; exact b13, by rw [w 37 (by decide) (by decide)]; exact b14, by rw [w 17 (by decide) (by decide)]; exact b15⟩
theorem RG_36 {V V1 : PV} (h : AR 0 16 (V1.2 36)) (hv : VF [] [36] V V1) (hG : RG V) : RG V1 := by
  obtain ⟨⟨a1, a2, a3, a4, a5, a6, a7, a8, a9, a10⟩, b1, b2, b3, b4, b5, b6, b7, b8, b9, b10, b11, b12, b13, b14, b15⟩ := hG
  have v := hv.1
  have w := hv.2
  exact ⟨⟨by rw [v 6 (by decide)]; exact a1, by rw [v 6 (by decide)]; exact a2, by rw [v 40 (by decide)]; exact a3, by rw [v 40 (by decide)]; exact a4, by rw [w 64 (by decide) (by decide)]; exact a5, by rw [v 7 (by decide), v 6 (by decide)]; exact a6, by rw [v 7 (by decide), v 6 (by decide), v 40 (by decide)]; exact a7, by rw [v 40 (by decide), w 64 (by decide) (by decide)]; exact a8, by rw [w 65 (by decide) (by decide)]; exact a9, by unfold CHI at a10 ⊢; rw [v 7 (by decide), v 11 (by decide), v 17 (by decide), w 17 (by decide) (by decide), w 28 (by decide) (by decide)]; exact a10⟩, by rw [v 17 (by decide)]; exact b1, by rw [v 18 (by decide)]; exact b2, by rw [v 24 (by decide)]; exact b3, by rw [v 25 (by decide)]; exact b4, by rw [v 11 (by decide)]; exact b5, by rw [v 8 (by decide), v 24 (by decide)]; exact b6, by rw [v 9 (by decide), v 25 (by decide)]; exact b7, by rw [w 35 (by decide) (by decide)]; exact b8, h, by rw [w 43 (by decide) (by decide)]; exact b10, by rw [w 30 (by decide) (by decide)]; exact b11, by rw [w 44 (by decide) (by decide)]; exact b12, by rw [w 45 (by decide) (by decide)]; exact b13, by rw [w 37 (by decide) (by decide)]; exact b14, by rw [w 17 (by decide) (by decide)]; exact b15⟩
theorem RG_37 {V V1 : PV} (h : AR 0 8063 (V1.2 37)) (hv : VF [] [37] V V1) (hG : RG V) : RG V1 := by
  obtain ⟨⟨a1, a2, a3, a4, a5, a6, a7, a8, a9, a10⟩, b1, b2, b3, b4, b5, b6, b7, b8, b9, b10, b11, b12, b13, b14, b15⟩ := hG
  have v := hv.1
  have w := hv.2
  exact ⟨⟨by rw [v 6 (by decide)]; exact a1, by rw [v 6 (by decide)]; exact a2, by rw [v 40 (by decide)]; exact a3, by rw [v 40 (by decide)]; exact a4, by rw [w 64 (by decide) (by decide)]; exact a5, by rw [v 7 (by decide), v 6 (by decide)]; exact a6, by rw [v 7 (by decide), v 6 (by decide), v 40 (by decide)]; exact a7, by rw [v 40 (by decide), w 64 (by decide) (by decide)]; exact a8, by rw [w 65 (by decide) (by decide)]; exact a9, by unfold CHI at a10 ⊢; rw [v 7 (by decide), v 11 (by decide), v 17 (by decide), w 17 (by decide) (by decide), w 28 (by decide) (by decide)]; exact a10⟩, by rw [v 17 (by decide)]; exact b1, by rw [v 18 (by decide)]; exact b2, by rw [v 24 (by decide)]; exact b3, by rw [v 25 (by decide)]; exact b4, by rw [v 11 (by decide)]; exact b5, by rw [v 8 (by decide), v 24 (by decide)]; exact b6, by rw [v 9 (by decide), v 25 (by decide)]; exact b7, by rw [w 35 (by decide) (by decide)]; exact b8, by rw [w 36 (by decide) (by decide)]; exact b9, by rw [w 43 (by decide) (by decide)]; exact b10, by rw [w 30 (by decide) (by decide)]; exact b11, by rw [w 44 (by decide) (by decide)]; exact b12, by rw [w 45 (by decide) (by decide)]; exact b13, h, by rw [w 17 (by decide) (by decide)]; exact b15⟩
theorem RG_kc {V V1 : PV} (h : AR 0 8063 (V1.2 17)) (h1 : 0 ≤ V1.1 11 ∧ V1.1 11 ≤ 460) (h2 : V1.1 7 = 0 → CHI V1) (hv : VF [11] [17, 18, 19] V V1) (hG : RG V) : RG V1 := by
  obtain ⟨⟨a1, a2, a3, a4, a5, a6, a7, a8, a9, a10⟩, b1, b2, b3, b4, b5, b6, b7, b8, b9, b10, b11, b12, b13, b14, b15⟩ := hG
  have v := hv.1
  have w := hv.2
  exact ⟨⟨by rw [v 6 (by decide)]; exact a1, by rw [v 6 (by decide)]; exact a2, by rw [v 40 (by decide)]; exact a3, by rw [v 40 (by decide)]; exact a4, by rw [w 64 (by decide) (by decide)]; exact a5, by rw [v 7 (by decide), v 6 (by decide)]; exact a6, by rw [v 7 (by decide), v 6 (by decide), v 40 (by decide)]; exact a7, by rw [v 40 (by decide), w 64 (by decide) (by decide)]; exact a8, by rw [w 65 (by decide) (by decide)]; exact a9, h2⟩, by rw [v 17 (by decide)]; exact b1, by rw [v 18 (by decide)]; exact b2, by rw [v 24 (by decide)]; exact b3, by rw [v 25 (by decide)]; exact b4, h1, by rw [v 8 (by decide), v 24 (by decide)]; exact b6, by rw [v 9 (by decide), v 25 (by decide)]; exact b7, by rw [w 35 (by decide) (by decide)]; exact b8, by rw [w 36 (by decide) (by decide)]; exact b9, by rw [w 43 (by decide) (by decide)]; exact b10, by rw [w 30 (by decide) (by decide)]; exact b11, by rw [w 44 (by decide) (by decide)]; exact b12, by rw [w 45 (by decide) (by decide)]; exact b13, by rw [w 37 (by decide) (by decide)]; exact b14, h⟩
theorem RG_nl {V V1 : PV} (h : V1.1 25 = V.1 25 + 1) (h1 : V.1 25 < 460) (hv : VF [25] [50, 51] V V1) (hG : RG V) : RG V1 := by
  obtain ⟨⟨a1, a2, a3, a4, a5, a6, a7, a8, a9, a10⟩, b1, b2, b3, b4, b5, b6, b7, b8, b9, b10, b11, b12, b13, b14, b15⟩ := hG
  have v := hv.1
  have w := hv.2
  exact ⟨⟨by rw [v 6 (by decide)]; exact a1, by rw [v 6 (by decide)]; exact a2, by rw [v 40 (by decide)]; exact a3, by rw [v 40 (by decide)]; exact a4, by rw [w 64 (by decide) (by decide)]; exact a5, by rw [v 7 (by decide), v 6 (by decide)]; exact a6, by rw [v 7 (by decide), v 6 (by decide), v 40 (by decide)]; exact a7, by rw [v 40 (by decide), w 64 (by decide) (by decide)]; exact a8, by rw [w 65 (by decide) (by decide)]; exact a9, by unfold CHI at a10 ⊢; rw [v 7 (by decide), v 11 (by decide), v 17 (by decide), w 17 (by decide) (by decide), w 28 (by decide) (by decide)]; exact a10⟩, by rw [v 17 (by decide)]; exact b1, by rw [v 18 (by decide)]; exact b2, by rw [v 24 (by decide)]; exact b3, by omega, by rw [v 11 (by decide)]; exact b5, by rw [v 8 (by decide), v 24 (by decide)]; exact b6, by rw [v 9 (by decide)]; omega, by rw [w 35 (by decide) (by decide)]; exact b8, by rw [w 36 (by decide) (by decide)]; exact b9, by rw [w 43 (by decide) (by decide)]; exact b10, by rw [w 30 (by decide) (by decide)]; exact b11, by rw [w 44 (by decide) (by decide)]; exact b12, by rw [w 45 (by decide) (by decide)]; exact b13, by rw [w 37 (by decide) (by decide)]; exact b14, by rw [w 17 (by decide) (by decide)]; exact b15⟩
theorem RG_nt {V V1 : PV} (h : V1.1 24 = V.1 24 + 1) (h1 : V.1 24 < 460) (h2 : AR (-1) 1379 (V1.2 43)) (h3 : AR 0 9 (V1.2 44)) (h4 : AR (-1) 459 (V1.2 45)) (hv : VF [24] [43, 44, 45, 49] V V1) (hG : RG V) : RG V1 := by
  obtain ⟨⟨a1, a2, a3, a4, a5, a6, a7, a8, a9, a10⟩, b1, b2, b3, b4, b5, b6, b7, b8, b9, b10, b11, b12, b13, b14, b15⟩ := hG
  have v := hv.1
  have w := hv.2
  exact ⟨⟨by rw [v 6 (by decide)]; exact a1, by rw [v 6 (by decide)]; exact a2, by rw [v 40 (by decide)]; exact a3, by rw [v 40 (by decide)]; exact a4, by rw [w 64 (by decide) (by decide)]; exact a5, by rw [v 7 (by decide), v 6 (by decide)]; exact a6, by rw [v 7 (by decide), v 6 (by decide), v 40 (by decide)]; exact a7, by rw [v 40 (by decide), w 64 (by decide) (by decide)]; exact a8, by rw [w 65 (by decide) (by decide)]; exact a9, by unfold CHI at a10 ⊢; rw [v 7 (by decide), v 11 (by decide), v 17 (by decide), w 17 (by decide) (by decide), w 28 (by decide) (by decide)]; exact a10⟩, by rw [v 17 (by decide)]; exact b1, by rw [v 18 (by decide)]; exact b2, by omega, by rw [v 25 (by decide)]; exact b4, by rw [v 11 (by decide)]; exact b5, by rw [v 8 (by decide)]; omega, by rw [v 9 (by decide), v 25 (by decide)]; exact b7, by rw [w 35 (by decide) (by decide)]; exact b8, by rw [w 36 (by decide) (by decide)]; exact b9, h2, by rw [w 30 (by decide) (by decide)]; exact b11, h3, h4, by rw [w 37 (by decide) (by decide)]; exact b14, by rw [w 17 (by decide) (by decide)]; exact b15⟩
theorem RG_8 {V V1 : PV} (h : -1 ≤ V1.1 8 ∧ V1.1 8 < 3 * V1.1 24) (hv : VF [8] [] V V1) (hG : RG V) : RG V1 := by
  obtain ⟨⟨a1, a2, a3, a4, a5, a6, a7, a8, a9, a10⟩, b1, b2, b3, b4, b5, b6, b7, b8, b9, b10, b11, b12, b13, b14, b15⟩ := hG
  have v := hv.1
  have w := hv.2
  exact ⟨⟨by rw [v 6 (by decide)]; exact a1, by rw [v 6 (by decide)]; exact a2, by rw [v 40 (by decide)]; exact a3, by rw [v 40 (by decide)]; exact a4, by rw [w 64 (by decide) (by decide)]; exact a5, by rw [v 7 (by decide), v 6 (by decide)]; exact a6, by rw [v 7 (by decide), v 6 (by decide), v 40 (by decide)]; exact a7, by rw [v 40 (by decide), w 64 (by decide) (by decide)]; exact a8, by rw [w 65 (by decide) (by decide)]; exact a9, by unfold CHI at a10 ⊢; rw [v 7 (by decide), v 11 (by decide), v 17 (by decide), w 17 (by decide) (by decide), w 28 (by decide) (by decide)]; exact a10⟩, by rw [v 17 (by decide)]; exact b1, by rw [v 18 (by decide)]; exact b2, by rw [v 24 (by decide)]; exact b3, by rw [v 25 (by decide)]; exact b4, by rw [v 11 (by decide)]; exact b5, h, by rw [v 9 (by decide), v 25 (by decide)]; exact b7, by rw [w 35 (by decide) (by decide)]; exact b8, by rw [w 36 (by decide) (by decide)]; exact b9, by rw [w 43 (by decide) (by decide)]; exact b10, by rw [w 30 (by decide) (by decide)]; exact b11, by rw [w 44 (by decide) (by decide)]; exact b12, by rw [w 45 (by decide) (by decide)]; exact b13, by rw [w 37 (by decide) (by decide)]; exact b14, by rw [w 17 (by decide) (by decide)]; exact b15⟩
theorem RG_9 {V V1 : PV} (h : -1 ≤ V1.1 9 ∧ V1.1 9 < V1.1 25) (hv : VF [9] [] V V1) (hG : RG V) : RG V1 := by
  obtain ⟨⟨a1, a2, a3, a4, a5, a6, a7, a8, a9, a10⟩, b1, b2, b3, b4, b5, b6, b7, b8, b9, b10, b11, b12, b13, b14, b15⟩ := hG
  have v := hv.1
  have w := hv.2
  exact ⟨⟨by rw [v 6 (by decide)]; exact a1, by rw [v 6 (by decide)]; exact a2, by rw [v 40 (by decide)]; exact a3, by rw [v 40 (by decide)]; exact a4, by rw [w 64 (by decide) (by decide)]; exact a5, by rw [v 7 (by decide), v 6 (by decide)]; exact a6, by rw [v 7 (by decide), v 6 (by decide), v 40 (by decide)]; exact a7, by rw [v 40 (by decide), w 64 (by decide) (by decide)]; exact a8, by rw [w 65 (by decide) (by decide)]; exact a9, by unfold CHI at a10 ⊢; rw [v 7 (by decide), v 11 (by decide), v 17 (by decide), w 17 (by decide) (by decide), w 28 (by decide) (by decide)]; exact a10⟩, by rw [v 17 (by decide)]; exact b1, by rw [v 18 (by decide)]; exact b2, by rw [v 24 (by decide)]; exact b3, by rw [v 25 (by decide)]; exact b4, by rw [v 11 (by decide)]; exact b5, by rw [v 8 (by decide), v 24 (by decide)]; exact b6, h, by rw [w 35 (by decide) (by decide)]; exact b8, by rw [w 36 (by decide) (by decide)]; exact b9, by rw [w 43 (by decide) (by decide)]; exact b10, by rw [w 30 (by decide) (by decide)]; exact b11, by rw [w 44 (by decide) (by decide)]; exact b12, by rw [w 45 (by decide) (by decide)]; exact b13, by rw [w 37 (by decide) (by decide)]; exact b14, by rw [w 17 (by decide) (by decide)]; exact b15⟩
theorem RG_ir {V V1 : PV}  (hv : VF [10] [29, 32, 33, 34, 46, 47, 48, 49, 51, 52] V V1) (hG : RG V) : RG V1 := by
  obtain ⟨⟨a1, a2, a3, a4, a5, a6, a7, a8, a9, a10⟩, b1, b2, b3, b4, b5, b6, b7, b8, b9, b10, b11, b12, b13, b14, b15⟩ := hG
  have v := hv.1
  have w := hv.2
  exact ⟨⟨by rw [v 6 (by decide)]; exact a1, by rw [v 6 (by decide)]; exact a2, by rw [v 40 (by decide)]; exact a3, by rw [v 40 (by decide)]; exact a4, by rw [w 64 (by decide) (by decide)]; exact a5, by rw [v 7 (by decide), v 6 (by decide)]; exact a6, by rw [v 7 (by decide), v 6 (by decide), v 40 (by decide)]; exact a7, by rw [v 40 (by decide), w 64 (by decide) (by decide)]; exact a8, by rw [w 65 (by decide) (by decide)]; exact a9, by unfold CHI at a10 ⊢; rw [v 7 (by decide), v 11 (by decide), v 17 (by decide), w 17 (by decide) (by decide), w 28 (by decide) (by decide)]; exact a10⟩, by rw [v 17 (by decide)]; exact b1, by rw [v 18 (by decide)]; exact b2, by rw [v 24 (by decide)]; exact b3, by rw [v 25 (by decide)]; exact b4, by rw [v 11 (by decide)]; exact b5, by rw [v 8 (by decide), v 24 (by decide)]; exact b6, by rw [v 9 (by decide), v 25 (by decide)]; exact b7, by rw [w 35 (by decide) (by decide)]; exact b8, by rw [w 36 (by decide) (by decide)]; exact b9, by rw [w 43 (by decide) (by decide)]; exact b10, by rw [w 30 (by decide) (by decide)]; exact b11, by rw [w 44 (by decide) (by decide)]; exact b12, by rw [w 45 (by decide) (by decide)]; exact b13, by rw [w 37 (by decide) (by decide)]; exact b14, by rw [w 17 (by decide) (by decide)]; exact b15⟩
