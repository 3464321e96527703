
theorem TY_e {t t1 : Int} {V : PV} (h : TY t V) (e : t = t1) : TY t1 V := by rw [← e]; exact h
theorem ACT_s {o : Int} {V : PV} {i : Nat} (e : V.2 28 i = o) (h : o ≠ 15 ∧ o ≠ 16 ∧ o ≠ 17 ∧ o ≠ 18 ∧ o ≠ 21 ∧ o ≠ 23 ∧ o ≠ 27 ∧ o ≠ 30) : ACT V i := by
  unfold ACT
  rw [e]
  refine ⟨fun q => ?_, fun q => ?_, fun q => ?_, fun q => ?_, fun q => ?_, fun q => ?_⟩ <;> omega
theorem ACT_j {V : PV} {i : Nat} (h : V.2 28 i = 15 ∨ V.2 28 i = 16) (h1 : V.2 29 i = V.1 17) (h2 : V.2 30 i = V.1 8) (h0 : 0 ≤ V.1 17) (ht : tyf (V.2 28) (V.1 17).toNat = -2) : ACT V i := by
  refine ⟨fun _ => ?_, fun q => ?_, fun q => ?_, fun q => ?_, fun q => ?_, fun q => ?_⟩
  · rw [h1, h2]
    exact ⟨h0, Int.le_refl _, ht, fun q => absurd q (by omega), fun _ => rfl⟩
  · exfalso; omega
  · exfalso; omega
  · exfalso; omega
  · exfalso; omega
  · exfalso; omega
theorem ACTn_27 {a : Int} {V : PV} (h : 0 ≤ a ∧ a < 8) : ACTn 27 a V := by
  refine ⟨fun q => ?_, fun q => ?_, fun q => ?_, fun q => ?_, fun _ => h, fun q => ?_⟩ <;> (exfalso; omega)
theorem ACTn_30 {a : Int} {V : PV} (h : 0 ≤ a ∧ a < 1) : ACTn 30 a V := by
  refine ⟨fun q => ?_, fun q => ?_, fun q => ?_, fun q => ?_, fun q => ?_, fun _ => h⟩ <;> (exfalso; omega)
theorem ACTn_b {o a : Int} {V : PV} (ho : o = 17 ∨ o = 18) (h : 0 ≤ a ∧ a < V.1 25 ∧ onc (V.1 24) (V.2 43) (V.1 8) (V.2 50 a.toNat)) : ACTn o a V := by
  refine ⟨fun q => ?_, fun _ => h, fun q => ?_, fun q => ?_, fun q => ?_, fun q => ?_⟩ <;> (exfalso; omega)
theorem ACTn_j {o a : Int} {V : PV} (ho : o = 15 ∨ o = 16) (h : jTG V a (V.1 8)) : ACTn o a V := by
  refine ⟨fun _ => h, fun q => ?_, fun q => ?_, fun q => ?_, fun q => ?_, fun q => ?_⟩ <;> (exfalso; omega)
theorem ACTn_21 {a : Int} {V : PV} (h : 0 ≤ a ∧ a < V.1 24 ∧ (V.1 8 = 3 * a ∨ V.1 8 = 3 * a + 1)) : ACTn 21 a V := by
  refine ⟨fun q => ?_, fun q => ?_, fun _ => h, fun q => ?_, fun q => ?_, fun q => ?_⟩ <;> (exfalso; omega)
theorem ACTn_23 {a : Int} {V : PV} (h : 0 ≤ a ∧ a < V.1 24 ∧ V.1 8 = 3 * a + 2) : ACTn 23 a V := by
  refine ⟨fun q => ?_, fun q => ?_, fun q => ?_, fun _ => h, fun q => ?_, fun q => ?_⟩ <;> (exfalso; omega)
/-- the type behind a wait at depth d -/
def wo (d : Int) : Int := if d = 0 then 22 else 2 * d
theorem s27 {o d : Int} (ho : o = 27 ∨ o = 29) (h0 : 0 ≤ d) (h1 : d ≤ 9) : stp o (2 * d) = wo d := by unfold stp wo; grind
theorem s28 {o d : Int} (ho : o = 28 ∨ o = 30) (h0 : 0 ≤ d) (h1 : d ≤ 9) : stp o (2 * d + 1) = wo d := by unfold stp wo; grind
theorem s26 {d : Int} (h0 : 0 ≤ d) (h1 : d ≤ 9) : stp 26 (2 * d) = 2 * d + 1 := by unfold stp; grind
theorem s31 {o d : Int} (ho : o = 31 ∨ o = 32) (h0 : 0 ≤ d) (h1 : d ≤ 9) : stp o (2 * d) = 2 * (d + 1) := by unfold stp; grind
theorem s33 {d : Int} (h0 : 0 ≤ d) (h1 : d ≤ 9) : stp 33 (2 * d + 1) = 2 * (d + 1) := by unfold stp; grind
theorem s34 {d : Int} (h0 : 0 ≤ d) (h1 : d ≤ 9) : stp 34 (2 * (d + 1)) = wo d := by unfold stp wo; grind
theorem EMr_g {o a r : Int} {V V1 : PV} (h : EMr o a r V V1) (hG : RG V) : RG V1 := by
  rcases h.2.2 with ⟨q1, q2, q3⟩ | ⟨q1, q2⟩
  · exact RG_em q3 q1 q3.2.2.2.2 hG
  · rw [q2]; exact hG
theorem LK_v {zi fa : List Nat} {V V1 : PV} (hv : VF zi fa V V1) (hz : dis9 [7, 8, 9, 24] zi = true) (hf : dis9 [43, 50] fa = true) (h : LK V) : LK V1 := by
  have i7 := hv.1 7 (dis9_m hz (by decide))
  have i8 := hv.1 8 (dis9_m hz (by decide))
  have i9 := hv.1 9 (dis9_m hz (by decide))
  have i24 := hv.1 24 (dis9_m hz (by decide))
  have r43 := hv.2 43 (dis9_m hf (by decide)) (fun e => absurd e (by decide))
  have r50 := hv.2 50 (dis9_m hf (by decide)) (fun e => absurd e (by decide))
  unfold LK at h ⊢
  rw [i7, i8, i9, i24, r43, r50]
  exact h
theorem DK_v {d : Int} {zi fa : List Nat} {V V1 : PV} (hv : VF zi fa V V1) (hz : dis9 [7, 8] zi = true) (hf : dis9 [44] fa = true) (h : DK d V) : DK d V1 := by
  have i7 := hv.1 7 (dis9_m hz (by decide))
  have i8 := hv.1 8 (dis9_m hz (by decide))
  have r44 := hv.2 44 (dis9_m hf (by decide)) (fun e => absurd e (by decide))
  unfold DK at h ⊢
  rw [i7, i8, r44]
  exact h
theorem EMr_B {o a r c c1 : Int} {V V1 : PV} (hG : RG V) (hB : BG c V) (hc : c ≤ 60) (h : EMr o a r V V1) (h1 : c + 1 ≤ c1) : BG c1 V1 := fun q => by
  have v := (EMr_i h).1
  rw [v 7 (by decide)] at q
  have e := (EMr_f hG hB hc h q).2.1
  have := hB q
  rw [v 6 (by decide), e]
  omega
/-- an act whose argument is not yet known -/
theorem Rx_raw {e o a r c : Int} {V V1 V2 : PV} (hG : RG V) (h : Rx e V V1) (hB : BG c V1) (hc : c ≤ 60) (hE : EMr o a r V1 V2) (q : V2.1 7 = 0) : r = V1.1 17 ∧ EX (e + 1) r (-1) (-1) (-1) V V2 ∧ V2.2 28 r.toNat = o ∧ V2.2 30 r.toNat = V.1 8 ∧ V.1 17 ≤ r ∧ V2.1 8 = V.1 8 ∧ r < V2.1 17 := by
  have v := (EMr_i hE).1
  rw [v 7 (by decide)] at q
  obtain ⟨e1, e2⟩ := EMr_f (h.1 hG) hB hc hE q
  have x := h.2.2.2.2 q
  have k := x.1.1
  have h0 := hG.2.1.1
  have m := EM_1 (by omega) (EM_z e2)
  have s8 := h.2.2.2.1.1
  have e3 := e2.1
  refine ⟨e1, EX_em h0 x e2 (Or.inl rfl) (Or.inl rfl) (fun w => absurd e1.symm w) (fun _ => Or.inl s8), by rw [e1]; exact m.1, by rw [e1, m.2.2]; exact s8, by omega, by rw [v 8 (by decide)]; exact s8, by omega⟩
/-- on behind an open act -/
theorem EX_go {e e1 u j la ta : Int} {V V1 V2 : PV} (h0 : 0 ≤ V.1 17) (h : EX e u j la ta V V1) (h1 : Rx e1 V1 V2) (q : V2.1 7 = 0) (hs : V1.1 8 = V.1 8) : EX (e + e1) u j la ta V V2 := by
  have x := h1.2.2.2.2 q
  exact EX_tr h0 h x (fun _ => h1.2.2.2.1.1) (fun _ l => by have := x.2.1 l; rw [hs] at this; exact this)
theorem Rx_kp {e : Int} {V V1 : PV} (h : Rx e V V1) (q : V1.1 7 = 0) {r : Int} (h0 : 0 ≤ r) (hr : r < V.1 17) : V1.2 28 r.toNat = V.2 28 r.toNat ∧ V1.2 29 r.toNat = V.2 29 r.toNat ∧ V1.2 30 r.toNat = V.2 30 r.toNat ∧ r < V1.1 17 := by
  have x := (h.2.2.2.2 q).1
  have y := x.2.2.2.1 r.toNat (by omega)
  have := x.1
  exact ⟨y.1, y.2.1, y.2.2, by omega⟩
theorem PT_1 {k a : Int} {V V1 : PV} (h : jPT k a V V1) (h0 : 0 ≤ k) : V1.2 29 k.toNat = a := by rw [h.1, if_pos (by omega)]
theorem PT_i {k a : Int} {V V1 : PV} (h : jPT k a V V1) : V1.1 = V.1 ∧ (∀ f, f ≠ 29 → V1.2 f = V.2 f) := ⟨funext (fun f => h.2.1 f List.not_mem_nil), fun f hf => h.2.2 f (fun q => hf (List.mem_singleton.mp q)) (fun _ => by decide)⟩
theorem PT_g {k a : Int} {V V1 : PV} (h : jPT k a V V1) (hG : RG V) : RG V1 := RG_ir (hv_sub h.2 (by decide) (by decide)) hG
/-- a relation by its parts -/
theorem Rx_of {e : Int} {V V1 : PV} (h1 : RG V → RG V1) (h2 : TKs V V1) (h3 : V1.1 7 = 0 → V.1 7 = 0) (h4 : V1.1 8 = V.1 8 ∧ V1.1 9 = V.1 9 ∧ V1.1 18 = V.1 18 ∧ V1.2 32 = V.2 32 ∧ STf V V1) (h5 : V1.1 7 = 0 → EX e (-1) (-1) (-1) (-1) V V1) : Rx e V V1 := ⟨h1, h2, h3, h4, h5⟩
/-- what all steps of the parser keep -/
def KE (V V1 : PV) : Prop := TKs V V1 ∧ (V1.1 7 = 0 → V.1 7 = 0) ∧ V1.1 18 = V.1 18 ∧ V1.2 32 = V.2 32 ∧ STf V V1
theorem KE_tr {V V1 V2 : PV} (h : KE V V1) (h1 : KE V1 V2) : KE V V2 := ⟨⟨h1.1.1.trans h.1.1, h1.1.2.1.trans h.1.2.1, h1.1.2.2.1.trans h.1.2.2.1, Int.le_trans h.1.2.2.2.1 h1.1.2.2.2.1, Int.le_trans h.1.2.2.2.2 h1.1.2.2.2.2⟩, fun q => h.2.1 (h1.2.1 q), h1.2.2.1.trans h.2.2.1, h1.2.2.2.1.trans h.2.2.2.1, STf_tr h.2.2.2.2 h1.2.2.2.2 h1.2.1⟩
theorem KE_r {e : Int} {V V1 : PV} (h : Rx e V V1) : KE V V1 := ⟨h.2.1, h.2.2.1, h.2.2.2.1.2.2⟩
theorem KE_v {zi fa : List Nat} {V V1 : PV} (hv : VF zi fa V V1) (hz : dis9 [7, 18, 40, 24, 25, 17] zi = true) (hf : dis9 [32, 64, 65, 28, 36, 37] fa = true) : KE V V1 := ⟨⟨hv.1 40 (dis9_m hz (by decide)), hv.2 64 (dis9_m hf (by decide)) (fun e => absurd e (by decide)), hv.2 65 (dis9_m hf (by decide)) (fun e => absurd e (by decide)), by rw [hv.1 24 (dis9_m hz (by decide))]; exact Int.le_refl _, by rw [hv.1 25 (dis9_m hz (by decide))]; exact Int.le_refl _⟩, fun q => by rw [hv.1 7 (dis9_m hz (by decide))] at q; exact q, hv.1 18 (dis9_m hz (by decide)), hv.2 32 (dis9_m hf (by decide)) (fun e => absurd e (by decide)), STf_v hv (List.all_eq_true.mpr (fun x hx => by have := dis9_m hz (k := x) (by revert hx; revert x; decide); simp [this])) (List.all_eq_true.mpr (fun x hx => by have := dis9_m hf (k := x) (by revert hx; revert x; decide); simp [this]))⟩
theorem KE_em {o a r : Int} {V V1 : PV} (h : EMr o a r V V1) : KE V V1 := ⟨⟨(EMr_i h).1 40 (by decide), (EMr_i h).2 64 (by decide) (by decide), (EMr_i h).2 65 (by decide) (by decide), by rw [(EMr_i h).1 24 (by decide)]; exact Int.le_refl _, by rw [(EMr_i h).1 25 (by decide)]; exact Int.le_refl _⟩, fun q => by rw [(EMr_i h).1 7 (by decide)] at q; exact q, (EMr_i h).1 18 (by decide), (EMr_i h).2 32 (by decide) (by decide), STf_em h⟩
/-- an act that is patched later -/
theorem Rx_pt {e e1 o a r v c : Int} {V V1 V2 V3 V4 : PV} (hG : RG V) (h : Rx e V V1) (hB : BG c V1) (hc : c ≤ 60) (hE : EMr o a r V1 V2) (h2 : Rx e1 V2 V3) (hP : jPT r v V3 V4) (hA : V4.1 7 = 0 → V4.2 28 r.toNat = o → V4.2 29 r.toNat = v → V4.2 30 r.toNat = V4.1 8 → ACT V4 r.toNat) : Rx (e + 1 + e1) V V4 := by
  have kk := KE_tr (KE_r h) (KE_tr (KE_em hE) (KE_tr (KE_r h2) (KE_v hP.2 (by decide) (by decide))))
  obtain ⟨i1, i2⟩ := PT_i hP
  have v2 := (EMr_i hE).1
  refine Rx_of (fun g => PT_g hP (h2.1 (EMr_g hE (h.1 g)))) kk.1 kk.2.1 ⟨?_, ?_, kk.2.2⟩ (fun q => ?_)
  · rw [i1, h2.2.2.2.1.1, v2 8 (by decide), h.2.2.2.1.1]
  · rw [i1, h2.2.2.2.1.2.1, v2 9 (by decide), h.2.2.2.1.2.1]
  · have q3 : V3.1 7 = 0 := by rw [← i1]; exact q
    have q2 := h2.2.2.1 q3
    obtain ⟨a1, a2, a3, a4, a5, a6, a7⟩ := Rx_raw hG h hB hc hE q2
    have h0 := hG.2.1.1
    have k := Rx_kp h2 q3 (r := r) (by omega) a7
    have x := EX_go h0 a2 h2 q3 a6
    refine EX_pt x hP (by omega) (hA q ?_ (PT_1 hP (by omega)) ?_) (Or.inl rfl) (Or.inr rfl)
    · rw [i2 28 (by decide), k.1, a3]
    · rw [i2 30 (by decide), k.2.2.1, a4, i1, h2.2.2.2.1.1, a6]
theorem TY_pt {k a t : Int} {V V1 : PV} (h : jPT k a V V1) (ht : TY t V) : TY t V1 := fun q => by
  obtain ⟨i1, i2⟩ := PT_i h
  rw [i1] at q ⊢
  rw [i2 28 (by decide)]
  exact ht q
/-- an if without else -/
theorem Rx_if1 {e e1 a r v c : Int} {V V1 V2 V3 V4 : PV} (hG : RG V) (h : Rx e V V1) (hB : BG c V1) (hc : c ≤ 60) (hE : EMr 15 a r V1 V2) (h2 : Rx e1 V2 V3) (hP : jPT r v V3 V4) (hv : v = V3.1 17) (hT : TY (-2) V3) : Rx (e + 1 + e1) V V4 := by
  have g3 := h2.1 (EMr_g hE (h.1 hG))
  obtain ⟨i1, i2⟩ := PT_i hP
  refine Rx_pt hG h hB hc hE h2 hP (fun q q1 q2 q3 => ACT_j (Or.inl q1) (by rw [q2, hv, i1]) q3 (by rw [i1]; exact g3.2.1.1) (TY_pt hP hT q))
/-- an if with its else -/
theorem Rx_if2 {e e1 e2 a a2 r r2 v v2 c c2 : Int} {V V1 V2 V3 V4 V5 V6 V7 : PV} (hG : RG V) (h : Rx e V V1) (hB : BG c V1) (hc : c ≤ 60) (hE : EMr 15 a r V1 V2) (h2 : Rx e1 V2 V3) (hT3 : TY (-2) V3) (hB3 : BG c2 V3) (hc2 : c2 ≤ 60) (hE2 : EMr 16 a2 r2 V3 V4) (hP : jPT r v V4 V5) (hv : v = V4.1 17) (h5 : Rx e2 V5 V6) (hT6 : TY (-2) V6) (hP2 : jPT r2 v2 V6 V7) (hv2 : v2 = V6.1 17) : Rx (e + 1 + e1 + 1 + e2) V V7 := by
  have g2 := EMr_g hE (h.1 hG)
  have g3 := h2.1 g2
  have g4 := EMr_g hE2 g3
  have g5 := PT_g hP g4
  have g6 := h5.1 g5
  have kk := KE_tr (KE_r h) (KE_tr (KE_em hE) (KE_tr (KE_r h2) (KE_tr (KE_em hE2) (KE_tr (KE_v hP.2 (by decide) (by decide)) (KE_tr (KE_r h5) (KE_v hP2.2 (by decide) (by decide)))))))
  obtain ⟨i1, i2⟩ := PT_i hP
  obtain ⟨j1, j2⟩ := PT_i hP2
  have w2 := (EMr_i hE).1
  have w4 := (EMr_i hE2).1
  have s3 : V3.1 8 = V.1 8 := by rw [h2.2.2.2.1.1, w2 8 (by decide), h.2.2.2.1.1]
  have s5 : V5.1 8 = V.1 8 := by rw [i1, w4 8 (by decide), s3]
  refine Rx_of (fun g => PT_g hP2 g6) kk.1 kk.2.1 ⟨?_, ?_, kk.2.2⟩ (fun q => ?_)
  · rw [j1, h5.2.2.2.1.1, s5]
  · rw [j1, h5.2.2.2.1.2.1, i1, w4 9 (by decide), h2.2.2.2.1.2.1, w2 9 (by decide), h.2.2.2.1.2.1]
  · have q6 : V6.1 7 = 0 := by rw [← j1]; exact q
    have q5 := h5.2.2.1 q6
    have q4 : V4.1 7 = 0 := by rw [← i1]; exact q5
    have q3 : V3.1 7 = 0 := by rw [← w4 7 (by decide)]; exact q4
    have q2 := h2.2.2.1 q3
    obtain ⟨a1, x2, a3, a4, a5, a6, a7⟩ := Rx_raw hG h hB hc hE q2
    have h0 := hG.2.1.1
    have k3 := Rx_kp h2 q3 (r := r) (by omega) a7
    have x3 := EX_go h0 x2 h2 q3 a6
    obtain ⟨e1, m4⟩ := EMr_f g3 hB3 hc2 hE2 q3
    have m1 := EM_1 g3.2.1.1 (EM_z m4)
    have kp4 := (EM_k (EM_z m4)).2.2.2.1
    have lt4 := m4.1
    have n3 := x3.1.1
    have x4 := EX_em (u1 := r) (j1 := r2) h0 x3 m4 (Or.inr rfl) (Or.inl rfl) (fun _ w => absurd e1.symm w) (fun _ => Or.inl s3)
    have o4 := kp4 r.toNat (by omega)
    have t4 : tyf (V4.2 28) (V4.1 17).toNat = -2 := EM_t g3.2.1.1 (EM_z m4) (hT3 q3)
    have x5 := EX_pt (u1 := -1) (j1 := r2) x4 hP (by omega) (ACT_j (Or.inl (by rw [i2 28 (by decide), o4.1, k3.1, a3])) (by rw [PT_1 hP (by omega), hv, i1]) (by rw [i2 30 (by decide), o4.2.2, k3.2.2.1, a4, s5]) (by rw [i1]; exact g4.2.1.1) (by rw [i2 28 (by decide), i1]; exact t4)) (Or.inl rfl) (Or.inr rfl)
    have x6 := EX_go h0 x5 h5 q6 s5
    have l5 : V5.1 17 = V4.1 17 := by rw [i1]
    have k6 := Rx_kp h5 q6 (r := r2) (by have := g3.2.1.1; omega) (by omega)
    refine EX_pt x6 hP2 (by omega) (ACT_j (Or.inr ?_) (by rw [PT_1 hP2 (by have := g3.2.1.1; omega), hv2, j1]) ?_ (by rw [j1]; exact g6.2.1.1) (TY_pt hP2 hT6 q)) (Or.inr rfl) (Or.inl rfl)
    · rw [j2 28 (by decide), k6.1, i2 28 (by decide), e1, m1.1]
    · rw [j2 30 (by decide), k6.2.2.1, i2 30 (by decide), e1, m1.2.2, j1, h5.2.2.2.1.1, s5, s3]
