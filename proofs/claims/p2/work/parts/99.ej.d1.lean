
theorem RG_93 {V V1 : PV} (h : -1 ≤ V1.1 9 ∧ V1.1 9 < V1.1 25) (hv : VF [9, 10] [47] V V1) (hG : RG V) : RG V1 := by
  obtain ⟨⟨a1, a2, a3, a4, a5, a6, a7, a8, a9, a10⟩, b1, b2, b3, b4, b5, b6, b7, b8, b9, b10, b11, b12, b13, b14, b15⟩ := hG
  have v := hv.1
  have w := hv.2
  exact ⟨⟨by rw [v 6 (by decide)]; exact a1, by rw [v 6 (by decide)]; exact a2, by rw [v 40 (by decide)]; exact a3, by rw [v 40 (by decide)]; exact a4, by rw [w 64 (by decide) (by decide)]; exact a5, by rw [v 7 (by decide), v 6 (by decide)]; exact a6, by rw [v 7 (by decide), v 6 (by decide), v 40 (by decide)]; exact a7, by rw [v 40 (by decide), w 64 (by decide) (by decide)]; exact a8, by rw [w 65 (by decide) (by decide)]; exact a9, by unfold CHI at a10 ⊢; rw [v 7 (by decide), v 11 (by decide), v 17 (by decide), w 17 (by decide) (by decide), w 28 (by decide) (by decide)]; exact a10⟩, by rw [v 17 (by decide)]; exact b1, by rw [v 18 (by decide)]; exact b2, by rw [v 24 (by decide)]; exact b3, by rw [v 25 (by decide)]; exact b4, by rw [v 11 (by decide)]; exact b5, by rw [v 8 (by decide), v 24 (by decide)]; exact b6, h, by rw [w 35 (by decide) (by decide)]; exact b8, by rw [w 36 (by decide) (by decide)]; exact b9, by rw [w 43 (by decide) (by decide)]; exact b10, by rw [w 30 (by decide) (by decide)]; exact b11, by rw [w 44 (by decide) (by decide)]; exact b12, by rw [w 45 (by decide) (by decide)]; exact b13, by rw [w 37 (by decide) (by decide)]; exact b14, by rw [w 17 (by decide) (by decide)]; exact b15⟩
/-- within try k, just behind an act that does not fall through: W; m: its marks -/
def TX (m e k D : Int) (V W : PV) : Prop := KE V W ∧ RG W ∧ W.1 9 = V.1 9 ∧ k = V.1 24 ∧ k < W.1 24 ∧ (W.1 7 = 0 → (∀ s : Int, EX e (-1) (-1) (-1) k V (sv W s)) ∧ V.1 17 < W.1 17 ∧ tyf (W.2 28) (W.1 17).toNat = -2 ∧ W.2 43 k.toNat = V.1 8 ∧ W.2 149 k.toNat = m ∧ W.2 44 k.toNat + 1 ≤ D ∧ (m % 2 = 1 → ∀ s : Int, jTG (sv W s) (W.2 46 k.toNat) (3 * k + 1)) ∧ (2 ≤ m → ∀ s : Int, jTG (sv W s) (W.2 47 k.toNat) (3 * k + 2)))
theorem TX_w {m e e1 m1 k D D1 : Int} {V W W1 : PV} (h : TX m e k D V W) (hv : VF [6, 7] [] W W1) (hf : W1.1 7 ≠ 0) (hG : RG W1) : TX m1 e1 k D1 V W1 := by
  obtain ⟨a1, a2, a3, a4, a5, a6⟩ := h
  refine ⟨⟨⟨?_, ?_, ?_, ?_, ?_⟩, fun q => absurd q hf, ?_, ?_, fun q => absurd q hf⟩, hG, ?_, a4, ?_, fun q => absurd q hf⟩
  · rw [hv.1 40 (by decide)]; exact a1.1.1
  · rw [hv.2 64 (by decide) (by decide)]; exact a1.1.2.1
  · rw [hv.2 65 (by decide) (by decide)]; exact a1.1.2.2.1
  · rw [hv.1 24 (by decide)]; exact a1.1.2.2.2.1
  · rw [hv.1 25 (by decide)]; exact a1.1.2.2.2.2
  · rw [hv.1 18 (by decide)]; exact a1.2.2.1
  · rw [hv.2 32 (by decide) (by decide)]; exact a1.2.2.2.1
  · rw [hv.1 9 (by decide)]; exact a3
  · rw [hv.1 24 (by decide)]; exact a5
theorem TG_at {q s : Int} {V V1 : PV} (hv : VF [6] [] V V1) (h : jTG V q s) : jTG V1 q s := by
  have r2 : V1.2 = V.2 := funext (fun f => hv.2 f List.not_mem_nil (fun _ => List.not_mem_nil))
  unfold jTG CP at h ⊢
  rw [hv.1 17 (by decide), hv.1 8 (by decide), hv.1 24 (by decide), r2]
  exact h
theorem sv_v {V V1 : PV} {s : Int} (hv : VF [6] [] V V1) : VF [6] [] (sv V s) (sv V1 s) := by
  refine ⟨fun f hf => ?_, hv.2⟩
  show (if f = 8 then s else V1.1 f) = if f = 8 then s else V.1 f
  rw [hv.1 f hf]
theorem TX_at {m e e1 k D : Int} {V W W1 : PV} (h : TX m e k D V W) (hv : VF [6] [] W W1) (he : W1.1 7 = 0 → e + 2 * W.1 6 ≤ e1 + 2 * W1.1 6) (hG : RG W1) : TX m e1 k D V W1 := by
  obtain ⟨a1, a2, a3, a4, a5, a6⟩ := h
  have r2 : W1.2 = W.2 := funext (fun f => hv.2 f List.not_mem_nil (fun _ => List.not_mem_nil))
  refine ⟨KE_tr a1 (KE_v hv (by decide) (by decide)), hG, by rw [hv.1 9 (by decide)]; exact a3, a4, by rw [hv.1 24 (by decide)]; exact a5, fun q => ?_⟩
  have he := he q
  rw [hv.1 7 (by decide)] at q
  obtain ⟨b1, b2, b3, b4, b5, bd, b6, b7⟩ := a6 q
  refine ⟨fun s => EX_at (b1 s) (sv_v hv) he, by rw [hv.1 17 (by decide)]; exact b2, by rw [r2, hv.1 17 (by decide)]; exact b3, by rw [r2]; exact b4, by rw [r2]; exact b5, by rw [r2]; exact bd, fun h9 s => ?_, fun h9 s => ?_⟩
  · rw [r2]; exact TG_at (sv_v hv) (b6 h9 s)
  · rw [r2]; exact TG_at (sv_v hv) (b7 h9 s)
theorem EX_s0 {e : Int} {V V1 V2 : PV} (h : EX e (-1) (-1) (-1) (V.1 24) V V1) (h17 : V1.1 17 = V.1 17) (h25 : V1.1 25 = V.1 25) (h24 : V1.1 24 = V.1 24 + 1) (hv : VF [8] [] V1 V2) : EX e (-1) (-1) (-1) (V.1 24) V V2 := by
  have r2 : V2.2 = V1.2 := funext (fun f => hv.2 f List.not_mem_nil (fun _ => List.not_mem_nil))
  have v := hv.1
  obtain ⟨a1, a2, a3, a4⟩ := h
  have i17 := v 17 (by decide)
  have i24 := v 24 (by decide)
  have i25 := v 25 (by decide)
  refine ⟨?_, fun q => absurd q (by omega), by rw [v 6 (by decide), i17]; exact a3, fun i q1 q2 => absurd q2 (by omega), fun i q1 q2 => absurd q2 (by omega), fun q => absurd q (by omega), fun l q1 q2 => absurd q2 (by omega), fun k q1 q2 q3 => absurd q3 (by omega)⟩
  unfold jKP at a1 ⊢
  rw [r2, i17, i24, i25]
  exact a1
theorem KE_nt {V V1 : PV} (h : jNT V V1) : KE V V1 := by
  obtain ⟨l1, _, _, hv⟩ := h
  exact ⟨⟨hv.1 40 (by decide), hv.2 64 (by decide) (by decide), hv.2 65 (by decide) (by decide), by omega, by rw [hv.1 25 (by decide)]; exact Int.le_refl _⟩, fun q => by rw [hv.1 7 (by decide)] at q; exact q, hv.1 18 (by decide), hv.2 32 (by decide) (by decide), STf_v hv (by decide) (by decide)⟩
theorem N21 : ¬ FLS 21 := fun h => h.2.2.2.2.2.1 rfl
theorem N23 : ¬ FLS 23 := fun h => h.2.2.2.2.2.2.1 rfl
/-- the first block of a try: V1 behind newTry, V2 within, V3 behind the block, V4 its BLOCK_END -/
theorem TX_a {e k r c D : Int} {V V1 V2 V3 V4 : PV} (hG : RG V) (hT : jNT V V1) (g1 : RG V1) (hm : V1.2 149 (V.1 24).toNat = 0) (hd : V1.2 44 (V.1 24).toNat + 1 ≤ D) (hk : k = V.1 24) (h2 : VF [8] [] V1 V2) (h28 : V2.1 8 = 3 * k) (h3 : Rx e V2 V3) (hN : V3.1 7 = 0 → V2.1 17 < V3.1 17 → V3.2 30 (V2.1 17).toNat = V2.1 8) (hT3 : TY (-2) V3) (hB : BG c V3) (hc : c ≤ 60) (hE : EMr 21 k r V3 V4) : TX 0 (e + 1) k D V V4 := by
  have p3 := hT.2.2.2
  have l1 := hT.1
  have b24 := hG.2.2.2.1
  have i24 : V2.1 24 = V1.1 24 := h2.1 24 (by decide)
  have g2 : RG V2 := RG_8 (by omega) h2 g1
  have g3 := h3.1 g2
  have g4 := EMr_g hE g3
  have w4 := (EMr_i hE).1
  have x4 := (EMr_i hE).2
  have kk := KE_tr (KE_nt hT) (KE_tr (KE_v h2 (by decide) (by decide)) (KE_tr (KE_r h3) (KE_em hE)))
  have n3 := h3.2.1.2.2.2.1
  have i17 : V2.1 17 = V.1 17 := by rw [h2.1 17 (by decide), p3.1 17 (by decide)]
  refine ⟨kk, g4, by rw [w4 9 (by decide), h3.2.2.2.1.2.1, h2.1 9 (by decide), p3.1 9 (by decide)], hk, by rw [w4 24 (by decide)]; omega, fun q => ?_⟩
  have q3 : V3.1 7 = 0 := by rw [← w4 7 (by decide)]; exact q
  have h0 := hG.2.1.1
  obtain ⟨e4, m4⟩ := EMr_f g3 hB hc hE q3
  have x1 := EX_nt (EX_rf (V := V)) hT
  have x2 := EX_s0 x1 (p3.1 17 (by decide)) (p3.1 25 (by decide)) l1 h2
  have y3 := h3.2.2.2.2 q3
  have s3 : V3.1 8 = V2.1 8 := h3.2.2.2.1.1
  have k23 := y3.1
  have z3 := k23.1
  have a3 := k23.2.2.2.2.1 k.toNat (by omega)
  have o2 : V2.2 43 k.toNat = V.1 8 := by rw [h2.2 43 (by decide) (by decide), hT.2.1, if_pos (by omega)]
  have o3 : V3.2 43 k.toNat = V.1 8 := by rw [a3.1, o2]
  have cp : ∀ W : PV, k < W.1 24 → W.2 43 k.toNat = V.1 8 → CP W (3 * k) (V.1 8) := fun W hw ho => by
    have d : 3 * k / 3 = k := by omega
    exact Or.inr ⟨by omega, by omega, by rw [d]; exact hw, by rw [d]; exact ho⟩
  have x3 := EX_tr h0 x2 y3 (fun _ => s3) (fun _ l9 => by rw [hN q3 l9, h28]; exact cp V3 (by omega) o3)
  have x4' := EX_ems h0 x3 m4 N21 (ACTn_21 ⟨by omega, by omega, Or.inl (by rw [s3, h28])⟩) (fun _ => by rw [s3, h28]; exact cp V4 (by rw [w4 24 (by decide)]; omega) (by rw [x4 43 (by decide) (by decide)]; exact o3))
  have lt4 := m4.1
  refine ⟨fun s => EX_m (hk ▸ x4' s) (by omega), by omega, EM_t g3.2.1.1 (EM_z m4) (hT3 q3), by rw [x4 43 (by decide) (by decide)]; exact o3, ?_, ?_, fun h9 => absurd h9 (by decide), fun h9 => absurd h9 (by decide)⟩
  rotate_left
  · rw [x4 44 (by decide) (by decide), a3.2.1, h2.2 44 (by decide) (by decide), hk]
    exact hd
  rw [x4 149 (by decide) (by decide), a3.2.2.2.2.2, h2.2 149 (by decide) (by decide), hk]
  exact hm
theorem sv_kt {V V1 : PV} {s : Int} (h1 : VF [8] [49, 149] V V1) (h2 : V1.1 8 = s) : VF [] [46, 47, 48, 49, 149] (sv V s) V1 := by
  refine ⟨fun f _ => ?_, fun f hf _ => h1.2 f (fun q => hf ?_) (fun e => absurd (by rw [e]; decide) hf)⟩
  rotate_left
  · rcases List.mem_cons.mp q with c | c
    · rw [c]; decide
    · rw [List.mem_singleton.mp c]; decide
  show V1.1 f = if f = 8 then s else V.1 f
  rcases Decidable.em (f = 8) with c | c
  · rw [if_pos c, c, h2]
  · rw [if_neg c, h1.1 f (fun q => c (List.mem_singleton.mp q))]
theorem TG_cg {q s : Int} {zi fa : List Nat} {V V1 : PV} (hv : VF zi fa V V1) (hz : dis9 [8, 17, 24] zi = true) (hf : dis9 [28, 30, 43] fa = true) (h : jTG V q s) : jTG V1 q s := by
  unfold jTG CP at h ⊢
  rw [hv.1 17 (dis9_m hz (by decide)), hv.1 8 (dis9_m hz (by decide)), hv.1 24 (dis9_m hz (by decide)), hv.2 28 (dis9_m hf (by decide)) (fun e => absurd e (by decide)), hv.2 30 (dis9_m hf (by decide)) (fun e => absurd e (by decide)), hv.2 43 (dis9_m hf (by decide)) (fun e => absurd e (by decide))]
  exact h
theorem TG_go {q s e o a : Int} {V V1 V2 : PV} (h : jTG V q s) (h1 : Rx e V V1) (q1 : V1.1 7 = 0) (g1 : RG V1) (hE : jEM o a V1 V2) (s9 : Int) : jTG (sv V2 s9) q s := by
  have x := h1.2.2.2.2 q1
  exact TG_st (EM_k (EM_sv hE)) (EM_n g1.2.1.1 (EM_sv hE)) (TG_st x.1 ⟨x.2.1, fun _ => h1.2.2.2.1.1⟩ h)
/-- the on of a try -/
theorem TX_b {e e1 e2 k a r r2 c c6 D : Int} {V W W2 W3 W4 W5 W6 W7 : PV} (hG : RG V) (h : TX 0 e k D V W) (h2 : VF [8] [49, 149] W W2) (h28 : W2.1 8 = 3 * k + 1) (hm : ∀ i : Nat, (i : Int) ≠ k → W2.2 149 i = W.2 149 i) (hmk : W.1 7 = 0 → W2.2 149 k.toNat = 1) (g2 : RG W2) (h3 : Rx e1 W2 W3) (hT3 : TY (-2) W3) (hB : BG c W3) (hc : c ≤ 60) (hE : EMr 22 a r W3 W4) (h5 : ∀ i : Nat, W5.2 46 i = if (i : Int) = k then r else W4.2 46 i) (hv5 : VF [] [46] W4 W5) (h6 : Rx e2 W5 W6) (hT6 : TY (-2) W6) (hB6 : BG c6 W6) (hc6 : c6 ≤ 60) (hE2 : EMr 21 k r2 W6 W7) : TX 1 (e + e1 + 1 + e2 + 1) k D V W7 := by
  obtain ⟨a1, a2, a3, a4, a5, a6⟩ := h
  have b24 := hG.2.2.2.1
  have w4 := (EMr_i hE).1
  have w7 := (EMr_i hE2).1
  have v7 := (EMr_i hE2).2
  have g3 := h3.1 g2
  have g4 := EMr_g hE g3
  have g5 : RG W5 := RG_ir (hv_sub hv5 (by decide) (by decide)) g4
  have g6 := h6.1 g5
  have kk := KE_tr a1 (KE_tr (KE_v h2 (by decide) (by decide)) (KE_tr (KE_r h3) (KE_tr (KE_em hE) (KE_tr (KE_v hv5 (by decide) (by decide)) (KE_tr (KE_r h6) (KE_em hE2))))))
  have i5 : W5.1 = W4.1 := funext (fun f => hv5.1 f List.not_mem_nil)
  have j5 : ∀ f, f ≠ 46 → W5.2 f = W4.2 f := fun f hf => hv5.2 f (fun q => hf (List.mem_singleton.mp q)) (fun _ => by decide)
  have n2 : W2.1 24 = W.1 24 := h2.1 24 (by decide)
  have n3 := h3.2.1.2.2.2.1
  have n4 : W5.1 24 = W3.1 24 := by rw [i5, w4 24 (by decide)]
  have n6 := h6.2.1.2.2.2.1
  refine ⟨kk, EMr_g hE2 g6, by rw [w7 9 (by decide), h6.2.2.2.1.2.1, i5, w4 9 (by decide), h3.2.2.2.1.2.1, h2.1 9 (by decide), a3], a4, by rw [w7 24 (by decide)]; omega, fun q => ?_⟩
  have q6 : W6.1 7 = 0 := by rw [← w7 7 (by decide)]; exact q
  have q5 := h6.2.2.1 q6
  have q4 : W4.1 7 = 0 := by rw [← i5]; exact q5
  have q3 : W3.1 7 = 0 := by rw [← w4 7 (by decide)]; exact q4
  have q2 := h3.2.2.1 q3
  have q0 : W.1 7 = 0 := by rw [← h2.1 7 (by decide)]; exact q2
  obtain ⟨b1, b2, b3, b4, b5, bd, b6, b7⟩ := a6 q0
  have h0 := hG.2.1.1
  obtain ⟨e4, m4⟩ := EMr_f g3 hB hc hE q3
  obtain ⟨e7, m7⟩ := EMr_f g6 hB6 hc6 hE2 q6
  have vk := sv_kt h2 h28
  have x2 := EX_kt (b1 (3 * k + 1)) (by omega) vk (by decide) (fun i hi => ⟨h2.2 46 (by decide) (by decide) ▸ rfl, h2.2 47 (by decide) (by decide) ▸ rfl, h2.2 48 (by decide) (by decide) ▸ rfl, hm i hi⟩)
  have y3 := h3.2.2.2.2 q3
  have s3 : W3.1 8 = 3 * k + 1 := by rw [h3.2.2.2.1.1, h28]
  have z2 : W2.1 17 = W.1 17 := h2.1 17 (by decide)
  have x3 := EX_tr h0 x2 y3 (fun _ => h3.2.2.2.1.1) (fun c9 => absurd c9 (by omega))
  have z3 := x3.1.1
  have z23 := y3.1.1
  have x4 := EX_em (u1 := -1) (j1 := -1) h0 x3 m4 (Or.inl rfl) (Or.inl rfl) (fun _ _ => ACTn_s (by decide)) (fun c9 => absurd c9 (by omega))
  have lt4 := m4.1
  have x5 := EX_kt x4 (by omega) (hv_sub hv5 (zi1 := []) (by decide) (by decide)) (by decide) (fun i hi => ⟨by rw [h5 i, if_neg hi], by rw [j5 47 (by decide)], by rw [j5 48 (by decide)], by rw [j5 149 (by decide)]⟩)
  have y6 := h6.2.2.2.2 q6
  have s5 : W5.1 8 = 3 * k + 1 := by rw [i5, w4 8 (by decide), s3]
  have s6 : W6.1 8 = 3 * k + 1 := by rw [h6.2.2.2.1.1, s5]
  have l5 : W5.1 17 = W4.1 17 := by rw [i5]
  have x6 := EX_tr h0 x5 y6 (fun _ => h6.2.2.2.1.1) (fun c9 => absurd c9 (by omega))
  have z6 := y6.1.1
  have x7 := EX_ems h0 x6 m7 N21 (ACTn_21 ⟨by omega, by omega, Or.inr s6⟩) (fun c9 => absurd c9 (by omega))
  have lt7 := m7.1
  have k3 := y3.1.2.2.2.2.1 k.toNat (by omega)
  have k6 := y6.1.2.2.2.2.1 k.toNat (by omega)
  have v4 := (EMr_i hE).2
  have m1 := EM_1 g3.2.1.1 (EM_z m4)
  have c46 : W5.2 46 k.toNat = r := by rw [h5, if_pos (by omega)]
  have tg5 : jTG W5 r (3 * k + 1) := by
    have g30 := g3.2.1.1
    refine ⟨by omega, by omega, ?_, fun _ => Or.inl ?_, fun c9 => absurd c9 (by omega)⟩
    · rw [j5 28 (by decide), e4, tyf_st (EM_k (EM_z m4)) (Int.le_refl _)]
      exact hT3 q3
    · rw [j5 30 (by decide), e4, m1.2.2, s3]
  refine ⟨fun s => EX_m (x7 s) (by omega), by omega, EM_t g6.2.1.1 (EM_z m7) (hT6 q6), ?_, ?_, ?_, fun _ s => ?_, fun h9 => absurd h9 (by decide)⟩
  · rw [v7 43 (by decide) (by decide), k6.1, j5 43 (by decide), v4 43 (by decide) (by decide), k3.1, h2.2 43 (by decide) (by decide), b4]
  · rw [v7 149 (by decide) (by decide), k6.2.2.2.2.2, j5 149 (by decide), v4 149 (by decide) (by decide), k3.2.2.2.2.2, hmk q0]
  · rw [v7 44 (by decide) (by decide), k6.2.1, j5 44 (by decide), v4 44 (by decide) (by decide), k3.2.1, h2.2 44 (by decide) (by decide)]
    exact bd
  · rw [v7 46 (by decide) (by decide), k6.2.2.1, c46]
    exact TG_go tg5 h6 q6 g6 m7 s
/-- the finish of a try -/
theorem TX_c {m e e1 k r c D : Int} {V W W2 W3 W4 W5 W6 : PV} (hG : RG V) (h : TX m e k D V W) (hm0 : 0 ≤ m ∧ m ≤ 1) (h2 : VF [8] [49, 149] W W2) (h28 : W2.1 8 = 3 * k + 2) (hm : ∀ i : Nat, (i : Int) ≠ k → W2.2 149 i = W.2 149 i) (hmk : W.1 7 = 0 → W2.2 149 k.toNat = m + 2) (g2 : RG W2) (h3 : VF [9, 10] [47] W2 W3) (h39 : W3.1 9 = -1) (h347 : ∀ i : Nat, W3.2 47 i = if (i : Int) = k then W2.1 17 else W2.2 47 i) (h4 : Rx e1 W3 W4) (hT4 : TY (-2) W4) (hB : BG c W4) (hc : c ≤ 60) (hE : EMr 23 k r W4 W5) (h6 : VF [9, 10] [] W5 W6) (h69 : W6.1 9 = V.1 9) : TX (m + 2) (e + e1 + 1) k D V W6 := by
  obtain ⟨a1, a2, a3, a4, a5, a6⟩ := h
  have b24 := hG.2.2.2.1
  have b7 := hG.2.2.2.2.2.2.2.1
  have w5 := (EMr_i hE).1
  have v5 := (EMr_i hE).2
  have b24' := g2.2.2.2.2.1
  have g3 : RG W3 := RG_93 (by rw [h3.1 25 (by decide)]; omega) h3 g2
  have g4 := h4.1 g3
  have g5 := EMr_g hE g4
  have n2 : W2.1 24 = W.1 24 := h2.1 24 (by decide)
  have n3 : W3.1 24 = W2.1 24 := h3.1 24 (by decide)
  have n4 := h4.2.1.2.2.2.1
  have n5 : W5.1 24 = W4.1 24 := w5 24 (by decide)
  have o2 : W2.1 25 = W.1 25 := h2.1 25 (by decide)
  have o3 : W3.1 25 = W2.1 25 := h3.1 25 (by decide)
  have o4 := h4.2.1.2.2.2.2
  have o5 : W5.1 25 = W4.1 25 := w5 25 (by decide)
  have o6 : W6.1 25 = W5.1 25 := h6.1 25 (by decide)
  have oa := a1.1.2.2.2.2
  have g6 : RG W6 := RG_93 (by omega) (hv_sub h6 (by decide) (by decide)) g5
  have kk := KE_tr a1 (KE_tr (KE_v h2 (by decide) (by decide)) (KE_tr (KE_v h3 (by decide) (by decide)) (KE_tr (KE_r h4) (KE_tr (KE_em hE) (KE_v h6 (by decide) (by decide))))))
  have r6 : W6.2 = W5.2 := funext (fun f => h6.2 f List.not_mem_nil (fun _ => List.not_mem_nil))
  refine ⟨kk, g6, h69, a4, by rw [h6.1 24 (by decide)]; omega, fun q => ?_⟩
  have q5 : W5.1 7 = 0 := by rw [← h6.1 7 (by decide)]; exact q
  have q4 : W4.1 7 = 0 := by rw [← w5 7 (by decide)]; exact q5
  have q3 := h4.2.2.1 q4
  have q2 : W2.1 7 = 0 := by rw [← h3.1 7 (by decide)]; exact q3
  have q0 : W.1 7 = 0 := by rw [← h2.1 7 (by decide)]; exact q2
  obtain ⟨b1, b2, b3, b4, b5, bd, b6, b7'⟩ := a6 q0
  have h0 := hG.2.1.1
  obtain ⟨e5, m5⟩ := EMr_f g4 hB hc hE q4
  have vk := sv_kt h2 h28
  have x2 := EX_kt (b1 (3 * k + 2)) (by omega) vk (by decide) (fun i hi => ⟨h2.2 46 (by decide) (by decide) ▸ rfl, h2.2 47 (by decide) (by decide) ▸ rfl, h2.2 48 (by decide) (by decide) ▸ rfl, hm i hi⟩)
  have x3 := EX_kt x2 (by omega) (hv_sub h3 (zi1 := [9, 10]) (by decide) (by decide)) (by decide) (fun i hi => ⟨by rw [h3.2 46 (by decide) (by decide)], by rw [h347 i, if_neg hi], by rw [h3.2 48 (by decide) (by decide)], by rw [h3.2 149 (by decide) (by decide)]⟩)
  have y4 := h4.2.2.2.2 q4
  have z2 : W2.1 17 = W.1 17 := h2.1 17 (by decide)
  have z3 : W3.1 17 = W2.1 17 := h3.1 17 (by decide)
  have s3 : W3.1 8 = 3 * k + 2 := by rw [h3.1 8 (by decide), h28]
  have s4 : W4.1 8 = 3 * k + 2 := by rw [h4.2.2.2.1.1, s3]
  have z4 := y4.1.1
  have x4 := EX_tr h0 x3 y4 (fun _ => h4.2.2.2.1.1) (fun c9 => absurd c9 (by omega))
  have x5 := EX_ems h0 x4 m5 N23 (ACTn_23 ⟨by omega, by omega, s4⟩) (fun c9 => absurd c9 (by omega))
  have lt5 := m5.1
  have k4 := y4.1.2.2.2.2.1 k.toNat (by omega)
  have vs : ∀ s : Int, VF [9, 10] [] (sv W5 s) (sv W6 s) := fun s => ⟨fun f hf => by
    show (if f = 8 then s else W6.1 f) = if f = 8 then s else W5.1 f
    rw [h6.1 f hf], h6.2⟩
  have g20 := g2.2.1.1
  have tgf : jTG W3 (W2.1 17) (3 * k + 2) := ⟨g20, by omega, by rw [h3.2 28 (by decide) (by decide), h2.2 28 (by decide) (by decide), z2]; exact b3, fun c9 => absurd c9 (by omega), fun _ => s3.symm⟩
  have c47 : W3.2 47 k.toNat = W2.1 17 := by rw [h347, if_pos (by omega)]
  refine ⟨fun s => EX_cg (EX_m (x5 s) (by omega)) (vs s) (by decide) (by decide), by rw [h6.1 17 (by decide)]; omega, ?_, ?_, ?_, ?_, fun h9 s => ?_, fun _ s => ?_⟩
  · rw [r6, h6.1 17 (by decide)]
    exact EM_t g4.2.1.1 (EM_z m5) (hT4 q4)
  · rw [r6, v5 43 (by decide) (by decide), k4.1, h3.2 43 (by decide) (by decide), h2.2 43 (by decide) (by decide), b4]
  · rw [r6, v5 149 (by decide) (by decide), k4.2.2.2.2.2, h3.2 149 (by decide) (by decide), hmk q0]
  · rw [r6, v5 44 (by decide) (by decide), k4.2.1, h3.2 44 (by decide) (by decide), h2.2 44 (by decide) (by decide)]
    exact bd
  · rw [r6, v5 46 (by decide) (by decide), k4.2.2.1, h3.2 46 (by decide) (by decide), h2.2 46 (by decide) (by decide)]
    exact TG_cg (vs s) (by decide) (by decide) (TG_go (TG_cg h3 (by decide) (by decide) (TG_cg vk (by decide) (by decide) (b6 (by omega) (3 * k + 2)))) h4 q4 g4 m5 s)
  · rw [r6, v5 47 (by decide) (by decide), k4.2.2.2.1, c47]
    exact TG_cg (vs s) (by decide) (by decide) (TG_go tgf h4 q4 g4 m5 s)
/-- a try ends -/
theorem TX_d {m e k v D : Int} {V W W1 W2 : PV} (hG : RG V) (h : TX m e k D V W) (h1 : ∀ i : Nat, W1.2 48 i = if (i : Int) = k then v else W.2 48 i) (hv1 : VF [] [48] W W1) (hv : v = W.1 17) (h2 : VF [8] [] W1 W2) (h28 : W2.1 8 = V.1 8) : Rx e V W2 ∧ TY (-2) W2 := by
  obtain ⟨a1, a2, a3, a4, a5, a6⟩ := h
  have b24 := hG.2.2.2.1
  have b6' := hG.2.2.2.2.2.2.1
  have i1 : W1.1 = W.1 := funext (fun f => hv1.1 f List.not_mem_nil)
  have j1 : ∀ f, f ≠ 48 → W1.2 f = W.2 f := fun f hf => hv1.2 f (fun q => hf (List.mem_singleton.mp q)) (fun _ => by decide)
  have r2 : W2.2 = W1.2 := funext (fun f => h2.2 f List.not_mem_nil (fun _ => List.not_mem_nil))
  have n := a1.1.2.2.2.1
  have n2 : W2.1 24 = W.1 24 := by rw [h2.1 24 (by decide), i1]
  have g1 : RG W1 := RG_ir (hv_sub hv1 (by decide) (by decide)) a2
  have g2 : RG W2 := RG_8 (by omega) h2 g1
  have kk := KE_tr a1 (KE_tr (KE_v hv1 (by decide) (by decide)) (KE_v h2 (by decide) (by decide)))
  have z2 : W2.1 17 = W.1 17 := by rw [h2.1 17 (by decide), i1]
  have vs : VF [] [48] (sv W (V.1 8)) W2 := by
    refine ⟨fun f _ => ?_, fun f hf h9 => ?_⟩
    · show W2.1 f = if f = 8 then V.1 8 else W.1 f
      rcases Decidable.em (f = 8) with c | c
      · rw [if_pos c, c, h28]
      · rw [if_neg c, h2.1 f (fun q => c (List.mem_singleton.mp q)), i1]
    · show W2.2 f = W.2 f
      rw [r2, j1 f (fun q => hf (by rw [q]; decide))]
  have key : W2.1 7 = 0 → EX e (-1) (-1) (-1) (-1) V W2 ∧ tyf (W2.2 28) (W2.1 17).toNat = -2 := fun q => by
    have q0 : W.1 7 = 0 := by rw [← i1, ← h2.1 7 (by decide)]; exact q
    obtain ⟨b1, b2, b3, b4, b5, bd, b6, b7⟩ := a6 q0
    have t2 : tyf (W2.2 28) (W2.1 17).toNat = -2 := by rw [r2, j1 28 (by decide), z2]; exact b3
    have x2 := EX_kt (b1 (V.1 8)) (by omega) (hv_sub vs (zi1 := []) (by decide) (by decide)) (by decide) (fun i hi => ⟨by rw [r2, j1 46 (by decide)]; rfl, by rw [r2, j1 47 (by decide)]; rfl, by rw [r2, h1 i, if_neg hi]; rfl, by rw [r2, j1 149 (by decide)]; rfl⟩)
    have kc : (k.toNat : Int) = k := by omega
    have g20 := g2.2.1.1
    refine ⟨EX_ct x2 (by omega) ?_, t2⟩
    unfold TRO
    rw [kc, r2, j1 149 (by decide), j1 46 (by decide), j1 47 (by decide), j1 43 (by decide), b5, b4, h1, if_pos (by omega), hv]
    exact ⟨fun h9 => TG_cg vs (by decide) (by decide) (b6 h9 (V.1 8)), fun h9 => TG_cg vs (by decide) (by decide) (b7 h9 (V.1 8)), by have := a2.2.1.1; omega, by omega, by rw [← z2]; exact t2, fun c9 => absurd c9 (by omega), fun _ => h28.symm⟩
  exact ⟨Rx_of (fun _ => g2) kk.1 kk.2.1 ⟨h28, by rw [h2.1 9 (by decide), i1]; exact a3, kk.2.2⟩ (fun q => (key q).1), fun q => (key q).2⟩
/-- within try k: the loop that may be left, the depth -/
theorem LK_nt {V V1 V2 : PV} (hG : RG V) (hL : LK V) (hT : jNT V V1) (h2 : VF [8] [] V1 V2) (h28 : V2.1 8 = 3 * V.1 24) : LK V2 := fun q h0 => by
  have p3 := hT.2.2.2
  have l1 := hT.1
  have b24 := hG.2.2.2.1
  rw [h2.1 7 (by decide), p3.1 7 (by decide)] at q
  rw [h2.1 9 (by decide), p3.1 9 (by decide)] at h0 ⊢
  rw [h28, h2.1 24 (by decide), h2.2 43 (by decide) (by decide), h2.2 50 (by decide) (by decide), p3.2 50 (by decide) (by decide)]
  have d : 3 * V.1 24 / 3 = V.1 24 := by omega
  refine onc_s (by omega) (by omega) ?_
  rw [d, hT.2.1, if_pos (by omega)]
  exact NT_o hT (hL q h0)
theorem LK_tx {m e k D : Int} {V W W2 : PV} {b : Int} (hG : RG V) (hL : LK V) (h : TX m e k D V W) (h2 : VF [8] [49, 149] W W2) (h28 : W2.1 8 = 3 * k + b) (hb : 0 ≤ b ∧ b ≤ 2) : LK W2 := fun q h0 => by
  obtain ⟨a1, a2, a3, a4, a5, a6⟩ := h
  rw [h2.1 7 (by decide)] at q
  obtain ⟨b1, b2, b3, b4, b5, bd, b6, b7⟩ := a6 q
  have x := (b1 0).1
  have b24 := hG.2.2.2.1
  have bb7 := hG.2.2.2.2.2.2.2.1
  rw [h2.1 9 (by decide), a3] at h0 ⊢
  rw [h28, h2.1 24 (by decide), h2.2 43 (by decide) (by decide), h2.2 50 (by decide) (by decide)]
  have d : (3 * k + b) / 3 = k := by omega
  refine onc_s (by omega) (by omega) ?_
  have y := x.2.2.2.2.2 (V.1 9).toNat (by omega)
  have z : W.2 50 (V.1 9).toNat = V.2 50 (V.1 9).toNat := y.1
  rw [d, b4, z]
  exact onc_k x.2.1 (fun i hi => (x.2.2.2.2.1 i hi).1) (hL (a1.2.1 q) h0)
theorem DK_tx {m e k D : Int} {V W W2 : PV} {b : Int} (h : TX m e k D V W) (h2 : VF [8] [49, 149] W W2) (h28 : W2.1 8 = 3 * k + b) (hb : 0 ≤ b ∧ b ≤ 2) : DK (D + 1) W2 := fun q _ => by
  obtain ⟨a1, a2, a3, a4, a5, a6⟩ := h
  rw [h2.1 7 (by decide)] at q
  obtain ⟨b1, b2, b3, b4, b5, bd, b6, b7⟩ := a6 q
  have d : (3 * k + b) / 3 = k := by omega
  rw [h28, d, h2.2 44 (by decide) (by decide)]
  omega
theorem VF_tt {zi fa : List Nat} {V V1 V2 : PV} (h : VF zi fa V V1) (h1 : VF zi fa V1 V2) : VF zi fa V V2 := ⟨fun f hf => (h1.1 f hf).trans (h.1 f hf), fun f hf h9 => (h1.2 f hf h9).trans (h.2 f hf h9)⟩
/-- what finished does -/
def FNP (k : Int) (V V1 : PV) : Prop := ∃ (W3 W4 W5 : PV) (r : Int), VF [9, 10] [47] V W3 ∧ W3.1 9 = -1 ∧ (∀ i : Nat, W3.2 47 i = if (i : Int) = k then V.1 17 else V.2 47 i) ∧ Rx (-4) W3 W4 ∧ TY (-2) W4 ∧ BG 60 W4 ∧ EMr 23 k r W4 W5 ∧ VF [9, 10] [] W5 V1 ∧ V1.1 9 = V.1 9
theorem TX_f {m e k D : Int} {V W W2 W6 : PV} (hG : RG V) (h : TX m e k D V W) (hm0 : 0 ≤ m ∧ m ≤ 1) (h2 : VF [8] [49, 149] W W2) (h28 : W2.1 8 = 3 * k + 2) (hm : ∀ i : Nat, (i : Int) ≠ k → W2.2 149 i = W.2 149 i) (hmk : W.1 7 = 0 → W2.2 149 k.toNat = m + 2) (g2 : RG W2) (hF : FNP k W2 W6) : TX (m + 2) (e + -4 + 1) k D V W6 := by
  obtain ⟨W3, W4, W5, r, f1, f2, f3, f4, f5, f6, f7, f8, f9⟩ := hF
  exact TX_c hG h hm0 h2 h28 hm hmk g2 f1 f2 f3 f4 f5 f6 (by decide) f7 f8 (f9.trans ((h2.1 9 (by decide)).trans h.2.2.1))
