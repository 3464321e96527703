
/-- act f is where the statement begins -/
def FST (f : Int) (V : PV) : Prop := V.1 7 = 0 → 0 ≤ f ∧ f < V.1 17 ∧ V.2 30 f.toNat = V.1 8 ∧ tyf (V.2 28) f.toNat = -2
theorem FST_r {e f : Int} {V V1 : PV} (h : Rx e V V1) (hf : FST f V) : FST f V1 := fun q => by
  obtain ⟨h1, h2, h3, h4⟩ := hf (h.2.2.1 q)
  have k := Rx_kp h q h1 h2
  have x := (h.2.2.2.2 q).1
  exact ⟨h1, k.2.2.2, by rw [k.2.2.1, h3, h.2.2.2.1.1], by rw [tyf_st x (by omega)]; exact h4⟩
theorem FST_em {o a r c : Int} {V V1 : PV} (hG : RG V) (hB : BG c V) (hc : c ≤ 60) (hE : EMr o a r V V1) (hT : TY (-2) V) : FST r V1 := fun q => by
  have v := (EMr_i hE).1
  rw [v 7 (by decide)] at q
  obtain ⟨e1, m⟩ := EMr_f hG hB hc hE q
  have m1 := EM_1 hG.2.1.1 (EM_z m)
  have l := m.1
  have g := hG.2.1.1
  refine ⟨by omega, by omega, by rw [e1, m1.2.2, v 8 (by decide)], ?_⟩
  rw [e1, tyf_st (EM_k (EM_z m)) (by omega)]
  exact hT q
theorem KE_nl {f : Int} {V V1 : PV} (h : NL f V V1) : KE V V1 := by
  obtain ⟨l1, _, _, hv⟩ := h
  exact ⟨⟨hv.1 40 (by decide), hv.2 64 (by decide) (by decide), hv.2 65 (by decide) (by decide), by rw [hv.1 24 (by decide)]; exact Int.le_refl _, by omega⟩, fun q => by rw [hv.1 7 (by decide)] at q; exact q, hv.1 18 (by decide), hv.2 32 (by decide) (by decide), STf_v hv (by decide) (by decide)⟩
/-- a while: V1 behind newLoop, V2 behind the sum, V3 its UNLESS, V4 within, V5 behind the block, V6 about, V7 its JUMP, V8 patched, V9 its way out set -/
theorem Rx_lp {e e1 f l a r r2 v v2 c c6 : Int} {V V1 V2 V3 V4 V5 V6 V7 V8 V9 : PV} (hG : RG V) (hf : FST f V) (hL : NL f V V1) (hl : l = V.1 25) (h25 : V.1 25 < 460) (h : Rx e V1 V2) (hB : BG c V2) (hc : c ≤ 60) (hE : EMr 15 a r V2 V3) (h4 : VF [9] [] V3 V4) (h49 : V4.1 9 = l) (h5 : Rx e1 V4 V5) (h6 : VF [9] [] V5 V6) (h69 : V6.1 9 = V.1 9) (hT5 : TY (-2) V5) (hB6 : BG c6 V6) (hc6 : c6 ≤ 60) (hE2 : EMr 16 f r2 V6 V7) (hP : jPT r v V7 V8) (hv : v = V7.1 17) (h9 : ∀ i : Nat, V9.2 52 i = if (i : Int) = l then v2 else V8.2 52 i) (hv9 : VF [] [52] V8 V9) (hv2 : v2 = V8.1 17) : Rx (e + 1 + e1 + 1) V V9 ∧ TY (-2) V9 := by
  have p3 := hL.2.2.2
  have l1 := hL.1
  have b25 := hG.2.2.2.2.1
  have b7 := hG.2.2.2.2.2.2.2.1
  have g1 : RG V1 := RG_nl hL.1 h25 p3 hG
  have g2 := h.1 g1
  have g3 := EMr_g hE g2
  have s1 : V1.1 8 = V.1 8 := p3.1 8 (by decide)
  have w3 := (EMr_i hE).1
  have w7 := (EMr_i hE2).1
  obtain ⟨i1, i2⟩ := PT_i hP
  have j1 : V9.1 = V8.1 := funext (fun f => hv9.1 f List.not_mem_nil)
  have j2 : ∀ f, f ≠ 52 → V9.2 f = V8.2 f := fun f hf => hv9.2 f (fun q => hf (List.mem_singleton.mp q)) (fun _ => by decide)
  have n2 := h.2.1.2.2.2.2
  have n4 : V4.1 25 = V2.1 25 := by rw [h4.1 25 (by decide), w3 25 (by decide)]
  have n5 := h5.2.1.2.2.2.2
  have g4 : RG V4 := RG_9 (by omega) h4 g3
  have g5 := h5.1 g4
  have n6 : V6.1 25 = V5.1 25 := h6.1 25 (by decide)
  have g6 : RG V6 := RG_9 (by omega) h6 g5
  have g7 := EMr_g hE2 g6
  have g8 := PT_g hP g7
  have g9 : RG V9 := RG_ir (hv_sub hv9 (by decide) (by decide)) g8
  have kk := KE_tr (KE_nl hL) (KE_tr (KE_r h) (KE_tr (KE_em hE) (KE_tr (KE_v h4 (by decide) (by decide)) (KE_tr (KE_r h5) (KE_tr (KE_v h6 (by decide) (by decide)) (KE_tr (KE_em hE2) (KE_tr (KE_v hP.2 (by decide) (by decide)) (KE_v hv9 (by decide) (by decide)))))))))
  have s2 : V2.1 8 = V.1 8 := by rw [h.2.2.2.1.1, s1]
  have s4 : V4.1 8 = V.1 8 := by rw [h4.1 8 (by decide), w3 8 (by decide), s2]
  have s5 : V5.1 8 = V.1 8 := by rw [h5.2.2.2.1.1, s4]
  have s6 : V6.1 8 = V.1 8 := by rw [h6.1 8 (by decide), s5]
  have s7 : V7.1 8 = V.1 8 := by rw [w7 8 (by decide), s6]
  have key : V9.1 7 = 0 → EX (e + 1 + e1 + 1) (-1) (-1) (-1) (-1) V V9 ∧ tyf (V9.2 28) (V9.1 17).toNat = -2 := fun q => by
    have q8 : V8.1 7 = 0 := by rw [← j1]; exact q
    have q7 : V7.1 7 = 0 := by rw [← i1]; exact q8
    have q6 : V6.1 7 = 0 := by rw [← w7 7 (by decide)]; exact q7
    have q5 : V5.1 7 = 0 := by rw [← h6.1 7 (by decide)]; exact q6
    have q4 := h5.2.2.1 q5
    have q3 : V3.1 7 = 0 := by rw [← h4.1 7 (by decide)]; exact q4
    have q2 : V2.1 7 = 0 := by rw [← w3 7 (by decide)]; exact q3
    have q0 := kk.2.1 q
    have h0 := hG.2.1.1
    obtain ⟨f1, f2, f3, f4⟩ := hf q0
    obtain ⟨e3, m3⟩ := EMr_f g2 hB hc hE q2
    obtain ⟨e7, m7⟩ := EMr_f g6 hB6 hc6 hE2 q6
    have x1 := EX_nl (EX_rf (V := V)) hL
    have x2 := EX_go h0 x1 h q2 s1
    have k12 := (h.2.2.2.2 q2).1
    have o3 := EM_1 g2.2.1.1 (EM_z m3)
    have lt3 := m3.1
    have x3 := EX_em (u1 := r) (j1 := -1) h0 x2 m3 (Or.inl rfl) (Or.inl rfl) (fun w => absurd e3.symm w) (fun _ => Or.inl s2)
    have x4 := EX_cg x3 h4 (by decide) (by decide)
    have x5 := EX_go h0 x4 h5 q5 s4
    have x6 := EX_cg x5 h6 (by decide) (by decide)
    have z2 := x2.1.1
    have z17 : V4.1 17 = V3.1 17 := h4.1 17 (by decide)
    have k45 := (h5.2.2.2.2 q5).1
    have z5 := k45.1
    have z6 : V6.1 17 = V5.1 17 := h6.1 17 (by decide)
    have lt7 := m7.1
    have k06 := x6.1
    have kf := k06.2.2.2.1 f.toNat (by omega)
    have z06 := k06.1
    have tg6 : jTG V6 f (V6.1 8) := ⟨f1, by omega, by rw [tyf_st k06 (by omega)]; exact f4, fun _ => Or.inl (by rw [kf.2.2, f3, s6]), fun c9 => absurd c9 (by omega)⟩
    have x7 := EX_em (u1 := r) (j1 := -1) h0 x6 m7 (Or.inr rfl) (Or.inl rfl) (fun _ _ => ACTn_j (Or.inr rfl) tg6) (fun _ => Or.inl s6)
    have t6 : tyf (V6.2 28) (V6.1 17).toNat = -2 := by rw [z6, h6.2 28 (by decide) (by decide)]; exact hT5 q5
    have t7 : tyf (V7.2 28) (V7.1 17).toNat = -2 := EM_t g6.2.1.1 (EM_z m7) t6
    have kr4 : V4.2 28 r.toNat = 15 ∧ V4.2 30 r.toNat = V.1 8 := by
      rw [h4.2 28 (by decide) (by decide), h4.2 30 (by decide) (by decide), e3, o3.1, o3.2.2, s2]
      exact ⟨rfl, rfl⟩
    have kr5 := k45.2.2.2.1 r.toNat (by omega)
    have kr7 := (EM_k (EM_z m7)).2.2.2.1 r.toNat (by omega)
    have x8 := EX_pt (u1 := -1) (j1 := -1) x7 hP (by omega) (ACT_j (Or.inl (by rw [i2 28 (by decide), kr7.1, h6.2 28 (by decide) (by decide), kr5.1, kr4.1])) (by rw [PT_1 hP (by omega), hv, i1]) (by rw [i2 30 (by decide), kr7.2.2, h6.2 30 (by decide) (by decide), kr5.2.2, kr4.2, i1, s7]) (by rw [i1]; exact g7.2.1.1) (by rw [i2 28 (by decide), i1]; exact t7)) (Or.inl rfl) (Or.inr rfl)
    have t9 : tyf (V9.2 28) (V9.1 17).toNat = -2 := by rw [j2 28 (by decide), j1, i2 28 (by decide), i1]; exact t7
    have s9 : V9.1 8 = V.1 8 := by rw [j1, i1, s7]
    have a2 := k12.2.2.2.2.2 l.toNat (by omega)
    have n3 : V3.1 25 = V2.1 25 := w3 25 (by decide)
    have a3 := (EM_k (EM_z m3)).2.2.2.2.2 l.toNat (by omega)
    have a5 := k45.2.2.2.2.2 l.toNat (by omega)
    have a7 := (EM_k (EM_z m7)).2.2.2.2.2 l.toNat (by omega)
    have c50 : V9.2 50 l.toNat = V.1 8 := by rw [j2 50 (by decide), i2 50 (by decide), a7.1, h6.2 50 (by decide) (by decide), a5.1, h4.2 50 (by decide) (by decide), a3.1, a2.1, hL.2.1, if_pos (by omega)]
    have c51 : V9.2 51 l.toNat = f := by rw [j2 51 (by decide), i2 51 (by decide), a7.2.1, h6.2 51 (by decide) (by decide), a5.2.1, h4.2 51 (by decide) (by decide), a3.2.1, a2.2.1, hL.2.2.1, if_pos (by omega)]
    have c52 : V9.2 52 l.toNat = V9.1 17 := by rw [h9, if_pos (by omega), hv2, j1]
    have g90 := g9.2.1.1
    have tgf : jTG V9 f (V.1 8) := by
      have k8 := x8.1
      have kf8 := k8.2.2.2.1 f.toNat (by omega)
      have z8 := k8.1
      have z9 : V9.1 17 = V8.1 17 := by rw [j1]
      refine ⟨f1, by omega, by rw [j2 28 (by decide), tyf_st k8 (by omega)]; exact f4, fun _ => Or.inl (by rw [j2 30 (by decide), kf8.2.2, f3]), fun c9 => absurd c9 (by omega)⟩
    have x9 := EX_cl (l := l) (hl ▸ x8) (by omega) h9 hv9 (by
      unfold LPO
      rw [c50, c51, c52]
      exact ⟨tgf, g90, Int.le_refl _, t9, fun c9 => absurd c9 (by omega), fun _ => s9.symm⟩)
    exact ⟨EX_m x9 (by omega), t9⟩
  refine ⟨Rx_of (fun _ => g9) kk.1 kk.2.1 ⟨?_, ?_, kk.2.2⟩ (fun q => (key q).1), fun q => (key q).2⟩
  · rw [j1, i1, s7]
  · rw [j1, i1, w7 9 (by decide), h69]
