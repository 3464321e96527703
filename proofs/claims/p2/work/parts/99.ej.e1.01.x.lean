
def N1e (V V1 : PV) : Prop := V1.1 7 = 0 → V.1 17 < V1.1 17 → V1.2 30 (V.1 17).toNat = V.1 8
theorem N1e_s {V V1 : PV} (h : V1.1 17 = V.1 17) : N1e V V1 := fun _ l => absurd l (by omega)
theorem N1e_x {V V1 : PV} (h : V1.1 7 ≠ 0) : N1e V V1 := fun q => absurd q h
theorem N1e_t {e e1 : Int} {V V1 V2 : PV} (hG : RG V) (h : Rx e V V1) (h1 : N1e V V1) (h2 : Rx e1 V1 V2) (h3 : N1e V1 V2) : N1e V V2 := fun q l => by
  have q1 := h2.2.2.1 q
  have x1 := (h.2.2.2.2 q1).1.1
  have x2 := (h2.2.2.2.2 q).1
  have h0 := hG.2.1.1
  rcases Int.lt_or_le (V.1 17) (V1.1 17) with c | c
  · rw [(x2.2.2.2.1 _ (by omega)).2.2]
    exact h1 q1 c
  · have e9 : V1.1 17 = V.1 17 := by omega
    have := h3 q (by omega)
    rw [e9] at this
    rw [this, h.2.2.2.1.1]
theorem N1e_k {e e1 : Int} {V V1 V2 : PV} (hG : RG V) (h : Rx e V V1) (h1 : N1e V V1) (h2 : Rx e1 V1 V2) (h3 : V2.1 17 = V1.1 17) : N1e V V2 := N1e_t hG h h1 h2 (N1e_s h3)
theorem N1e_em {o a r c e : Int} {V V1 V2 : PV} (hG : RG V) (hB : BG c V) (hc : c ≤ 60) (hE : EMr o a r V V1) (h : Rx e V1 V2) : N1e V V2 := fun q _ => by
  have q1 := h.2.2.1 q
  have q0 : V.1 7 = 0 := by rw [← (EMr_i hE).1 7 (by decide)]; exact q1
  obtain ⟨e1, m⟩ := EMr_f hG hB hc hE q0
  have x := (h.2.2.2.2 q).1
  have h0 := hG.2.1.1
  have l := m.1
  rw [(x.2.2.2.1 _ (by omega)).2.2, (EM_1 h0 (EM_z m)).2.2]
theorem vw_ci {t0 tk pg sc f : Nat} {v : Int32} {S S1 : kS} (e : S1 = cI S f t0 v) (hf : f ≤ 11) : VF [f] [] (vw t0 tk pg sc S) (vw t0 tk pg sc S1) ∧ (vw t0 tk pg sc S1).1 f = v.toInt := by
  subst e
  refine ⟨⟨fun g hg => ?_, fun g _ _ => ?_⟩, ?_⟩
  · show ((cI S f t0 v).1 g _).toInt = (S.1 g _).toInt
    rw [k_ii, if_neg (fun q => hg (by rw [q.1]; exact List.mem_singleton_self f))]
  · rfl
  · show ((cI S f t0 v).1 f (if f ≤ 11 then t0 else _)).toInt = _
    rw [if_pos hf, k_ii, if_pos ⟨rfl, rfl⟩]
theorem BG_v {c : Int} {zi fa : List Nat} {V V1 : PV} (hv : VF zi fa V V1) (hz : dis9 [6, 7, 17] zi = true) (h : BG c V) : BG c V1 := by
  unfold BG at h ⊢
  rw [hv.1 6 (dis9_m hz (by decide)), hv.1 7 (dis9_m hz (by decide)), hv.1 17 (dis9_m hz (by decide))]
  exact h
theorem TY_v {t : Int} {zi fa : List Nat} {V V1 : PV} (hv : VF zi fa V V1) (hz : dis9 [7, 17] zi = true) (hf : dis9 [28] fa = true) (h : TY t V) : TY t V1 := by
  unfold TY at h ⊢
  rw [hv.1 7 (dis9_m hz (by decide)), hv.1 17 (dis9_m hz (by decide)), hv.2 28 (dis9_m hf (by decide)) (fun e => absurd e (by decide))]
  exact h
theorem LK_l {l : Int} {V : PV} (h : V.1 9 = l) (h1 : V.2 50 l.toNat = V.1 8) : LK V := fun _ _ => by rw [h, h1]; exact onc_r
theorem LK_m {V : PV} (h : V.1 9 = -1) : LK V := fun _ h0 => absurd h0 (by omega)
