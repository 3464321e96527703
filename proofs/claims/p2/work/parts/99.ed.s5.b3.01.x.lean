
set_option maxHeartbeats 1000000 in
theorem wk_12 {hx : Nat} {cd nt nw na : Int} {ty : Nat → T6} {P : mS} {q : Nat} {a0 a1 a2 : Int32} {S : mS} (hx1 : hx ≤ 1) (hF : FWt hx cd nt nw na ty P) (hG : CE ((P.2.1 7))) (hnow : (S.1 5).toInt = hx) (hq : 12000 * hx ≤ q ∧ (q : Int) < cd) (e0 : a0 = (P.2.1 12) q) (e1 : a1 = (P.2.1 13) q) (e2 : a2 = (P.2.1 14) q) (hp : (S.1 32).toInt = q + 1) (hc : 0 ≤ (S.1 24).toInt) (hW : W0 hx cd nt nw ty P S) (hR : RF hx nt nw P (ty q).2.2.2.2.2 S) (hB : RB hx cd ty (ty q) S) (hT : TPd (ty q).1 (ty q).2.1 S) (c : a0 = 12) : wp_reckons a0 a1 S (fun S1 => WKS hx cd nt nw ty P (MV P q (FS S) (S.1 26).toInt) S1) := by
  have ok := hF.2.2.1 q hq.1 hq.2
  have fb := FW_b hF
  have hfs := FS_b hR
  have rbb := RB_b hB
  have tt9 := RB_t hW hB
  have bp : 0 ≤ (S.1 27).toInt ∧ (S.1 27).toInt ≤ (S.1 25).toInt := by
    unfold TPd at hT
    omega
  unfold TPd at hT
  obtain ⟨t1, t2, t3, t4, t5, t6, t7⟩ := hT
  have ho : (P.2.1 12) q = 12 := e0.symm.trans c
  have g := ok.2.2.2.2.2.2.1 (by rw [ho]; decide)
  have g0 := g.1
  have rk : RKD a0 = -1 := by rw [c]; decide
  refine fm_reckons _ _ _ _ _ (fun S9 f p => ?_) (sg_reckons (tu := ty q) (tr := (ty q).2.2.2.2.2) a0 a1 hx1 tt9 (by rw [c]; decide) (fun h => absurd h (by rw [c]; decide)) ⟨by omega, by omega, fun h => absurd h (by rw [c]; decide), fun _ => by omega⟩ hF hW hR hB rfl)
  have e25 : (S9.1 25).toInt = (S.1 25).toInt := congrArg _ (f.1 25 (by decide))
  have e26 : (S9.1 26).toInt = (S.1 26).toInt := congrArg _ (f.1 26 (by decide))
  have e27 : (S9.1 27).toInt = (S.1 27).toInt := congrArg _ (f.1 27 (by decide))
  rcases p with p | p
  · have e32 : (S9.1 32).toInt = (S.1 32).toInt := congrArg _ (p.1.1 32 (by decide))
    have e31 := p.2
    rw [rk] at e31
    have s9 := FS_nf (NF_fr p.1 (by decide) (by decide))
    refine FWD (a := (ty q).1 - 1) hx1 hF hq (by rw [ho]; decide) g.2 (W0_nw (NW_fr p.1 (by decide) (by decide) (by decide)) hW) (RF_nf (NF_fr p.1 (by decide) (by decide)) hR) (RB_nb (NB_fr p.1 (by decide) (by decide)) hB) (by omega) (by omega) e26 ?_
    unfold TPd
    omega
  · rcases hB.2.2.2.2.1 with i | i
    · have o := p.2.2.2 i
      rcases o with o | o
      · exact WKS_e o (by unfold BNp; omega)
      · exact WKS_j hx1 hF hq (by rw [ho]; decide) o (by unfold TPd; omega) e26 (by omega) (Or.inl (by omega))
    · exact WKS_e (p.2.2.1 i) (by unfold BNp; omega)
set_option maxHeartbeats 1000000 in
theorem wk_13 {hx : Nat} {cd nt nw na : Int} {ty : Nat → T6} {P : mS} {q : Nat} {a0 a1 a2 : Int32} {S : mS} (hx1 : hx ≤ 1) (hF : FWt hx cd nt nw na ty P) (hG : CE ((P.2.1 7))) (hnow : (S.1 5).toInt = hx) (hq : 12000 * hx ≤ q ∧ (q : Int) < cd) (e0 : a0 = (P.2.1 12) q) (e1 : a1 = (P.2.1 13) q) (e2 : a2 = (P.2.1 14) q) (hp : (S.1 32).toInt = q + 1) (hc : 0 ≤ (S.1 24).toInt) (hW : W0 hx cd nt nw ty P S) (hR : RF hx nt nw P (ty q).2.2.2.2.2 S) (hB : RB hx cd ty (ty q) S) (hT : TPd (ty q).1 (ty q).2.1 S) (c : a0 = 13) : ∀ z52 : Int32, z52 = 12 * (S.1 33) → ∀ z53 : Int32, z53 = z52 + a1 → wp_pop S (fun (S54 : mS) (r54 : Int32) => inR z53 2400 ∧ ∀ S55 : mS, S55 = sF S54 58 (ix z53) r54 → WKS hx cd nt nw ty P (MV P q (FS S) (S.1 26).toInt) S55) := by
  have ok := hF.2.2.1 q hq.1 hq.2
  have fb := FW_b hF
  have hfs := FS_b hR
  have rbb := RB_b hB
  have tt9 := RB_t hW hB
  have bp : 0 ≤ (S.1 27).toInt ∧ (S.1 27).toInt ≤ (S.1 25).toInt := by
    unfold TPd at hT
    omega
  unfold TPd at hT
  obtain ⟨t1, t2, t3, t4, t5, t6, t7⟩ := hT
  have ho : (P.2.1 12) q = 13 := e0.symm.trans c
  have g := ok.2.2.2.2.2.2.2.1 (by rw [ho]; decide)
  intro z52 e52 z53 e53
  have n12 : (12 : Int32).toInt = 12 := rfl
  have ga := g.2.2.2 (by rw [ho]; decide)
  rw [← e1] at ga
  have h52 := w_mul e52 (by rw [n12]; omega)
  rw [n12] at h52
  have h53 := w_add e53 (by omega)
  have g0 := g.1
  refine fm_pop _ _ _ (fun S54 r54 f p => ⟨⟨by omega, by show z53.toInt < 2400; omega⟩, fun S55 e55 => ?_⟩) (sg_pop ⟨by omega, by omega⟩)
  have x := Fr_q f (by decide)
  have x32 : (S54.1 32).toInt = (S.1 32).toInt := congrArg _ (f.1 32 (by decide))
  have w1 := W0_nw (NW_fr f (by decide) (by decide) (by decide)) hW
  have r1 := RF_nf (NF_fr f (by decide) (by decide)) hR
  have b1 := RB_nb (NB_fr f (by decide) (by decide)) hB
  have s1 := FS_nf (NF_fr f (by decide) (by decide))
  have w2 := W0_nw (NW_f e55 (by decide)) w1
  have r2 := RF_nf (NF_f e55 (by decide)) r1
  have b2 := RB_nb (NB_f e55 (by decide)) b1
  have s2 := FS_nf (NF_f e55 (by decide))
  have y : S55.1 = S54.1 := by rw [e55]; rfl
  refine FWD (a := (ty q).1 - 1) hx1 hF hq (by rw [ho]; decide) g.2.2.1 w2 r2 b2 (by rw [y]; omega) (by omega) (by rw [y]; exact x.2.1) ?_
  unfold TPd
  rw [y]
  omega
set_option maxHeartbeats 1000000 in
theorem wk_14 {hx : Nat} {cd nt nw na : Int} {ty : Nat → T6} {P : mS} {q : Nat} {a0 a1 a2 : Int32} {S : mS} (hx1 : hx ≤ 1) (hF : FWt hx cd nt nw na ty P) (hG : CE ((P.2.1 7))) (hnow : (S.1 5).toInt = hx) (hq : 12000 * hx ≤ q ∧ (q : Int) < cd) (e0 : a0 = (P.2.1 12) q) (e1 : a1 = (P.2.1 13) q) (e2 : a2 = (P.2.1 14) q) (hp : (S.1 32).toInt = q + 1) (hc : 0 ≤ (S.1 24).toInt) (hW : W0 hx cd nt nw ty P S) (hR : RF hx nt nw P (ty q).2.2.2.2.2 S) (hB : RB hx cd ty (ty q) S) (hT : TPd (ty q).1 (ty q).2.1 S) (c : a0 = 14) : wp_pop S (fun (S57 : mS) (r57 : Int32) => wp_notePut r57 S57 (fun (S58 : mS) => WKS hx cd nt nw ty P (MV P q (FS S) (S.1 26).toInt) S58)) := by
  have ok := hF.2.2.1 q hq.1 hq.2
  have fb := FW_b hF
  have hfs := FS_b hR
  have rbb := RB_b hB
  have tt9 := RB_t hW hB
  have bp : 0 ≤ (S.1 27).toInt ∧ (S.1 27).toInt ≤ (S.1 25).toInt := by
    unfold TPd at hT
    omega
  unfold TPd at hT
  obtain ⟨t1, t2, t3, t4, t5, t6, t7⟩ := hT
  have ho : (P.2.1 12) q = 14 := e0.symm.trans c
  have g := ok.2.2.2.2.2.2.2.1 (by rw [ho]; decide)
  have g0 := g.1
  refine fm_pop _ _ _ (fun S57 r57 f p => ?_) (sg_pop ⟨by omega, by omega⟩)
  have x := Fr_q f (by decide)
  have x32 : (S57.1 32).toInt = (S.1 32).toInt := congrArg _ (f.1 32 (by decide))
  refine fm_notePut _ _ _ _ (fun S58 f2 p2 => ?_) (sg_notePut r57 ⟨by omega, by omega⟩)
  have y25 : (S58.1 25).toInt = (S57.1 25).toInt := congrArg _ (f2.1 25 (by decide))
  have y26 : (S58.1 26).toInt = (S57.1 26).toInt := congrArg _ (f2.1 26 (by decide))
  have y31 : (S58.1 31).toInt = (S57.1 31).toInt := congrArg _ (f2.1 31 (by decide))
  have y32 : (S58.1 32).toInt = (S57.1 32).toInt := congrArg _ (f2.1 32 (by decide))
  have w1 := W0_nw (NW_fr f (by decide) (by decide) (by decide)) hW
  have r1 := RF_nf (NF_fr f (by decide) (by decide)) hR
  have b1 := RB_nb (NB_fr f (by decide) (by decide)) hB
  have s1 := FS_nf (NF_fr f (by decide) (by decide))
  have w2 := W0_nw (NW_fr f2 (by decide) (by decide) (by decide)) w1
  have r2 := RF_nf (NF_fr f2 (by decide) (by decide)) r1
  have b2 := RB_nb (NB_fr f2 (by decide) (by decide)) b1
  have s2 := FS_nf (NF_fr f2 (by decide) (by decide))
  refine FWD (a := (ty q).1 - 1) hx1 hF hq (by rw [ho]; decide) g.2.2.1 w2 r2 b2 (by omega) (by omega) (by omega) ?_
  unfold TPd
  omega
set_option maxHeartbeats 1000000 in
theorem wk_15 {hx : Nat} {cd nt nw na : Int} {ty : Nat → T6} {P : mS} {q : Nat} {a0 a1 a2 : Int32} {S : mS} (hx1 : hx ≤ 1) (hF : FWt hx cd nt nw na ty P) (hG : CE ((P.2.1 7))) (hnow : (S.1 5).toInt = hx) (hq : 12000 * hx ≤ q ∧ (q : Int) < cd) (e0 : a0 = (P.2.1 12) q) (e1 : a1 = (P.2.1 13) q) (e2 : a2 = (P.2.1 14) q) (hp : (S.1 32).toInt = q + 1) (hc : 0 ≤ (S.1 24).toInt) (hW : W0 hx cd nt nw ty P S) (hR : RF hx nt nw P (ty q).2.2.2.2.2 S) (hB : RB hx cd ty (ty q) S) (hT : TPd (ty q).1 (ty q).2.1 S) (c : a0 = 15) : wp_pop S (fun (S60 : mS) (r60 : Int32) => ((¬ r60 = 0 → ∀ S62 : mS, S62 = sZ S60 32 (S60.1 32) → WKS hx cd nt nw ty P (MV P q (FS S) (S.1 26).toInt) S62) ∧ (r60 = 0 → ∀ S63 : mS, S63 = sZ S60 32 a1 → WKS hx cd nt nw ty P (MV P q (FS S) (S.1 26).toInt) S63))) := by
  have ok := hF.2.2.1 q hq.1 hq.2
  have fb := FW_b hF
  have hfs := FS_b hR
  have rbb := RB_b hB
  have tt9 := RB_t hW hB
  have bp : 0 ≤ (S.1 27).toInt ∧ (S.1 27).toInt ≤ (S.1 25).toInt := by
    unfold TPd at hT
    omega
  unfold TPd at hT
  obtain ⟨t1, t2, t3, t4, t5, t6, t7⟩ := hT
  have ho : (P.2.1 12) q = 15 := e0.symm.trans c
  have g := ok.2.2.2.2.2.2.2.2.1 (by rw [ho]; decide)
  have g1 := g.2.1
  have gt := g.2.2.2
  rw [← e1] at gt
  refine fm_pop _ _ _ (fun S60 r60 f p => ⟨fun h S62 e62 => ?_, fun h S63 e63 => ?_⟩) (sg_pop ⟨by omega, by omega⟩)
  · have x := Fr_q f (by decide)
    have w1 := W0_nw (NW_fr f (by decide) (by decide) (by decide)) hW
    have r1 := RF_nf (NF_fr f (by decide) (by decide)) hR
    have b1 := RB_nb (NB_fr f (by decide) (by decide)) hB
    have s1 := FS_nf (NF_fr f (by decide) (by decide))
    have w2 := W0_nw (NW_z e62 (by decide)) w1
    have r2 := RF_nf (NF_z e62 (by decide)) r1
    have b2 := RB_nb (NB_z e62 (by decide)) b1
    have s2 := FS_nf (NF_z e62 (by decide))
    have yt : (S62.1 31).toInt = (S60.1 31).toInt := by rw [e62]; rfl
    have yl : (S62.1 26).toInt = (S60.1 26).toInt := by rw [e62]; rfl
    have yp : (S62.1 27).toInt = (S60.1 27).toInt := by rw [e62]; rfl
    have ys : (S62.1 25).toInt = (S60.1 25).toInt := by rw [e62]; rfl
    have y32 : (S62.1 32).toInt = (S.1 32).toInt := by rw [e62]; show (S60.1 32).toInt = _; exact congrArg _ (f.1 32 (by decide))
    have ev : ty (q + 1) = ST (ty q).2.2.2.2.2 := g.2.2.1
    refine WKS_f hx1 hF hq (by rw [ho]; decide) w2 (by rw [ev]; exact r2) (by rw [ev]; exact RB_st _ b2 g.1) ?_ (by omega) (by rw [ev]; exact Int.le_refl _) (by omega) (by omega)
    rw [ev]
    show TPd 0 0 S62
    unfold TPd
    omega
  · have x := Fr_q f (by decide)
    have w1 := W0_nw (NW_fr f (by decide) (by decide) (by decide)) hW
    have r1 := RF_nf (NF_fr f (by decide) (by decide)) hR
    have b1 := RB_nb (NB_fr f (by decide) (by decide)) hB
    have s1 := FS_nf (NF_fr f (by decide) (by decide))
    have w2 := W0_nw (NW_z e63 (by decide)) w1
    have r2 := RF_nf (NF_z e63 (by decide)) r1
    have b2 := RB_nb (NB_z e63 (by decide)) b1
    have s2 := FS_nf (NF_z e63 (by decide))
    have yt : (S63.1 31).toInt = (S60.1 31).toInt := by rw [e63]; rfl
    have yl : (S63.1 26).toInt = (S60.1 26).toInt := by rw [e63]; rfl
    have yp : (S63.1 27).toInt = (S60.1 27).toInt := by rw [e63]; rfl
    have ys : (S63.1 25).toInt = (S60.1 25).toInt := by rw [e63]; rfl
    have y32 : S63.1 32 = a1 := by rw [e63]; rfl
    refine WKS_j (F1 := FS S63) hx1 hF hq (by rw [ho]; decide) (RJ_i w2 r2 (RB_st _ b2 g.1) (by rw [y32]; exact gt.1)) (by unfold TPd; omega) (by omega) (by omega) ?_
    rcases gt.2 with k | k
    · exact Or.inr (Or.inl ⟨by omega, by rw [y32]; exact k⟩)
    · exact Or.inr (Or.inr (Or.inl (by rw [y32]; exact k.2)))
