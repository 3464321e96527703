
set_option maxHeartbeats 1000000 in
theorem wk_4 {hx : Nat} {cd nt nw na : Int} {ty : Nat → T6} {P : mS} {q : Nat} {a0 a1 a2 : Int32} {S : mS} (hx1 : hx ≤ 1) (hF : FWt hx cd nt nw na ty P) (hG : CE ((P.2.1 7))) (hnow : (S.1 5).toInt = hx) (hq : 12000 * hx ≤ q ∧ (q : Int) < cd) (e0 : a0 = (P.2.1 12) q) (e1 : a1 = (P.2.1 13) q) (e2 : a2 = (P.2.1 14) q) (hp : (S.1 32).toInt = q + 1) (hc : 0 ≤ (S.1 24).toInt) (hW : W0 hx cd nt nw ty P S) (hR : RF hx nt nw P (ty q).2.2.2.2.2 S) (hB : RB hx cd ty (ty q) S) (hT : TPd (ty q).1 (ty q).2.1 S) (c : a0 = 4) : wp_reckons a0 a1 S (fun S1 => WKS hx cd nt nw ty P (MV P q (FS S) (S.1 26).toInt) S1) := by
  have ok := hF.2.2.1 q hq.1 hq.2
  have fb := FW_b hF
  have hfs := FS_b hR
  have rbb := RB_b hB
  have tt9 := RB_t hW hB
  have bp : 0 ≤ (S.1 27).toInt ∧ (S.1 27).toInt ≤ (S.1 25).toInt := by
    unfold TPd at hT
    omega
  unfold TPd at hT
  obtain ⟨t1, t2, t3, t4, t5, t6, t7⟩ := hT
  have ho : (P.2.1 12) q = 4 := e0.symm.trans c
  have g := ok.2.2.2.2.1 (by rw [ho]; decide)
  have g0 := g.1
  have rk : RKD a0 = 1 := by rw [c]; decide
  refine fm_reckons _ _ _ _ _ (fun S9 f p => ?_) (sg_reckons (tu := ty q) (tr := (ty q).2.2.2.2.2) a0 a1 hx1 tt9 (by rw [c]; decide) (fun h => absurd h (by rw [c]; decide)) ⟨by omega, by omega, fun h => absurd h (by rw [c]; decide), fun h => absurd h (by rw [c]; decide)⟩ hF hW hR hB rfl)
  have e25 : (S9.1 25).toInt = (S.1 25).toInt := congrArg _ (f.1 25 (by decide))
  have e26 : (S9.1 26).toInt = (S.1 26).toInt := congrArg _ (f.1 26 (by decide))
  have e27 : (S9.1 27).toInt = (S.1 27).toInt := congrArg _ (f.1 27 (by decide))
  rcases p with p | p
  · have e32 : (S9.1 32).toInt = (S.1 32).toInt := congrArg _ (p.1.1 32 (by decide))
    have e31 := p.2
    rw [rk] at e31
    have s9 := FS_nf (NF_fr p.1 (by decide) (by decide))
    refine FWD (a := (ty q).1 + 1) hx1 hF hq (by rw [ho]; decide) g.2.1 (W0_nw (NW_fr p.1 (by decide) (by decide) (by decide)) hW) (RF_nf (NF_fr p.1 (by decide) (by decide)) hR) (RB_nb (NB_fr p.1 (by decide) (by decide)) hB) (by omega) (by omega) e26 ?_
    unfold TPd
    omega
  · exact absurd p.1 (by rw [c]; decide)
set_option maxHeartbeats 1000000 in
theorem wk_5 {hx : Nat} {cd nt nw na : Int} {ty : Nat → T6} {P : mS} {q : Nat} {a0 a1 a2 : Int32} {S : mS} (hx1 : hx ≤ 1) (hF : FWt hx cd nt nw na ty P) (hG : CE ((P.2.1 7))) (hnow : (S.1 5).toInt = hx) (hq : 12000 * hx ≤ q ∧ (q : Int) < cd) (e0 : a0 = (P.2.1 12) q) (e1 : a1 = (P.2.1 13) q) (e2 : a2 = (P.2.1 14) q) (hp : (S.1 32).toInt = q + 1) (hc : 0 ≤ (S.1 24).toInt) (hW : W0 hx cd nt nw ty P S) (hR : RF hx nt nw P (ty q).2.2.2.2.2 S) (hB : RB hx cd ty (ty q) S) (hT : TPd (ty q).1 (ty q).2.1 S) (c : a0 = 5) : wp_reckons a0 a1 S (fun S1 => WKS hx cd nt nw ty P (MV P q (FS S) (S.1 26).toInt) S1) := by
  have ok := hF.2.2.1 q hq.1 hq.2
  have fb := FW_b hF
  have hfs := FS_b hR
  have rbb := RB_b hB
  have tt9 := RB_t hW hB
  have bp : 0 ≤ (S.1 27).toInt ∧ (S.1 27).toInt ≤ (S.1 25).toInt := by
    unfold TPd at hT
    omega
  unfold TPd at hT
  obtain ⟨t1, t2, t3, t4, t5, t6, t7⟩ := hT
  have ho : (P.2.1 12) q = 5 := e0.symm.trans c
  have g := ok.2.2.2.2.2.1 (by rw [ho]; decide)
  have g0 := g.1
  have rk : RKD a0 = 0 := by rw [c]; decide
  refine fm_reckons _ _ _ _ _ (fun S9 f p => ?_) (sg_reckons (tu := ty q) (tr := (ty q).2.2.2.2.2) a0 a1 hx1 tt9 (by rw [c]; decide) (fun h => absurd h (by rw [c]; decide)) ⟨by omega, by omega, fun _ => by omega, fun h => absurd h (by rw [c]; decide)⟩ hF hW hR hB rfl)
  have e25 : (S9.1 25).toInt = (S.1 25).toInt := congrArg _ (f.1 25 (by decide))
  have e26 : (S9.1 26).toInt = (S.1 26).toInt := congrArg _ (f.1 26 (by decide))
  have e27 : (S9.1 27).toInt = (S.1 27).toInt := congrArg _ (f.1 27 (by decide))
  rcases p with p | p
  · have e32 : (S9.1 32).toInt = (S.1 32).toInt := congrArg _ (p.1.1 32 (by decide))
    have e31 := p.2
    rw [rk] at e31
    have s9 := FS_nf (NF_fr p.1 (by decide) (by decide))
    refine FWD (a := (ty q).1) hx1 hF hq (by rw [ho]; decide) g.2 (W0_nw (NW_fr p.1 (by decide) (by decide) (by decide)) hW) (RF_nf (NF_fr p.1 (by decide) (by decide)) hR) (RB_nb (NB_fr p.1 (by decide) (by decide)) hB) (by omega) (by omega) e26 ?_
    unfold TPd
    omega
  · exact absurd p.1 (by rw [c]; decide)
set_option maxHeartbeats 1000000 in
theorem wk_6 {hx : Nat} {cd nt nw na : Int} {ty : Nat → T6} {P : mS} {q : Nat} {a0 a1 a2 : Int32} {S : mS} (hx1 : hx ≤ 1) (hF : FWt hx cd nt nw na ty P) (hG : CE ((P.2.1 7))) (hnow : (S.1 5).toInt = hx) (hq : 12000 * hx ≤ q ∧ (q : Int) < cd) (e0 : a0 = (P.2.1 12) q) (e1 : a1 = (P.2.1 13) q) (e2 : a2 = (P.2.1 14) q) (hp : (S.1 32).toInt = q + 1) (hc : 0 ≤ (S.1 24).toInt) (hW : W0 hx cd nt nw ty P S) (hR : RF hx nt nw P (ty q).2.2.2.2.2 S) (hB : RB hx cd ty (ty q) S) (hT : TPd (ty q).1 (ty q).2.1 S) (c : a0 = 6) : wp_reckons a0 a1 S (fun S1 => WKS hx cd nt nw ty P (MV P q (FS S) (S.1 26).toInt) S1) := by
  have ok := hF.2.2.1 q hq.1 hq.2
  have fb := FW_b hF
  have hfs := FS_b hR
  have rbb := RB_b hB
  have tt9 := RB_t hW hB
  have bp : 0 ≤ (S.1 27).toInt ∧ (S.1 27).toInt ≤ (S.1 25).toInt := by
    unfold TPd at hT
    omega
  unfold TPd at hT
  obtain ⟨t1, t2, t3, t4, t5, t6, t7⟩ := hT
  have ho : (P.2.1 12) q = 6 := e0.symm.trans c
  have g := ok.2.2.2.2.2.2.1 (by rw [ho]; decide)
  have g0 := g.1
  have rk : RKD a0 = -1 := by rw [c]; decide
  refine fm_reckons _ _ _ _ _ (fun S9 f p => ?_) (sg_reckons (tu := ty q) (tr := (ty q).2.2.2.2.2) a0 a1 hx1 tt9 (by rw [c]; decide) (fun h => absurd h (by rw [c]; decide)) ⟨by omega, by omega, fun h => absurd h (by rw [c]; decide), fun _ => by omega⟩ hF hW hR hB rfl)
  have e25 : (S9.1 25).toInt = (S.1 25).toInt := congrArg _ (f.1 25 (by decide))
  have e26 : (S9.1 26).toInt = (S.1 26).toInt := congrArg _ (f.1 26 (by decide))
  have e27 : (S9.1 27).toInt = (S.1 27).toInt := congrArg _ (f.1 27 (by decide))
  rcases p with p | p
  · have e32 : (S9.1 32).toInt = (S.1 32).toInt := congrArg _ (p.1.1 32 (by decide))
    have e31 := p.2
    rw [rk] at e31
    have s9 := FS_nf (NF_fr p.1 (by decide) (by decide))
    refine FWD (a := (ty q).1 - 1) hx1 hF hq (by rw [ho]; decide) g.2 (W0_nw (NW_fr p.1 (by decide) (by decide) (by decide)) hW) (RF_nf (NF_fr p.1 (by decide) (by decide)) hR) (RB_nb (NB_fr p.1 (by decide) (by decide)) hB) (by omega) (by omega) e26 ?_
    unfold TPd
    omega
  · rcases hB.2.2.2.2.1 with i | i
    · have o := p.2.2.2 i
      rcases o with o | o
      · exact WKS_e o (by unfold BNp; omega)
      · exact WKS_j hx1 hF hq (by rw [ho]; decide) o (by unfold TPd; omega) e26 (by omega) (Or.inl (by omega))
    · exact WKS_e (p.2.2.1 i) (by unfold BNp; omega)
set_option maxHeartbeats 1000000 in
theorem wk_7 {hx : Nat} {cd nt nw na : Int} {ty : Nat → T6} {P : mS} {q : Nat} {a0 a1 a2 : Int32} {S : mS} (hx1 : hx ≤ 1) (hF : FWt hx cd nt nw na ty P) (hG : CE ((P.2.1 7))) (hnow : (S.1 5).toInt = hx) (hq : 12000 * hx ≤ q ∧ (q : Int) < cd) (e0 : a0 = (P.2.1 12) q) (e1 : a1 = (P.2.1 13) q) (e2 : a2 = (P.2.1 14) q) (hp : (S.1 32).toInt = q + 1) (hc : 0 ≤ (S.1 24).toInt) (hW : W0 hx cd nt nw ty P S) (hR : RF hx nt nw P (ty q).2.2.2.2.2 S) (hB : RB hx cd ty (ty q) S) (hT : TPd (ty q).1 (ty q).2.1 S) (c : a0 = 7) : wp_reckons a0 a1 S (fun S1 => WKS hx cd nt nw ty P (MV P q (FS S) (S.1 26).toInt) S1) := by
  have ok := hF.2.2.1 q hq.1 hq.2
  have fb := FW_b hF
  have hfs := FS_b hR
  have rbb := RB_b hB
  have tt9 := RB_t hW hB
  have bp : 0 ≤ (S.1 27).toInt ∧ (S.1 27).toInt ≤ (S.1 25).toInt := by
    unfold TPd at hT
    omega
  unfold TPd at hT
  obtain ⟨t1, t2, t3, t4, t5, t6, t7⟩ := hT
  have ho : (P.2.1 12) q = 7 := e0.symm.trans c
  have g := ok.2.2.2.2.2.2.1 (by rw [ho]; decide)
  have g0 := g.1
  have rk : RKD a0 = -1 := by rw [c]; decide
  refine fm_reckons _ _ _ _ _ (fun S9 f p => ?_) (sg_reckons (tu := ty q) (tr := (ty q).2.2.2.2.2) a0 a1 hx1 tt9 (by rw [c]; decide) (fun h => absurd h (by rw [c]; decide)) ⟨by omega, by omega, fun h => absurd h (by rw [c]; decide), fun _ => by omega⟩ hF hW hR hB rfl)
  have e25 : (S9.1 25).toInt = (S.1 25).toInt := congrArg _ (f.1 25 (by decide))
  have e26 : (S9.1 26).toInt = (S.1 26).toInt := congrArg _ (f.1 26 (by decide))
  have e27 : (S9.1 27).toInt = (S.1 27).toInt := congrArg _ (f.1 27 (by decide))
  rcases p with p | p
  · have e32 : (S9.1 32).toInt = (S.1 32).toInt := congrArg _ (p.1.1 32 (by decide))
    have e31 := p.2
    rw [rk] at e31
    have s9 := FS_nf (NF_fr p.1 (by decide) (by decide))
    refine FWD (a := (ty q).1 - 1) hx1 hF hq (by rw [ho]; decide) g.2 (W0_nw (NW_fr p.1 (by decide) (by decide) (by decide)) hW) (RF_nf (NF_fr p.1 (by decide) (by decide)) hR) (RB_nb (NB_fr p.1 (by decide) (by decide)) hB) (by omega) (by omega) e26 ?_
    unfold TPd
    omega
  · rcases hB.2.2.2.2.1 with i | i
    · have o := p.2.2.2 i
      rcases o with o | o
      · exact WKS_e o (by unfold BNp; omega)
      · exact WKS_j hx1 hF hq (by rw [ho]; decide) o (by unfold TPd; omega) e26 (by omega) (Or.inl (by omega))
    · exact WKS_e (p.2.2.1 i) (by unfold BNp; omega)
