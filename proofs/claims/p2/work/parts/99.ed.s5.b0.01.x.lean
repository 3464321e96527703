
set_option maxHeartbeats 1000000 in
theorem wk_0 {hx : Nat} {cd nt nw na : Int} {ty : Nat → T6} {P : mS} {q : Nat} {a0 a1 a2 : Int32} {S : mS} (hx1 : hx ≤ 1) (hF : FWt hx cd nt nw na ty P) (hG : CE ((P.2.1 7))) (hnow : (S.1 5).toInt = hx) (hq : 12000 * hx ≤ q ∧ (q : Int) < cd) (e0 : a0 = (P.2.1 12) q) (e1 : a1 = (P.2.1 13) q) (e2 : a2 = (P.2.1 14) q) (hp : (S.1 32).toInt = q + 1) (hc : 0 ≤ (S.1 24).toInt) (hW : W0 hx cd nt nw ty P S) (hR : RF hx nt nw P (ty q).2.2.2.2.2 S) (hB : RB hx cd ty (ty q) S) (hT : TPd (ty q).1 (ty q).2.1 S) (c : a0 = 0) : wq_ends (S.1 33) 0 0 S (fun S1 => WKS hx cd nt nw ty P (MV P q (FS S) (S.1 26).toInt) S1) := by
  have ok := hF.2.2.1 q hq.1 hq.2
  have fb := FW_b hF
  have hfs := FS_b hR
  have rbb := RB_b hB
  have tt9 := RB_t hW hB
  have bp : 0 ≤ (S.1 27).toInt ∧ (S.1 27).toInt ≤ (S.1 25).toInt := by
    unfold TPd at hT
    omega
  unfold TPd at hT
  obtain ⟨t1, t2, t3, t4, t5, t6, t7⟩ := hT
  have ho : (P.2.1 12) q = 0 := e0.symm.trans c
  have g := ok.2.2.1 (by rw [ho]; decide)
  refine fq_ends _ _ _ _ _ _ (fun S2 f p => WKS_e p.2 (by unfold BNp; rw [f.1 27 (by decide), f.1 25 (by decide)]; exact bp)) (sr_ends (u := ty q) _ _ _ rfl hW hB)
set_option maxHeartbeats 1000000 in
theorem wk_1 {hx : Nat} {cd nt nw na : Int} {ty : Nat → T6} {P : mS} {q : Nat} {a0 a1 a2 : Int32} {S : mS} (hx1 : hx ≤ 1) (hF : FWt hx cd nt nw na ty P) (hG : CE ((P.2.1 7))) (hnow : (S.1 5).toInt = hx) (hq : 12000 * hx ≤ q ∧ (q : Int) < cd) (e0 : a0 = (P.2.1 12) q) (e1 : a1 = (P.2.1 13) q) (e2 : a2 = (P.2.1 14) q) (hp : (S.1 32).toInt = q + 1) (hc : 0 ≤ (S.1 24).toInt) (hW : W0 hx cd nt nw ty P S) (hR : RF hx nt nw P (ty q).2.2.2.2.2 S) (hB : RB hx cd ty (ty q) S) (hT : TPd (ty q).1 (ty q).2.1 S) (c : a0 = 1) : wp_step S (fun (S4 : mS) (r4 : Int32) => ((¬ r4 = 0 → WKS hx cd nt nw ty P (MV P q (FS S) (S.1 26).toInt) S4) ∧ (r4 = 0 → wp_spent S4 (fun (S6 : mS) => WKS hx cd nt nw ty P (MV P q (FS S) (S.1 26).toInt) S6)))) := by
  have ok := hF.2.2.1 q hq.1 hq.2
  have fb := FW_b hF
  have hfs := FS_b hR
  have rbb := RB_b hB
  have tt9 := RB_t hW hB
  have bp : 0 ≤ (S.1 27).toInt ∧ (S.1 27).toInt ≤ (S.1 25).toInt := by
    unfold TPd at hT
    omega
  unfold TPd at hT
  obtain ⟨t1, t2, t3, t4, t5, t6, t7⟩ := hT
  have ho : (P.2.1 12) q = 1 := e0.symm.trans c
  have g := ok.2.2.2.1 (by rw [ho]; decide)
  refine fm_step _ _ _ (fun S4 r4 f p => ⟨fun h => ?_, fun h => ?_⟩) (sg_step ⟨by omega, by omega⟩ ⟨by omega, by omega⟩)
  · rcases p with p | p
    · exact absurd p.1 h
    · have k1 : (ty (q + 1)).1 = (ty q).1 := g.2.1
      have k0 : 0 ≤ (ty (q + 1)).1 := g.1
      have k2 : (ty (q + 1)).2.1 ≤ 1 := g.2.2.1
      have k6 : (ty (q + 1)).2.2.2.2.2 = (ty q).2.2.2.2.2 := g.2.2.2.2.2.2
      have e31 : (S4.1 31).toInt = (S.1 31).toInt := congrArg _ (f.1 31 (by decide))
      have e27 : (S4.1 27).toInt = (S.1 27).toInt := congrArg _ (f.1 27 (by decide))
      have e32 : (S4.1 32).toInt = (S.1 32).toInt := congrArg _ (f.1 32 (by decide))
      have pl := p.2.1
      have ps := p.2.2.1
      refine WKS_s hx1 hF hq ho (W0_nw (NW_fr f (by decide) (by decide) (by decide)) hW) (by rw [k6]; exact RF_nf (NF_fr f (by decide) (by decide)) hR) (RB_step hB ⟨g.2.2.2.1, g.2.2.2.2.1, g.2.2.2.2.2.1, g.2.2.2.2.2.2⟩ p.2.1 p.2.2.1 (fun k hk => f.1 k (by revert hk; revert k; decide)) p.2.2.2) ?_ (by omega) pl.1
      unfold TPd
      omega
  · rcases p with p | p
    · obtain ⟨_, p⟩ := p
      subst p
      exact fm_spent _ _ _ (fun S6 f p => WKS_e p.2 (by unfold BNp; rw [f.1 27 (by decide), f.1 25 (by decide)]; exact bp)) (sg_spent (u := ty q) hW hB)
    · exact absurd h p.1
set_option maxHeartbeats 1000000 in
theorem wk_2 {hx : Nat} {cd nt nw na : Int} {ty : Nat → T6} {P : mS} {q : Nat} {a0 a1 a2 : Int32} {S : mS} (hx1 : hx ≤ 1) (hF : FWt hx cd nt nw na ty P) (hG : CE ((P.2.1 7))) (hnow : (S.1 5).toInt = hx) (hq : 12000 * hx ≤ q ∧ (q : Int) < cd) (e0 : a0 = (P.2.1 12) q) (e1 : a1 = (P.2.1 13) q) (e2 : a2 = (P.2.1 14) q) (hp : (S.1 32).toInt = q + 1) (hc : 0 ≤ (S.1 24).toInt) (hW : W0 hx cd nt nw ty P S) (hR : RF hx nt nw P (ty q).2.2.2.2.2 S) (hB : RB hx cd ty (ty q) S) (hT : TPd (ty q).1 (ty q).2.1 S) (c : a0 = 2) : wp_reckons a0 a1 S (fun S1 => WKS hx cd nt nw ty P (MV P q (FS S) (S.1 26).toInt) S1) := by
  have ok := hF.2.2.1 q hq.1 hq.2
  have fb := FW_b hF
  have hfs := FS_b hR
  have rbb := RB_b hB
  have tt9 := RB_t hW hB
  have bp : 0 ≤ (S.1 27).toInt ∧ (S.1 27).toInt ≤ (S.1 25).toInt := by
    unfold TPd at hT
    omega
  unfold TPd at hT
  obtain ⟨t1, t2, t3, t4, t5, t6, t7⟩ := hT
  have ho : (P.2.1 12) q = 2 := e0.symm.trans c
  have g := ok.2.2.2.2.1 (by rw [ho]; decide)
  have g0 := g.1
  have rk : RKD a0 = 1 := by rw [c]; decide
  refine fm_reckons _ _ _ _ _ (fun S9 f p => ?_) (sg_reckons (tu := ty q) (tr := (ty q).2.2.2.2.2) a0 a1 hx1 tt9 (by rw [c]; decide) (fun h => absurd h (by rw [c]; decide)) ⟨by omega, by omega, fun h => absurd h (by rw [c]; decide), fun h => absurd h (by rw [c]; decide)⟩ hF hW hR hB rfl)
  have e25 : (S9.1 25).toInt = (S.1 25).toInt := congrArg _ (f.1 25 (by decide))
  have e26 : (S9.1 26).toInt = (S.1 26).toInt := congrArg _ (f.1 26 (by decide))
  have e27 : (S9.1 27).toInt = (S.1 27).toInt := congrArg _ (f.1 27 (by decide))
  rcases p with p | p
  · have e32 : (S9.1 32).toInt = (S.1 32).toInt := congrArg _ (p.1.1 32 (by decide))
    have e31 := p.2
    rw [rk] at e31
    have s9 := FS_nf (NF_fr p.1 (by decide) (by decide))
    refine FWD (a := (ty q).1 + 1) hx1 hF hq (by rw [ho]; decide) g.2.1 (W0_nw (NW_fr p.1 (by decide) (by decide) (by decide)) hW) (RF_nf (NF_fr p.1 (by decide) (by decide)) hR) (RB_nb (NB_fr p.1 (by decide) (by decide)) hB) (by omega) (by omega) e26 ?_
    unfold TPd
    omega
  · exact absurd p.1 (by rw [c]; decide)
set_option maxHeartbeats 1000000 in
theorem wk_3 {hx : Nat} {cd nt nw na : Int} {ty : Nat → T6} {P : mS} {q : Nat} {a0 a1 a2 : Int32} {S : mS} (hx1 : hx ≤ 1) (hF : FWt hx cd nt nw na ty P) (hG : CE ((P.2.1 7))) (hnow : (S.1 5).toInt = hx) (hq : 12000 * hx ≤ q ∧ (q : Int) < cd) (e0 : a0 = (P.2.1 12) q) (e1 : a1 = (P.2.1 13) q) (e2 : a2 = (P.2.1 14) q) (hp : (S.1 32).toInt = q + 1) (hc : 0 ≤ (S.1 24).toInt) (hW : W0 hx cd nt nw ty P S) (hR : RF hx nt nw P (ty q).2.2.2.2.2 S) (hB : RB hx cd ty (ty q) S) (hT : TPd (ty q).1 (ty q).2.1 S) (c : a0 = 3) : wp_reckons a0 a1 S (fun S1 => WKS hx cd nt nw ty P (MV P q (FS S) (S.1 26).toInt) S1) := by
  have ok := hF.2.2.1 q hq.1 hq.2
  have fb := FW_b hF
  have hfs := FS_b hR
  have rbb := RB_b hB
  have tt9 := RB_t hW hB
  have bp : 0 ≤ (S.1 27).toInt ∧ (S.1 27).toInt ≤ (S.1 25).toInt := by
    unfold TPd at hT
    omega
  unfold TPd at hT
  obtain ⟨t1, t2, t3, t4, t5, t6, t7⟩ := hT
  have ho : (P.2.1 12) q = 3 := e0.symm.trans c
  have g := ok.2.2.2.2.1 (by rw [ho]; decide)
  have g0 := g.1
  have rk : RKD a0 = 1 := by rw [c]; decide
  refine fm_reckons _ _ _ _ _ (fun S9 f p => ?_) (sg_reckons (tu := ty q) (tr := (ty q).2.2.2.2.2) a0 a1 hx1 tt9 (by rw [c]; decide) (fun _ => by rw [e1]; exact g.2.2 (by rw [ho]; decide)) ⟨by omega, by omega, fun h => absurd h (by rw [c]; decide), fun h => absurd h (by rw [c]; decide)⟩ hF hW hR hB rfl)
  have e25 : (S9.1 25).toInt = (S.1 25).toInt := congrArg _ (f.1 25 (by decide))
  have e26 : (S9.1 26).toInt = (S.1 26).toInt := congrArg _ (f.1 26 (by decide))
  have e27 : (S9.1 27).toInt = (S.1 27).toInt := congrArg _ (f.1 27 (by decide))
  rcases p with p | p
  · have e32 : (S9.1 32).toInt = (S.1 32).toInt := congrArg _ (p.1.1 32 (by decide))
    have e31 := p.2
    rw [rk] at e31
    have s9 := FS_nf (NF_fr p.1 (by decide) (by decide))
    refine FWD (a := (ty q).1 + 1) hx1 hF hq (by rw [ho]; decide) g.2.1 (W0_nw (NW_fr p.1 (by decide) (by decide) (by decide)) hW) (RF_nf (NF_fr p.1 (by decide) (by decide)) hR) (RB_nb (NB_fr p.1 (by decide) (by decide)) hB) (by omega) (by omega) e26 ?_
    unfold TPd
    omega
  · exact absurd p.1 (by rw [c]; decide)
