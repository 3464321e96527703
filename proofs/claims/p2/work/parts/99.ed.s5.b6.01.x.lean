
set_option maxHeartbeats 1000000 in
theorem wk_24 {hx : Nat} {cd nt nw na : Int} {ty : Nat → T6} {P : mS} {q : Nat} {a0 a1 a2 : Int32} {S : mS} (hx1 : hx ≤ 1) (hF : FWt hx cd nt nw na ty P) (hG : CE ((P.2.1 7))) (hnow : (S.1 5).toInt = hx) (hq : 12000 * hx ≤ q ∧ (q : Int) < cd) (e0 : a0 = (P.2.1 12) q) (e1 : a1 = (P.2.1 13) q) (e2 : a2 = (P.2.1 14) q) (hp : (S.1 32).toInt = q + 1) (hc : 0 ≤ (S.1 24).toInt) (hW : W0 hx cd nt nw ty P S) (hR : RF hx nt nw P (ty q).2.2.2.2.2 S) (hB : RB hx cd ty (ty q) S) (hT : TPd (ty q).1 (ty q).2.1 S) (c : a0 = 24) : wp_letterNode a1 S (fun S1 => WKS hx cd nt nw ty P (MV P q (FS S) (S.1 26).toInt) S1) := by
  have ok := hF.2.2.1 q hq.1 hq.2
  have fb := FW_b hF
  have hfs := FS_b hR
  have rbb := RB_b hB
  have tt9 := RB_t hW hB
  have bp : 0 ≤ (S.1 27).toInt ∧ (S.1 27).toInt ≤ (S.1 25).toInt := by
    unfold TPd at hT
    omega
  unfold TPd at hT
  obtain ⟨t1, t2, t3, t4, t5, t6, t7⟩ := hT
  have ho : (P.2.1 12) q = 24 := e0.symm.trans c
  have g := ok.2.2.2.2.2.2.2.2.2.2.2.2.2.2.2.2.1 (by rw [ho]; decide)
  have nb2 := RB_nb2 hB g.1 g.2.1
  have nb0 := hW.2.1.1
  have nst := W0_st hW
  have gk := g.2.2.2.2
  refine fm_letterNode _ _ _ _ (fun S2 f p => ?_) (sg_letterNode (tu := ty q) (tv := ty (q + 1)) (tr := (ty q).2.2.2.2.2) a1 (by rw [e1]; exact ⟨g.2.2.1, g.2.2.2.1⟩) ⟨by omega, by omega, by omega, by omega⟩ hW hR hB g.1 g.2.1 ⟨gk.2.2.2.1, gk.2.2.2.2.1, gk.2.2.2.2.2.1, gk.2.2.2.2.2.2⟩)
  have e25 : (S2.1 25).toInt = (S.1 25).toInt := congrArg _ (f.1 25 (by decide))
  have e26 : (S2.1 26).toInt = (S.1 26).toInt := congrArg _ (f.1 26 (by decide))
  have e27 : (S2.1 27).toInt = (S.1 27).toInt := congrArg _ (f.1 27 (by decide))
  have e31 : (S2.1 31).toInt = (S.1 31).toInt := congrArg _ (f.1 31 (by decide))
  have e32 : (S2.1 32).toInt = (S.1 32).toInt := congrArg _ (f.1 32 (by decide))
  have s2 := FS_nf (NF_fr f (by decide) (by decide))
  refine FWN (a := (ty q).1) hx1 hF hq (by rw [ho]; decide) gk p.2.1 p.2.2.1 p.2.2.2 (by omega) (by omega) e26 ?_
  unfold TPd
  omega
set_option maxHeartbeats 1000000 in
theorem wk_25 {hx : Nat} {cd nt nw na : Int} {ty : Nat → T6} {P : mS} {q : Nat} {a0 a1 a2 : Int32} {S : mS} (hx1 : hx ≤ 1) (hF : FWt hx cd nt nw na ty P) (hG : CE ((P.2.1 7))) (hnow : (S.1 5).toInt = hx) (hq : 12000 * hx ≤ q ∧ (q : Int) < cd) (e0 : a0 = (P.2.1 12) q) (e1 : a1 = (P.2.1 13) q) (e2 : a2 = (P.2.1 14) q) (hp : (S.1 32).toInt = q + 1) (hc : 0 ≤ (S.1 24).toInt) (hW : W0 hx cd nt nw ty P S) (hR : RF hx nt nw P (ty q).2.2.2.2.2 S) (hB : RB hx cd ty (ty q) S) (hT : TPd (ty q).1 (ty q).2.1 S) (c : a0 = 25) : wp_pop S (fun (S4 : mS) (r4 : Int32) => wp_tickNode r4 S4 (fun (S5 : mS) => WKS hx cd nt nw ty P (MV P q (FS S) (S.1 26).toInt) S5)) := by
  have ok := hF.2.2.1 q hq.1 hq.2
  have fb := FW_b hF
  have hfs := FS_b hR
  have rbb := RB_b hB
  have tt9 := RB_t hW hB
  have bp : 0 ≤ (S.1 27).toInt ∧ (S.1 27).toInt ≤ (S.1 25).toInt := by
    unfold TPd at hT
    omega
  unfold TPd at hT
  obtain ⟨t1, t2, t3, t4, t5, t6, t7⟩ := hT
  have ho : (P.2.1 12) q = 25 := e0.symm.trans c
  have g := ok.2.2.2.2.2.2.2.2.2.2.2.2.2.2.2.2.2.1 (by rw [ho]; decide)
  have nb2 := RB_nb2 hB g.1 g.2.1
  have nb0 := hW.2.1.1
  have nst := W0_st hW
  have gk := g.2.2.2
  have g1 := g.2.2.1
  refine fm_pop _ _ _ (fun S4 r4 f4 p4 => ?_) (sg_pop ⟨by omega, by omega⟩)
  have x4 := Fr_q f4 (by decide)
  have w4 := W0_nw (NW_fr f4 (by decide) (by decide) (by decide)) hW
  have r4_ := RF_nf (NF_fr f4 (by decide) (by decide)) hR
  have b4 := RB_nb (NB_fr f4 (by decide) (by decide)) hB
  have s4 := FS_nf (NF_fr f4 (by decide) (by decide))
  have z4 := fun k h => congrArg Int32.toInt (f4.1 k h)
  have up4 := RB_up w4 b4 g.1
  refine fm_tickNode _ _ _ _ (fun S5 f p => ?_) (sg_tickNode r4 (by rw [f4.1 24 (by decide)]; exact hc) (by rw [f4.1 29 (by decide)]; omega) w4 ⟨b4.1.1, b4.1.2.1⟩ up4.1 up4.2)
  obtain ⟨p1, ⟨st, nb⟩, w5⟩ := p
  have e25 : (S5.1 25).toInt = (S4.1 25).toInt := congrArg _ (f.1 25 (by decide))
  have e26 : (S5.1 26).toInt = (S4.1 26).toInt := congrArg _ (f.1 26 (by decide))
  have e27 : (S5.1 27).toInt = (S4.1 27).toInt := congrArg _ (f.1 27 (by decide))
  have e31 : (S5.1 31).toInt = (S4.1 31).toInt := congrArg _ (f.1 31 (by decide))
  have e32 : (S5.1 32).toInt = (S4.1 32).toInt := congrArg _ (f.1 32 (by decide))
  have x32 := z4 32 (by decide)
  have s5 := FS_nf (NF_fr f (by decide) (by decide))
  refine FWN (a := (ty q).1 - 1) hx1 hF hq (by rw [ho]; decide) gk w5 (RF_nf (NF_fr f (by decide) (by decide)) r4_) (RB_lf b4 g.1 g.2.1 ⟨gk.2.2.2.1, gk.2.2.2.2.1, gk.2.2.2.2.2.1, gk.2.2.2.2.2.2⟩ nb f (by decide)) (by omega) (by omega) (by omega) ?_
  unfold TPd
  omega
set_option maxHeartbeats 1000000 in
theorem wk_26 {hx : Nat} {cd nt nw na : Int} {ty : Nat → T6} {P : mS} {q : Nat} {a0 a1 a2 : Int32} {S : mS} (hx1 : hx ≤ 1) (hF : FWt hx cd nt nw na ty P) (hG : CE ((P.2.1 7))) (hnow : (S.1 5).toInt = hx) (hq : 12000 * hx ≤ q ∧ (q : Int) < cd) (e0 : a0 = (P.2.1 12) q) (e1 : a1 = (P.2.1 13) q) (e2 : a2 = (P.2.1 14) q) (hp : (S.1 32).toInt = q + 1) (hc : 0 ≤ (S.1 24).toInt) (hW : W0 hx cd nt nw ty P S) (hR : RF hx nt nw P (ty q).2.2.2.2.2 S) (hB : RB hx cd ty (ty q) S) (hT : TPd (ty q).1 (ty q).2.1 S) (c : a0 = 26) : wp_newNode 5 1 0 S (fun (S7 : mS) (r7 : Int32) => WKS hx cd nt nw ty P (MV P q (FS S) (S.1 26).toInt) S7) := by
  have ok := hF.2.2.1 q hq.1 hq.2
  have fb := FW_b hF
  have hfs := FS_b hR
  have rbb := RB_b hB
  have tt9 := RB_t hW hB
  have bp : 0 ≤ (S.1 27).toInt ∧ (S.1 27).toInt ≤ (S.1 25).toInt := by
    unfold TPd at hT
    omega
  unfold TPd at hT
  obtain ⟨t1, t2, t3, t4, t5, t6, t7⟩ := hT
  have ho : (P.2.1 12) q = 26 := e0.symm.trans c
  have g := ok.2.2.2.2.2.2.2.2.2.2.2.2.2.2.2.2.2.2.1 (by rw [ho]; decide)
  have nb2 := RB_nb2 hB g.1 g.2.1
  have nb0 := hW.2.1.1
  have nst := W0_st hW
  have gk := g.2.2
  refine fm_newNode _ _ _ _ _ _ (fun S7 r7 f p => ?_) (sp_newNode 5 1 0 ⟨by omega, by omega⟩ nst)
  have lf := LEAF (v := ty (q + 1)) hW hB g.1 g.2.1 ⟨gk.2.2.2.1, gk.2.2.2.2.1, gk.2.2.2.2.2.1, gk.2.2.2.2.2.2⟩ p.1 p.2.1 f (by decide) (by decide) (by decide)
  have e25 : (S7.1 25).toInt = (S.1 25).toInt := congrArg _ (f.1 25 (by decide))
  have e26 : (S7.1 26).toInt = (S.1 26).toInt := congrArg _ (f.1 26 (by decide))
  have e27 : (S7.1 27).toInt = (S.1 27).toInt := congrArg _ (f.1 27 (by decide))
  have e31 : (S7.1 31).toInt = (S.1 31).toInt := congrArg _ (f.1 31 (by decide))
  have e32 : (S7.1 32).toInt = (S.1 32).toInt := congrArg _ (f.1 32 (by decide))
  have s7 := FS_nf (NF_fr f (by decide) (by decide))
  refine FWN (a := (ty q).1) hx1 hF hq (by rw [ho]; decide) gk lf.1 (RF_nf (NF_fr f (by decide) (by decide)) hR) lf.2 (by omega) (by omega) e26 ?_
  unfold TPd
  omega
set_option maxHeartbeats 1000000 in
theorem wk_27 {hx : Nat} {cd nt nw na : Int} {ty : Nat → T6} {P : mS} {q : Nat} {a0 a1 a2 : Int32} {S : mS} (hx1 : hx ≤ 1) (hF : FWt hx cd nt nw na ty P) (hG : CE ((P.2.1 7))) (hnow : (S.1 5).toInt = hx) (hq : 12000 * hx ≤ q ∧ (q : Int) < cd) (e0 : a0 = (P.2.1 12) q) (e1 : a1 = (P.2.1 13) q) (e2 : a2 = (P.2.1 14) q) (hp : (S.1 32).toInt = q + 1) (hc : 0 ≤ (S.1 24).toInt) (hW : W0 hx cd nt nw ty P S) (hR : RF hx nt nw P (ty q).2.2.2.2.2 S) (hB : RB hx cd ty (ty q) S) (hT : TPd (ty q).1 (ty q).2.1 S) (c : a0 = 27) : wp_childNode a1 a2 S (fun S1 => WKS hx cd nt nw ty P (MV P q (FS S) (S.1 26).toInt) S1) := by
  have ok := hF.2.2.1 q hq.1 hq.2
  have fb := FW_b hF
  have hfs := FS_b hR
  have rbb := RB_b hB
  have tt9 := RB_t hW hB
  have bp : 0 ≤ (S.1 27).toInt ∧ (S.1 27).toInt ≤ (S.1 25).toInt := by
    unfold TPd at hT
    omega
  unfold TPd at hT
  obtain ⟨t1, t2, t3, t4, t5, t6, t7⟩ := hT
  have ho : (P.2.1 12) q = 27 := e0.symm.trans c
  have g := ok.2.2.2.2.2.2.2.2.2.2.2.2.2.2.2.2.2.2.2.1 (by rw [ho]; decide)
  have nb2 := RB_nb2 hB g.1 g.2.1
  have nb0 := hW.2.1.1
  have nst := W0_st hW
  have gk := g.2.2.2.2.1
  have gc := g.2.2.2.2.2
  rw [← e1, ← e2] at gc
  have g2 := g.2.2.1
  have g3 := g.2.2.2.1
  rw [← e2] at g2 g3
  have hm : a2.toInt ≤ 12 := by
    rw [← gc.2.2]
    exact (hG (12 * hx + ix a1) (by unfold ix; omega)).2
  have rw9 := RWX_200 hW.2.2.1.2.1 (by omega)
  refine fm_childNode _ _ _ _ _ (fun S9 f p => ?_) (sg_childNode (tu := ty q) (tv := ty (q + 1)) (tr := (ty q).2.2.2.2.2) a1 a2 hx1 ⟨g2, hm, by omega, by omega⟩ ⟨gc.1, by omega⟩ ⟨by omega, by omega, by omega, by omega⟩ ⟨by omega, by omega, rw9.1, rw9.2, by omega, by omega, by omega, by omega⟩ hF hW hR hB g.1 g.2.1 ⟨gk.2.2.2.1, gk.2.2.2.2.1, gk.2.2.2.2.2.1, gk.2.2.2.2.2.2⟩ rfl gc.2.1 hnow)
  have e25 : (S9.1 25).toInt = (S.1 25).toInt := congrArg _ (f.1 25 (by decide))
  have e26 : (S9.1 26).toInt = (S.1 26).toInt := congrArg _ (f.1 26 (by decide))
  have e27 : (S9.1 27).toInt = (S.1 27).toInt := congrArg _ (f.1 27 (by decide))
  rcases p.2 with o | o
  · exact WKS_e o (by unfold BNp; omega)
  · obtain ⟨⟨o1, o2, o3⟩, o4, o5, o6⟩ := o
    have e32 : (S9.1 32).toInt = (S.1 32).toInt := congrArg _ o4
    have gk2 := gk
    rw [← e2] at gk2
    refine FWN (a := ((ty q).1 - a2.toInt)) hx1 hF hq (by rw [ho]; decide) gk2 o1 o2 o3 (by omega) (by omega) e26 ?_
    unfold TPd
    omega
