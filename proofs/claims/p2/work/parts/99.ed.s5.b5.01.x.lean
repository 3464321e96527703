
set_option maxHeartbeats 1000000 in
theorem wk_20 {hx : Nat} {cd nt nw na : Int} {ty : Nat → T6} {P : mS} {q : Nat} {a0 a1 a2 : Int32} {S : mS} (hx1 : hx ≤ 1) (hF : FWt hx cd nt nw na ty P) (hG : CE ((P.2.1 7))) (hnow : (S.1 5).toInt = hx) (hq : 12000 * hx ≤ q ∧ (q : Int) < cd) (e0 : a0 = (P.2.1 12) q) (e1 : a1 = (P.2.1 13) q) (e2 : a2 = (P.2.1 14) q) (hp : (S.1 32).toInt = q + 1) (hc : 0 ≤ (S.1 24).toInt) (hW : W0 hx cd nt nw ty P S) (hR : RF hx nt nw P (ty q).2.2.2.2.2 S) (hB : RB hx cd ty (ty q) S) (hT : TPd (ty q).1 (ty q).2.1 S) (c : a0 = 20) : wp_leave 4 a1 S (fun S1 => WKS hx cd nt nw ty P (MV P q (FS S) (S.1 26).toInt) S1) := by
  have ok := hF.2.2.1 q hq.1 hq.2
  have fb := FW_b hF
  have hfs := FS_b hR
  have rbb := RB_b hB
  have tt9 := RB_t hW hB
  have bp : 0 ≤ (S.1 27).toInt ∧ (S.1 27).toInt ≤ (S.1 25).toInt := by
    unfold TPd at hT
    omega
  unfold TPd at hT
  obtain ⟨t1, t2, t3, t4, t5, t6, t7⟩ := hT
  have ho : (P.2.1 12) q = 20 := e0.symm.trans c
  have g := ok.2.2.2.2.2.2.2.2.2.2.2.2.1 (by rw [ho]; decide)
  have gb := g.2.2
  rw [← e1] at gb
  refine fm_leave _ _ _ _ _ (fun S72 f p => ?_) (sg_leave (F := FS S) 4 a1 hx1 tt9 (Or.inr ⟨Or.inr rfl, gb.1, gb.2.1⟩) hF (RL_i hW hR (RB_st _ hB g.1) (Int.le_refl _) (Or.inr gb.2.2.1)))
  have x := Fr_q f (by decide)
  have x31 : (S72.1 31).toInt = (S.1 31).toInt := congrArg _ (f.1 31 (by decide))
  rcases p.2.1 with o | o
  · exact WKS_e o (by unfold BNp; omega)
  · exact WKS_j hx1 hF hq (by rw [ho]; decide) o (by unfold TPd; omega) (by omega) (by omega) (Or.inr (Or.inr (Or.inr ⟨by rw [ho]; decide, by rw [ho]; decide, by omega⟩)))
set_option maxHeartbeats 1000000 in
theorem wk_21 {hx : Nat} {cd nt nw na : Int} {ty : Nat → T6} {P : mS} {q : Nat} {a0 a1 a2 : Int32} {S : mS} (hx1 : hx ≤ 1) (hF : FWt hx cd nt nw na ty P) (hG : CE ((P.2.1 7))) (hnow : (S.1 5).toInt = hx) (hq : 12000 * hx ≤ q ∧ (q : Int) < cd) (e0 : a0 = (P.2.1 12) q) (e1 : a1 = (P.2.1 13) q) (e2 : a2 = (P.2.1 14) q) (hp : (S.1 32).toInt = q + 1) (hc : 0 ≤ (S.1 24).toInt) (hW : W0 hx cd nt nw ty P S) (hR : RF hx nt nw P (ty q).2.2.2.2.2 S) (hB : RB hx cd ty (ty q) S) (hT : TPd (ty q).1 (ty q).2.1 S) (c : a0 = 21) : wp_enter a1 S (fun S1 => WKS hx cd nt nw ty P (MV P q (FS S) (S.1 26).toInt) S1) := by
  have ok := hF.2.2.1 q hq.1 hq.2
  have fb := FW_b hF
  have hfs := FS_b hR
  have rbb := RB_b hB
  have tt9 := RB_t hW hB
  have bp : 0 ≤ (S.1 27).toInt ∧ (S.1 27).toInt ≤ (S.1 25).toInt := by
    unfold TPd at hT
    omega
  unfold TPd at hT
  obtain ⟨t1, t2, t3, t4, t5, t6, t7⟩ := hT
  have ho : (P.2.1 12) q = 21 := e0.symm.trans c
  have g := ok.2.2.2.2.2.2.2.2.2.2.2.2.2.1 (by rw [ho]; decide)
  have gb := g.2.2.2
  rw [← e1] at gb
  refine fm_enter _ _ _ _ (fun S76 f p => ?_) (sg_enter (u := ty q) (tr := (ty q).2.2.2.2.2) a1 hx1 ⟨gb.1, gb.2.1⟩ hF hW hR hB g.1 gb.2.2.1 gb.2.2.2)
  have x := Fr_q f (by decide)
  have x31 : (S76.1 31).toInt = (S.1 31).toInt := congrArg _ (f.1 31 (by decide))
  have y32 : (S76.1 32).toInt = (S.1 32).toInt := congrArg _ (f.1 32 (by decide))
  have ev : ty (q + 1) = ST a1 := by rw [e1]; exact g.2.2.1
  have i76 : ix (S76.1 32) = q + 1 := by unfold ix; omega
  refine WKS_j (F1 := FS S76) hx1 hF hq (by rw [ho]; decide) (RJ_i p.2.1 p.2.2.1 p.2.2.2.1 ⟨by omega, by omega, by rw [i76]; exact ev⟩) (by unfold TPd; omega) x.2.1 (by omega) (Or.inr (Or.inr (Or.inr ⟨by rw [ho]; decide, by rw [ho]; decide, by have q9 := p.2.2.2.2; omega⟩)))
set_option maxHeartbeats 1000000 in
theorem wk_22 {hx : Nat} {cd nt nw na : Int} {ty : Nat → T6} {P : mS} {q : Nat} {a0 a1 a2 : Int32} {S : mS} (hx1 : hx ≤ 1) (hF : FWt hx cd nt nw na ty P) (hG : CE ((P.2.1 7))) (hnow : (S.1 5).toInt = hx) (hq : 12000 * hx ≤ q ∧ (q : Int) < cd) (e0 : a0 = (P.2.1 12) q) (e1 : a1 = (P.2.1 13) q) (e2 : a2 = (P.2.1 14) q) (hp : (S.1 32).toInt = q + 1) (hc : 0 ≤ (S.1 24).toInt) (hW : W0 hx cd nt nw ty P S) (hR : RF hx nt nw P (ty q).2.2.2.2.2 S) (hB : RB hx cd ty (ty q) S) (hT : TPd (ty q).1 (ty q).2.1 S) (c : a0 = 22) : wp_leavePart a1 S (fun S1 => WKS hx cd nt nw ty P (MV P q (FS S) (S.1 26).toInt) S1) := by
  have ok := hF.2.2.1 q hq.1 hq.2
  have fb := FW_b hF
  have hfs := FS_b hR
  have rbb := RB_b hB
  have tt9 := RB_t hW hB
  have bp : 0 ≤ (S.1 27).toInt ∧ (S.1 27).toInt ≤ (S.1 25).toInt := by
    unfold TPd at hT
    omega
  unfold TPd at hT
  obtain ⟨t1, t2, t3, t4, t5, t6, t7⟩ := hT
  have ho : (P.2.1 12) q = 22 := e0.symm.trans c
  have g := ok.2.2.2.2.2.2.2.2.2.2.2.2.2.2.1 (by rw [ho]; decide)
  have ga := g.2.1
  have gb := g.2.2
  rw [← e1] at ga gb
  refine fm_leavePart _ _ _ _ (fun S78 f p => ?_) (sg_leavePart (u := ty q) a1 hx1 ⟨gb.1, gb.2.1⟩ hF hW (by rw [← ga]; exact hR) hB g.1)
  have x := Fr_q f (by decide)
  have x31 : (S78.1 31).toInt = (S.1 31).toInt := congrArg _ (f.1 31 (by decide))
  rcases p.2 with o | o
  · exact WKS_j hx1 hF hq (by rw [ho]; decide) o (by unfold TPd; omega) (by omega) (by omega) (Or.inl (by omega))
  · refine WKS_j hx1 hF hq (by rw [ho]; decide) o.1 (by unfold TPd; omega) (by omega) (by omega) (Or.inr (Or.inl ⟨Int.le_refl _, ?_⟩))
    have e29 : (S.2.1 29) = (P.2.1 29) := hW.1.2 29 (by decide) (by decide)
    have e32 : (S.2.1 32) = (P.2.1 32) := hW.1.2 32 (by decide) (by decide)
    have o3 := o.2.2
    rw [e29] at o3
    rw [o.2.1, e32]
    exact gb.2.2.resolve_left o3
set_option maxHeartbeats 1000000 in
theorem wk_23 {hx : Nat} {cd nt nw na : Int} {ty : Nat → T6} {P : mS} {q : Nat} {a0 a1 a2 : Int32} {S : mS} (hx1 : hx ≤ 1) (hF : FWt hx cd nt nw na ty P) (hG : CE ((P.2.1 7))) (hnow : (S.1 5).toInt = hx) (hq : 12000 * hx ≤ q ∧ (q : Int) < cd) (e0 : a0 = (P.2.1 12) q) (e1 : a1 = (P.2.1 13) q) (e2 : a2 = (P.2.1 14) q) (hp : (S.1 32).toInt = q + 1) (hc : 0 ≤ (S.1 24).toInt) (hW : W0 hx cd nt nw ty P S) (hR : RF hx nt nw P (ty q).2.2.2.2.2 S) (hB : RB hx cd ty (ty q) S) (hT : TPd (ty q).1 (ty q).2.1 S) (c : a0 = 23) : wp_finished a1 S (fun S1 => WKS hx cd nt nw ty P (MV P q (FS S) (S.1 26).toInt) S1) := by
  have ok := hF.2.2.1 q hq.1 hq.2
  have fb := FW_b hF
  have hfs := FS_b hR
  have rbb := RB_b hB
  have tt9 := RB_t hW hB
  have bp : 0 ≤ (S.1 27).toInt ∧ (S.1 27).toInt ≤ (S.1 25).toInt := by
    unfold TPd at hT
    omega
  unfold TPd at hT
  obtain ⟨t1, t2, t3, t4, t5, t6, t7⟩ := hT
  have ho : (P.2.1 12) q = 23 := e0.symm.trans c
  have g := ok.2.2.2.2.2.2.2.2.2.2.2.2.2.2.2.1 (by rw [ho]; decide)
  have ga := g.2.1
  have gb := g.2.2
  rw [← e1] at ga gb
  refine fm_finished _ _ _ _ (fun S80 f p => ?_) (sg_finished (u := ty q) a1 hx1 ⟨gb.1, gb.2⟩ hF hW (by rw [← ga]; exact hR) hB g.1)
  have x := Fr_q f (by decide)
  have x31 : (S80.1 31).toInt = (S.1 31).toInt := congrArg _ (f.1 31 (by decide))
  rcases p.2 with o | o
  · exact WKS_e o (by unfold BNp; omega)
  · exact WKS_j hx1 hF hq (by rw [ho]; decide) o (by unfold TPd; omega) (by omega) (by omega) (Or.inl (by omega))
