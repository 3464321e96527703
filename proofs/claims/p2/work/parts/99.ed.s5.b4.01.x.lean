
set_option maxHeartbeats 1000000 in
theorem wk_16 {hx : Nat} {cd nt nw na : Int} {ty : Nat → T6} {P : mS} {q : Nat} {a0 a1 a2 : Int32} {S : mS} (hx1 : hx ≤ 1) (hF : FWt hx cd nt nw na ty P) (hG : CE ((P.2.1 7))) (hnow : (S.1 5).toInt = hx) (hq : 12000 * hx ≤ q ∧ (q : Int) < cd) (e0 : a0 = (P.2.1 12) q) (e1 : a1 = (P.2.1 13) q) (e2 : a2 = (P.2.1 14) q) (hp : (S.1 32).toInt = q + 1) (hc : 0 ≤ (S.1 24).toInt) (hW : W0 hx cd nt nw ty P S) (hR : RF hx nt nw P (ty q).2.2.2.2.2 S) (hB : RB hx cd ty (ty q) S) (hT : TPd (ty q).1 (ty q).2.1 S) (c : a0 = 16) : ∀ S65 : mS, S65 = sZ S 32 a1 → WKS hx cd nt nw ty P (MV P q (FS S) (S.1 26).toInt) S65 := by
  have ok := hF.2.2.1 q hq.1 hq.2
  have fb := FW_b hF
  have hfs := FS_b hR
  have rbb := RB_b hB
  have tt9 := RB_t hW hB
  have bp : 0 ≤ (S.1 27).toInt ∧ (S.1 27).toInt ≤ (S.1 25).toInt := by
    unfold TPd at hT
    omega
  unfold TPd at hT
  obtain ⟨t1, t2, t3, t4, t5, t6, t7⟩ := hT
  have ho : (P.2.1 12) q = 16 := e0.symm.trans c
  have g := ok.2.2.2.2.2.2.2.2.2.1 (by rw [ho]; decide)
  intro S65 e65
  have gt := g.2
  rw [← e1] at gt
  have w2 := W0_nw (NW_z e65 (by decide)) hW
  have r2 := RF_nf (NF_z e65 (by decide)) hR
  have b2 := RB_nb (NB_z e65 (by decide)) hB
  have s2 := FS_nf (NF_z e65 (by decide))
  have yt : (S65.1 31).toInt = (S.1 31).toInt := by rw [e65]; rfl
  have yl : (S65.1 26).toInt = (S.1 26).toInt := by rw [e65]; rfl
  have yp : (S65.1 27).toInt = (S.1 27).toInt := by rw [e65]; rfl
  have ys : (S65.1 25).toInt = (S.1 25).toInt := by rw [e65]; rfl
  have y32 : S65.1 32 = a1 := by rw [e65]; rfl
  refine WKS_j (F1 := FS S65) hx1 hF hq (by rw [ho]; decide) (RJ_i w2 r2 (RB_st _ b2 g.1) (by rw [y32]; exact gt.1)) (by unfold TPd; omega) yl (by omega) ?_
  rcases gt.2 with k | k
  · exact Or.inr (Or.inl ⟨by omega, by rw [y32]; exact k⟩)
  · exact Or.inr (Or.inr (Or.inl (by rw [y32]; exact k.2)))
set_option maxHeartbeats 1000000 in
theorem wk_17 {hx : Nat} {cd nt nw na : Int} {ty : Nat → T6} {P : mS} {q : Nat} {a0 a1 a2 : Int32} {S : mS} (hx1 : hx ≤ 1) (hF : FWt hx cd nt nw na ty P) (hG : CE ((P.2.1 7))) (hnow : (S.1 5).toInt = hx) (hq : 12000 * hx ≤ q ∧ (q : Int) < cd) (e0 : a0 = (P.2.1 12) q) (e1 : a1 = (P.2.1 13) q) (e2 : a2 = (P.2.1 14) q) (hp : (S.1 32).toInt = q + 1) (hc : 0 ≤ (S.1 24).toInt) (hW : W0 hx cd nt nw ty P S) (hR : RF hx nt nw P (ty q).2.2.2.2.2 S) (hB : RB hx cd ty (ty q) S) (hT : TPd (ty q).1 (ty q).2.1 S) (c : a0 = 17) : wp_raise a1 S (fun S1 => WKS hx cd nt nw ty P (MV P q (FS S) (S.1 26).toInt) S1) := by
  have ok := hF.2.2.1 q hq.1 hq.2
  have fb := FW_b hF
  have hfs := FS_b hR
  have rbb := RB_b hB
  have tt9 := RB_t hW hB
  have bp : 0 ≤ (S.1 27).toInt ∧ (S.1 27).toInt ≤ (S.1 25).toInt := by
    unfold TPd at hT
    omega
  unfold TPd at hT
  obtain ⟨t1, t2, t3, t4, t5, t6, t7⟩ := hT
  have ho : (P.2.1 12) q = 17 := e0.symm.trans c
  have g := ok.2.2.2.2.2.2.2.2.2.2.1 (by rw [ho]; decide)
  refine fm_raise _ _ _ _ (fun S67 f p => ?_) (sg_raise (F := FS S) a1 hx1 tt9 hF (RI_i hW hR hB g))
  have x := Fr_q f (by decide)
  have x31 : (S67.1 31).toInt = (S.1 31).toInt := congrArg _ (f.1 31 (by decide))
  rcases p.2 with o | o
  · exact WKS_e o (by unfold BNp; omega)
  · exact WKS_j hx1 hF hq (by rw [ho]; decide) o (by unfold TPd; omega) (by omega) (by omega) (Or.inl (by omega))
set_option maxHeartbeats 1000000 in
theorem wk_18 {hx : Nat} {cd nt nw na : Int} {ty : Nat → T6} {P : mS} {q : Nat} {a0 a1 a2 : Int32} {S : mS} (hx1 : hx ≤ 1) (hF : FWt hx cd nt nw na ty P) (hG : CE ((P.2.1 7))) (hnow : (S.1 5).toInt = hx) (hq : 12000 * hx ≤ q ∧ (q : Int) < cd) (e0 : a0 = (P.2.1 12) q) (e1 : a1 = (P.2.1 13) q) (e2 : a2 = (P.2.1 14) q) (hp : (S.1 32).toInt = q + 1) (hc : 0 ≤ (S.1 24).toInt) (hW : W0 hx cd nt nw ty P S) (hR : RF hx nt nw P (ty q).2.2.2.2.2 S) (hB : RB hx cd ty (ty q) S) (hT : TPd (ty q).1 (ty q).2.1 S) (c : a0 = 18) : wp_pop S (fun (S69 : mS) (r69 : Int32) => wp_leave 5 r69 S69 (fun (S70 : mS) => WKS hx cd nt nw ty P (MV P q (FS S) (S.1 26).toInt) S70)) := by
  have ok := hF.2.2.1 q hq.1 hq.2
  have fb := FW_b hF
  have hfs := FS_b hR
  have rbb := RB_b hB
  have tt9 := RB_t hW hB
  have bp : 0 ≤ (S.1 27).toInt ∧ (S.1 27).toInt ≤ (S.1 25).toInt := by
    unfold TPd at hT
    omega
  unfold TPd at hT
  obtain ⟨t1, t2, t3, t4, t5, t6, t7⟩ := hT
  have ho : (P.2.1 12) q = 18 := e0.symm.trans c
  have g := ok.2.2.2.2.2.2.2.2.2.2.2.1 (by rw [ho]; decide)
  have g1 := g.2
  refine fm_pop _ _ _ (fun S69 r69 f9 p9 => ?_) (sg_pop ⟨by omega, by omega⟩)
  have x9 := Fr_q f9 (by decide)
  have t69 : S69.1 33 = S.1 33 := f9.1 33 (by decide)
  have w1 := W0_nw (NW_fr f9 (by decide) (by decide) (by decide)) hW
  have r1 := RF_nf (NF_fr f9 (by decide) (by decide)) hR
  have b1 := RB_nb (NB_fr f9 (by decide) (by decide)) hB
  have s1 := FS_nf (NF_fr f9 (by decide) (by decide))
  refine fm_leave _ _ _ _ _ (fun S70 f p => ?_) (sg_leave (F := FS S) 5 r69 hx1 (by rw [t69]; exact tt9) (Or.inl rfl) hF (RL_i w1 r1 (RB_st _ b1 g.1) (by omega) (Or.inl rfl)))
  have x := Fr_q f (by decide)
  have x31 : (S70.1 31).toInt = (S69.1 31).toInt := congrArg _ (f.1 31 (by decide))
  rcases p.2.2 rfl with o | o
  · exact WKS_e o (by unfold BNp; omega)
  · exact WKS_j hx1 hF hq (by rw [ho]; decide) o (by unfold TPd; omega) (by omega) (by omega) (Or.inl (by omega))
set_option maxHeartbeats 1000000 in
theorem wk_19 {hx : Nat} {cd nt nw na : Int} {ty : Nat → T6} {P : mS} {q : Nat} {a0 a1 a2 : Int32} {S : mS} (hx1 : hx ≤ 1) (hF : FWt hx cd nt nw na ty P) (hG : CE ((P.2.1 7))) (hnow : (S.1 5).toInt = hx) (hq : 12000 * hx ≤ q ∧ (q : Int) < cd) (e0 : a0 = (P.2.1 12) q) (e1 : a1 = (P.2.1 13) q) (e2 : a2 = (P.2.1 14) q) (hp : (S.1 32).toInt = q + 1) (hc : 0 ≤ (S.1 24).toInt) (hW : W0 hx cd nt nw ty P S) (hR : RF hx nt nw P (ty q).2.2.2.2.2 S) (hB : RB hx cd ty (ty q) S) (hT : TPd (ty q).1 (ty q).2.1 S) (c : a0 = 19) : wp_leave 3 a1 S (fun S1 => WKS hx cd nt nw ty P (MV P q (FS S) (S.1 26).toInt) S1) := by
  have ok := hF.2.2.1 q hq.1 hq.2
  have fb := FW_b hF
  have hfs := FS_b hR
  have rbb := RB_b hB
  have tt9 := RB_t hW hB
  have bp : 0 ≤ (S.1 27).toInt ∧ (S.1 27).toInt ≤ (S.1 25).toInt := by
    unfold TPd at hT
    omega
  unfold TPd at hT
  obtain ⟨t1, t2, t3, t4, t5, t6, t7⟩ := hT
  have ho : (P.2.1 12) q = 19 := e0.symm.trans c
  have g := ok.2.2.2.2.2.2.2.2.2.2.2.2.1 (by rw [ho]; decide)
  have gb := g.2.2
  rw [← e1] at gb
  refine fm_leave _ _ _ _ _ (fun S72 f p => ?_) (sg_leave (F := FS S) 3 a1 hx1 tt9 (Or.inr ⟨Or.inl rfl, gb.1, gb.2.1⟩) hF (RL_i hW hR (RB_st _ hB g.1) (Int.le_refl _) (Or.inr gb.2.2.1)))
  have x := Fr_q f (by decide)
  have x31 : (S72.1 31).toInt = (S.1 31).toInt := congrArg _ (f.1 31 (by decide))
  rcases p.2.1 with o | o
  · exact WKS_e o (by unfold BNp; omega)
  · exact WKS_j hx1 hF hq (by rw [ho]; decide) o (by unfold TPd; omega) (by omega) (by omega) (Or.inr (Or.inr (Or.inr ⟨by rw [ho]; decide, by rw [ho]; decide, by omega⟩)))
