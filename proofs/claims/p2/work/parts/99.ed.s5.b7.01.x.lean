
set_option maxHeartbeats 1000000 in
theorem wk_28 {hx : Nat} {cd nt nw na : Int} {ty : Nat → T6} {P : mS} {q : Nat} {a0 a1 a2 : Int32} {S : mS} (hx1 : hx ≤ 1) (hF : FWt hx cd nt nw na ty P) (hG : CE ((P.2.1 7))) (hnow : (S.1 5).toInt = hx) (hq : 12000 * hx ≤ q ∧ (q : Int) < cd) (e0 : a0 = (P.2.1 12) q) (e1 : a1 = (P.2.1 13) q) (e2 : a2 = (P.2.1 14) q) (hp : (S.1 32).toInt = q + 1) (hc : 0 ≤ (S.1 24).toInt) (hW : W0 hx cd nt nw ty P S) (hR : RF hx nt nw P (ty q).2.2.2.2.2 S) (hB : RB hx cd ty (ty q) S) (hT : TPd (ty q).1 (ty q).2.1 S) (c : a0 = 28) : wp_newNode a1 0 0 S (fun (S11 : mS) (r11 : Int32) => ((¬ a1 = 2 → inR r11 100300 ∧ ∀ S13 : mS, S13 = sG S11 86 (ix r11) 0 → ∀ S14 : mS, S14 = sZ S13 36 r11 → WKS hx cd nt nw ty P (MV P q (FS S) (S.1 26).toInt) S14) ∧ (a1 = 2 → wp_pop S11 (fun (S15 : mS) (r15 : Int32) => ∀ z16 : Int64, z16 = Int32.toInt64 r15 → inR r11 100300 ∧ ∀ S17 : mS, S17 = sG S15 86 (ix r11) z16 → ∀ S18 : mS, S18 = sZ S17 36 r11 → WKS hx cd nt nw ty P (MV P q (FS S) (S.1 26).toInt) S18)))) := by
  have ok := hF.2.2.1 q hq.1 hq.2
  have fb := FW_b hF
  have hfs := FS_b hR
  have rbb := RB_b hB
  have tt9 := RB_t hW hB
  have bp : 0 ≤ (S.1 27).toInt ∧ (S.1 27).toInt ≤ (S.1 25).toInt := by
    unfold TPd at hT
    omega
  unfold TPd at hT
  obtain ⟨t1, t2, t3, t4, t5, t6, t7⟩ := hT
  have ho : (P.2.1 12) q = 28 := e0.symm.trans c
  have g := ok.2.2.2.2.2.2.2.2.2.2.2.2.2.2.2.2.2.2.2.2.1 (by rw [ho]; decide)
  obtain ⟨g1, ga, gb, go, g2, gn⟩ := g
  rw [← e1] at ga gb g2 gn
  have n2 : (2 : Int32).toInt = 2 := rfl
  have hc2 : 1 + (if a1 = 2 then 1 else 0) ≤ (ty q).2.2.2.1 := by
    split
    · rename_i h
      have := (g2 (by rw [h]; rfl)).2.1
      omega
    · rename_i h
      have := (gn (fun k => h (Int32.toInt_inj.mp (k.trans n2.symm)))).1
      omega
  have hi9 : (0 : Int) ≤ (if a1 = 2 then 1 else 0) := by split <;> omega
  have nb2 := RB_nb2 hB g1 (by omega)
  have nb0 := hW.2.1.1
  have nst := W0_st hW
  refine fm_newNode _ _ _ _ _ _ (fun S11 r11 f p => ?_) (sp_newNode a1 0 0 ⟨by omega, by omega⟩ nst)
  have er : r11 = (S.1 29) := p.2.2
  have ir : inR r11 100300 := by rw [er]; exact ⟨by omega, by show (S.1 29).toInt < 100300; omega⟩
  have e25 : (S11.1 25).toInt = (S.1 25).toInt := congrArg _ (f.1 25 (by decide))
  have e26 : (S11.1 26).toInt = (S.1 26).toInt := congrArg _ (f.1 26 (by decide))
  have e27 : (S11.1 27).toInt = (S.1 27).toInt := congrArg _ (f.1 27 (by decide))
  have e31 : (S11.1 31).toInt = (S.1 31).toInt := congrArg _ (f.1 31 (by decide))
  have e32 : (S11.1 32).toInt = (S.1 32).toInt := congrArg _ (f.1 32 (by decide))
  have s11 := FS_nf (NF_fr f (by decide) (by decide))
  have r11_ := RF_nf (NF_fr f (by decide) (by decide)) hR
  refine ⟨fun h2 => ⟨ir, fun S13 e13 S14 e14 => ?_⟩, fun h2 => ?_⟩
  · have gk := (gn (fun k => h2 (Int32.toInt_inj.mp (k.trans n2.symm)))).2
    have ox := OPENX (v := ty (q + 1)) (Y := S14) hW hB g1 go ⟨ga, gb⟩ hc2 ⟨gk.2.2.2.1, by rw [if_neg h2]; have t9 : (ty (q + 1)).2.2.2.1 ≤ (ty q).2.2.2.1 - 1 := gk.2.2.2.2.1; omega, gk.2.2.2.2.2.1, gk.2.2.2.2.2.2⟩ p.1 p.2.1 f (by rw [e14]; exact er) (fun k k1 k2 => by rw [e14, e13]; show upd S11.1 36 r11 k = _; exact upd_n k1) (by rw [e14, e13]; rfl) (fun i hi => by rw [e14, e13]; show vp_updL (S11.2.2 86) (ix r11) 0 i = _; unfold vp_updL; rw [if_neg (by rw [er]; exact hi)])
    have s14 := (FS_nf (NF_z e14 (by decide))).trans (FS_nf (NF_g e13))
    have r14 := RF_nf (NF_z e14 (by decide)) (RF_nf (NF_g e13) r11_)
    have yt : (S14.1 31).toInt = (S11.1 31).toInt := by rw [e14, e13]; rfl
    have yl : (S14.1 26).toInt = (S11.1 26).toInt := by rw [e14, e13]; rfl
    have yp : (S14.1 27).toInt = (S11.1 27).toInt := by rw [e14, e13]; rfl
    have ys : (S14.1 25).toInt = (S11.1 25).toInt := by rw [e14, e13]; rfl
    have yc : (S14.1 32).toInt = (S11.1 32).toInt := by rw [e14, e13]; rfl
    refine FWN (a := (ty q).1) hx1 hF hq (by rw [ho]; decide) gk ox.1 r14 ox.2 (by omega) (by omega) (by omega) ?_
    unfold TPd
    omega
  · have g20 := g2 (by rw [h2]; rfl)
    have gk := g20.2.2
    have h9 := g20.1
    refine fm_pop _ _ _ (fun S15 r15 f5 p5 => ?_) (sg_pop ⟨by omega, by omega⟩)
    intro z16 e16
    refine ⟨ir, fun S17 e17 S18 e18 => ?_⟩
    have x5 := Fr_q f5 (by decide)
    have y32 : (S15.1 32).toInt = (S11.1 32).toInt := congrArg _ (f5.1 32 (by decide))
    have ox := OPENX (v := ty (q + 1)) (Y := S18) hW hB g1 go ⟨ga, gb⟩ hc2 ⟨gk.2.2.2.1, by rw [if_pos h2]; have t9 : (ty (q + 1)).2.2.2.1 ≤ (ty q).2.2.2.1 - 2 := gk.2.2.2.2.1; omega, gk.2.2.2.2.2.1, gk.2.2.2.2.2.2⟩ p.1 p.2.1 f (by rw [e18]; exact er) (fun k k1 k2 => by rw [e18, e17]; show upd S15.1 36 r11 k = _; rw [upd_n k1]; exact f5.1 k (fun h => k2 (List.mem_singleton.mp h))) (by rw [e18, e17]; show S15.2.1 = _; funext k; exact f5.2.1 k List.not_mem_nil) (fun i hi => by rw [e18, e17]; show vp_updL (S15.2.2 86) (ix r11) z16 i = _; unfold vp_updL; rw [if_neg (by rw [er]; exact hi), f5.2.2 86 List.not_mem_nil])
    have s15 := FS_nf (NF_fr f5 (by decide) (by decide))
    have s18 := (FS_nf (NF_z e18 (by decide))).trans (FS_nf (NF_g e17))
    have r18 := RF_nf (NF_z e18 (by decide)) (RF_nf (NF_g e17) (RF_nf (NF_fr f5 (by decide) (by decide)) r11_))
    have yt : (S18.1 31).toInt = (S15.1 31).toInt := by rw [e18, e17]; rfl
    have yl : (S18.1 26).toInt = (S15.1 26).toInt := by rw [e18, e17]; rfl
    have yp : (S18.1 27).toInt = (S15.1 27).toInt := by rw [e18, e17]; rfl
    have ys : (S18.1 25).toInt = (S15.1 25).toInt := by rw [e18, e17]; rfl
    have yc : (S18.1 32).toInt = (S15.1 32).toInt := by rw [e18, e17]; rfl
    refine FWN (a := (ty q).1 - 1) hx1 hF hq (by rw [ho]; decide) gk ox.1 r18 ox.2 (by omega) (by omega) (by omega) ?_
    unfold TPd
    omega
set_option maxHeartbeats 1000000 in
theorem wk_29 {hx : Nat} {cd nt nw na : Int} {ty : Nat → T6} {P : mS} {q : Nat} {a0 a1 a2 : Int32} {S : mS} (hx1 : hx ≤ 1) (hF : FWt hx cd nt nw na ty P) (hG : CE ((P.2.1 7))) (hnow : (S.1 5).toInt = hx) (hq : 12000 * hx ≤ q ∧ (q : Int) < cd) (e0 : a0 = (P.2.1 12) q) (e1 : a1 = (P.2.1 13) q) (e2 : a2 = (P.2.1 14) q) (hp : (S.1 32).toInt = q + 1) (hc : 0 ≤ (S.1 24).toInt) (hW : W0 hx cd nt nw ty P S) (hR : RF hx nt nw P (ty q).2.2.2.2.2 S) (hB : RB hx cd ty (ty q) S) (hT : TPd (ty q).1 (ty q).2.1 S) (c : a0 = 29) : wp_shuts S (fun S1 => WKS hx cd nt nw ty P (MV P q (FS S) (S.1 26).toInt) S1) := by
  have ok := hF.2.2.1 q hq.1 hq.2
  have fb := FW_b hF
  have hfs := FS_b hR
  have rbb := RB_b hB
  have tt9 := RB_t hW hB
  have bp : 0 ≤ (S.1 27).toInt ∧ (S.1 27).toInt ≤ (S.1 25).toInt := by
    unfold TPd at hT
    omega
  unfold TPd at hT
  obtain ⟨t1, t2, t3, t4, t5, t6, t7⟩ := hT
  have ho : (P.2.1 12) q = 29 := e0.symm.trans c
  have g := ok.2.2.2.2.2.2.2.2.2.2.2.2.2.2.2.2.2.2.2.2.2.1 (by rw [ho]; decide)
  have gk := g.2.2
  refine fm_shuts _ _ _ (fun S20 f p => ?_) (sg_shuts (u := ty q) (v := ty (q + 1)) (tr := (ty q).2.2.2.2.2) hc hW hR hB g.1 g.2.1 ⟨gk.2.2.2.1, gk.2.2.2.2.1, gk.2.2.2.2.2.1, gk.2.2.2.2.2.2⟩)
  have e25 : (S20.1 25).toInt = (S.1 25).toInt := congrArg _ (f.1 25 (by decide))
  have e26 : (S20.1 26).toInt = (S.1 26).toInt := congrArg _ (f.1 26 (by decide))
  have e27 : (S20.1 27).toInt = (S.1 27).toInt := congrArg _ (f.1 27 (by decide))
  have e31 : (S20.1 31).toInt = (S.1 31).toInt := congrArg _ (f.1 31 (by decide))
  have e32 : (S20.1 32).toInt = (S.1 32).toInt := congrArg _ (f.1 32 (by decide))
  have s20 := FS_nf (NF_fr f (by decide) (by decide))
  refine FWN (a := (ty q).1) hx1 hF hq (by rw [ho]; decide) gk p.2.1 p.2.2.1 p.2.2.2 (by omega) (by omega) e26 ?_
  unfold TPd
  omega
set_option maxHeartbeats 1000000 in
theorem wk_30 {hx : Nat} {cd nt nw na : Int} {ty : Nat → T6} {P : mS} {q : Nat} {a0 a1 a2 : Int32} {S : mS} (hx1 : hx ≤ 1) (hF : FWt hx cd nt nw na ty P) (hG : CE ((P.2.1 7))) (hnow : (S.1 5).toInt = hx) (hq : 12000 * hx ≤ q ∧ (q : Int) < cd) (e0 : a0 = (P.2.1 12) q) (e1 : a1 = (P.2.1 13) q) (e2 : a2 = (P.2.1 14) q) (hp : (S.1 32).toInt = q + 1) (hc : 0 ≤ (S.1 24).toInt) (hW : W0 hx cd nt nw ty P S) (hR : RF hx nt nw P (ty q).2.2.2.2.2 S) (hB : RB hx cd ty (ty q) S) (hT : TPd (ty q).1 (ty q).2.1 S) (c : a0 = 30) : inR (S.1 33) 200 ∧ ∀ S22 : mS, S22 = sF S 64 (ix (S.1 33)) a1 → wp_stops (S22.1 35) S22 (fun (S23 : mS) => WKS hx cd nt nw ty P (MV P q (FS S) (S.1 26).toInt) S23) := by
  have ok := hF.2.2.1 q hq.1 hq.2
  have fb := FW_b hF
  have hfs := FS_b hR
  have rbb := RB_b hB
  have tt9 := RB_t hW hB
  have bp : 0 ≤ (S.1 27).toInt ∧ (S.1 27).toInt ≤ (S.1 25).toInt := by
    unfold TPd at hT
    omega
  unfold TPd at hT
  obtain ⟨t1, t2, t3, t4, t5, t6, t7⟩ := hT
  have ho : (P.2.1 12) q = 30 := e0.symm.trans c
  have g := ok.2.2.2.2.2.2.2.2.2.2.2.2.2.2.2.2.2.2.2.2.2.2.1 (by rw [ho]; decide)
  refine ⟨⟨tt9.1, by show (S.1 33).toInt < 200; omega⟩, fun S22 e22 => ?_⟩
  have ga := g.2.2.1
  rw [← e1] at ga
  have ev : ty (q + 1) = ST (ty q).2.2.2.2.2 := g.2.2.2
  have w22 := W0_64 e22 ga hW
  have r22 := RF_nf (NF_f e22 (by decide)) hR
  have b22 := RB_nb (NB_f e22 (by decide)) hB
  have y32 : S22.1 32 = S.1 32 := by rw [e22]; rfl
  have i22 : ix (S22.1 32) = q + 1 := by rw [y32]; unfold ix; omega
  obtain ⟨_, a2_, a3_, _⟩ := b22.2.2.2.1 g.1
  have nb0 := w22.2.1.1
  have bb2 := b22.2.1
  refine fm_stops _ _ _ _ (fun S23 f p => WKS_e p.2 ?_) (sg_stops (u := ty q) (tr := (ty q).2.2.2.2.2) _ (Or.inr ⟨a2_, by omega⟩) w22 r22 b22 g.1 ⟨by rw [y32]; omega, by rw [y32]; omega, by rw [i22]; exact ev⟩)
  unfold BNp
  rw [f.1 27 (by decide), f.1 25 (by decide), e22]
  exact bp
set_option maxHeartbeats 1000000 in
theorem wk_31 {hx : Nat} {cd nt nw na : Int} {ty : Nat → T6} {P : mS} {q : Nat} {a0 a1 a2 : Int32} {S : mS} (hx1 : hx ≤ 1) (hF : FWt hx cd nt nw na ty P) (hG : CE ((P.2.1 7))) (hnow : (S.1 5).toInt = hx) (hq : 12000 * hx ≤ q ∧ (q : Int) < cd) (e0 : a0 = (P.2.1 12) q) (e1 : a1 = (P.2.1 13) q) (e2 : a2 = (P.2.1 14) q) (hp : (S.1 32).toInt = q + 1) (hc : 0 ≤ (S.1 24).toInt) (hW : W0 hx cd nt nw ty P S) (hR : RF hx nt nw P (ty q).2.2.2.2.2 S) (hB : RB hx cd ty (ty q) S) (hT : TPd (ty q).1 (ty q).2.1 S) (c : a0 = 31) : ∀ S25 : mS, S25 = sZ S 34 1 → ∀ S26 : mS, S26 = sZ S25 35 (S25.1 29) → ∀ S27 : mS, S27 = sZ S26 36 (-1) → ∀ S28 : mS, S28 = sZ S27 37 a1 → inR (S28.1 33) 200 ∧ ∀ S29 : mS, S29 = sF S28 62 (ix (S28.1 33)) 0 → ∀ z30 : Int32, z30 = a2 + 1 → inR (S29.1 33) 200 ∧ ∀ S31 : mS, S31 = sF S29 59 (ix (S29.1 33)) z30 → WKS hx cd nt nw ty P (MV P q (FS S) (S.1 26).toInt) S31 := by
  have ok := hF.2.2.1 q hq.1 hq.2
  have fb := FW_b hF
  have hfs := FS_b hR
  have rbb := RB_b hB
  have tt9 := RB_t hW hB
  have bp : 0 ≤ (S.1 27).toInt ∧ (S.1 27).toInt ≤ (S.1 25).toInt := by
    unfold TPd at hT
    omega
  unfold TPd at hT
  obtain ⟨t1, t2, t3, t4, t5, t6, t7⟩ := hT
  have ho : (P.2.1 12) q = 31 := e0.symm.trans c
  have g := ok.2.2.2.2.2.2.2.2.2.2.2.2.2.2.2.2.2.2.2.2.2.2.2 (by rw [ho]; decide)
  intro S25 e25 S26 e26 S27 e27 S28 e28
  have gk := g.2.1
  have gt := g.2.2.1
  rw [← e1] at gt
  have t28 : S28.1 33 = S.1 33 := by rw [e28, e27, e26, e25]; rfl
  have it : inR (S.1 33) 200 := ⟨tt9.1, by show (S.1 33).toInt < 200; omega⟩
  rw [t28]
  refine ⟨it, fun S29 e29 z30 e30 => ?_⟩
  have t29 : S29.1 33 = S.1 33 := by rw [e29]; exact t28
  rw [t29]
  refine ⟨it, fun S31 e31 => ?_⟩
  have z : ∀ k, k ≠ 34 → k ≠ 35 → k ≠ 36 → k ≠ 37 → S31.1 k = S.1 k := fun k h1 h2 h3 h4 => by
    rw [e31, e29]
    show S28.1 k = _
    rw [e28]
    show upd S27.1 37 a1 k = _
    rw [upd_n h4, e27]
    show upd S26.1 36 (-1) k = _
    rw [upd_n h3, e26]
    show upd S25.1 35 (S25.1 29) k = _
    rw [upd_n h2, e25]
    show upd S.1 34 1 k = _
    exact upd_n h1
  have ff : ∀ k, k ≠ 59 → k ≠ 62 → S31.2.1 k = S.2.1 k := fun k h1 h2 => by
    rw [e31, q_ff, if_neg h1, e29, q_ff, if_neg h2, e28, e27, e26, e25]
    rfl
  have gg : S31.2.2 = S.2.2 := by rw [e31, e29, e28, e27, e26, e25]; rfl
  have fr : Fr [34, 35, 36, 37] [59, 62] [] S S31 := ⟨fun k hk => z k (fun h => hk (by rw [h]; decide)) (fun h => hk (by rw [h]; decide)) (fun h => hk (by rw [h]; decide)) (fun h => hk (by rw [h]; decide)), fun k hk => ff k (fun h => hk (by rw [h]; decide)) (fun h => hk (by rw [h]; decide)), fun k _ => by rw [gg]⟩
  have q34 : S31.1 34 = 1 := by rw [e31, e29, e28, e27, e26, e25]; rfl
  have q35 : S31.1 35 = S.1 29 := by rw [e31, e29, e28, e27, e26, e25]; rfl
  have q36 : S31.1 36 = -1 := by rw [e31, e29, e28, e27, e26, e25]; rfl
  have q37 : S31.1 37 = a1 := by rw [e31, e29, e28, e27, e26, e25]; rfl
  have b31 : RB hx cd ty (ty (q + 1)) S31 := RB_beg hB ⟨gk.2.2.2.1, gk.2.2.2.2.1, gk.2.2.2.2.2.1, gk.2.2.2.2.2.2⟩ (by rw [q37]; exact gt) hW.2.1.1.2.2.1 (ff 80 (by decide) (by decide)) (ff 81 (by decide) (by decide)) (ff 82 (by decide) (by decide)) (ff 85 (by decide) (by decide)) (fr.1 22 (by decide)) (fr.1 25 (by decide)) (fr.1 26 (by decide)) (fr.1 29 (by decide)) (fr.1 33 (by decide)) q34 q35 q36 (ff 54 (by decide) (by decide)) (ff 60 (by decide) (by decide))
  have x := Fr_q fr (by decide)
  have x31 : (S31.1 31).toInt = (S.1 31).toInt := congrArg _ (fr.1 31 (by decide))
  have x32 : (S31.1 32).toInt = (S.1 32).toInt := congrArg _ (fr.1 32 (by decide))
  have s31 := FS_nf (NF_fr fr (by decide) (by decide))
  refine FWN (a := 0) hx1 hF hq (by rw [ho]; decide) gk (W0_nw (NW_fr fr (by decide) (by decide) (by decide)) hW) (RF_nf (NF_fr fr (by decide) (by decide)) hR) b31 (by omega) (by omega) (by omega) ?_
  unfold TPd
  omega
