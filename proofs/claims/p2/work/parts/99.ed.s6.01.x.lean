
/-- the same program, with another bound of the turns -/
def bmp (P : mS) (b : Int32) : mS := (fun j => if j = 60 then b else P.1 j, P.2)
theorem bmp_60 {P : mS} {b : Int32} : (bmp P b).1 60 = b := rfl
theorem W0_bmp {hx : Nat} {cd nt nw : Int} {ty : Nat → T6} {P : mS} {S : mS} {b : Int32} (h : W0 hx cd nt nw ty P S) (hb : TNB b ((S.2.1 60))) : W0 hx cd nt nw ty (bmp P b) S := ⟨⟨h.1.1, h.1.2⟩, h.2.1, h.2.2.1, h.2.2.2.1, h.2.2.2.2.1, h.2.2.2.2.2.1, h.2.2.2.2.2.2.1, hb⟩
theorem FWt_bmp {hx : Nat} {cd nt nw na : Int} {ty : Nat → T6} {P : mS} {b : Int32} (h : FWt hx cd nt nw na ty P) : FWt hx cd nt nw na ty (bmp P b) := h
/-- what a task's run leaves -/
def RD (hx : Nat) (cd nt nw : Int) (ty : Nat → T6) (P S : mS) : Prop := W0 hx cd nt nw ty P S ∧ BNp S ∧ 0 ≤ (S.1 25).toInt ∧ (S.1 25).toInt ≤ 100000 ∧ (S.1 29).toInt ≤ (S.1 25).toInt
def RA (hx : Nat) (cd nt nw : Int) (ty : Nat → T6) (P S : mS) : Prop := (ENR hx cd nt nw ty P S ∧ BNp S) ∨ RN hx cd nt nw ty P S
theorem MU_n {hx : Nat} {cd nt nw na : Int} {ty : Nat → T6} {P : mS} {S : mS} (hx1 : hx ≤ 1) (hF : FWt hx cd nt nw na ty P) (h : RN hx cd nt nw ty P S) : 0 ≤ MU P S := by
  have b := FW_b hF
  have f := FS_b h.2.2.2.1
  have l := h.2.2.2.2.1.2.1
  have p1 := h.1
  have p2 := h.2.1
  unfold MU MV
  have e : ((ix (S.1 32) : Nat) : Int) = (S.1 32).toInt := by unfold ix; omega
  split
  · omega
  · split <;> omega
theorem RA_o {hx : Nat} {cd nt nw : Int} {ty : Nat → T6} {P : mS} {F : Int} {S : mS} (hO : OUT hx cd nt nw ty P F S) (hT : TPd 0 0 S) : RA hx cd nt nw ty P S := by
  rcases hO with o | o
  · refine Or.inl ⟨o, ?_⟩
    unfold TPd at hT
    unfold BNp
    omega
  · obtain ⟨tr, hW, hR, hB, hG, hf⟩ := o
    have e : ty (ix (S.1 32)) = ST tr := hG.2.2
    exact Or.inr ⟨hG.1, hG.2.1, hW, by rw [e]; exact hR, by rw [e]; exact hB, by rw [e]; exact hT⟩
set_option maxHeartbeats 1000000 in
theorem run_loop {hx : Nat} {cd nt nw na : Int} {ty : Nat → T6} {P : mS} {S : mS} (hx1 : hx ≤ 1) (hG : CE ((P.2.1 7))) (hF : FWt hx cd nt nw na ty P) (hnow : (S.1 5).toInt = hx) (hc : 0 ≤ (S.1 24).toInt) (h : RA hx cd nt nw ty P S) : ∃ n9, it (ls_runs_179 (fun S1 => RD hx cd nt nw ty P S1)) n9 S := by
  refine it_rule (fun X : mS => RA hx cd nt nw ty P X ∧ (X.1 5).toInt = hx ∧ 0 ≤ (X.1 24).toInt) (fun X => if (X.2.1 54) (ix (X.1 33)) = 4 then (MU P X).toNat + 1 else 0) ?_ ⟨h, hnow, hc⟩
  intro X k hI hk
  obtain ⟨hA, hn, hc⟩ := hI
  show wp_runs_179 _ k X
  unfold wp_runs_179
  have ht : 0 ≤ (X.1 33).toInt ∧ (X.1 33).toInt < 200 := by
    rcases hA with a | a
    · exact a.1.2.2.2.2.2
    · exact RB_t a.2.2.1 a.2.2.2.2.1
  refine ⟨⟨ht.1, by show (X.1 33).toInt < 200; omega⟩, fun z29 e29 => ⟨fun c => ?_, fun c => ?_⟩⟩
  · rcases hA with a | a
    · exact ⟨a.1.1, a.2, a.1.2.2.1, a.1.2.2.2.1, a.1.2.2.2.2.1⟩
    · exact absurd (e29.trans a.2.2.2.2.1.1.2.2.1) c
  · have st4 : (X.2.1 54) (ix (X.1 33)) = 4 := e29.symm.trans c
    rcases hA with a | a
    · exact absurd st4 a.1.2.1
    · have b := FW_b hF
      have q1 : (1 : Int32).toInt = 1 := rfl
      obtain ⟨p1, p2, aW, aR, aB, aT⟩ := a
      have e0 : ((ix (X.1 32) : Nat) : Int) = (X.1 32).toInt := by unfold ix; omega
      have lt := TY_lt hF (p := ix (X.1 32)) (by omega) aT.1
      intro z31 e31 S32 e32
      have h31 := w_add e31 (by rw [q1]; omega)
      rw [q1] at h31
      have ip : inR (X.1 32) 24000 := ⟨by omega, by show (X.1 32).toInt < 24000; omega⟩
      refine ⟨ip, fun z33 e33 => ⟨ip, fun z34 e34 => ⟨ip, fun z35 e35 => ?_⟩⟩⟩
      have g12 : S32.2.1 12 = (P.2.1 12) := by rw [e32]; exact aW.1.2 12 (by decide) (by decide)
      have g13 : S32.2.1 13 = (P.2.1 13) := by rw [e32]; exact aW.1.2 13 (by decide) (by decide)
      have g14 : S32.2.1 14 = (P.2.1 14) := by rw [e32]; exact aW.1.2 14 (by decide) (by decide)
      rw [g12] at e33
      rw [g13] at e34
      rw [g14] at e35
      have t32 : TPd (ty (ix (X.1 32))).1 (ty (ix (X.1 32))).2.1 S32 := by
        unfold TPd at aT ⊢
        rw [e32]
        exact aT
      have s32 := FS_nf (NF_z e32 (by decide))
      have l32 : (S32.1 26).toInt = (X.1 26).toInt := by rw [e32]; rfl
      have mm : MV P (ix (X.1 32)) (FS S32) (S32.1 26).toInt = MU P X := by unfold MU; rw [s32, l32]
      refine fm_works _ _ _ _ _ _ (fun S36 f p => ?_) (sg_works (q := ix (X.1 32)) z33 z34 z35 hx1 hF hG (by rw [e32]; exact hn) ⟨by omega, by omega⟩ e33 e34 e35 (by rw [e32]; show z31.toInt = _; omega) (by rw [e32]; exact hc) (W0_nw (NW_z e32 (by decide)) aW) (RF_nf (NF_z e32 (by decide)) aR) (RB_nb (NB_z e32 (by decide)) aB) t32)
      have n36 : S36.1 5 = X.1 5 := (f.1 5 (by decide)).trans (by rw [e32]; rfl)
      have c36 : S36.1 24 = X.1 24 := (f.1 24 (by decide)).trans (by rw [e32]; rfl)
      have m0 := MU_n hx1 hF (show RN hx cd nt nw ty P X from ⟨p1, p2, aW, aR, aB, aT⟩)
      rw [mm] at p
      refine hk S36 ⟨?_, by rw [n36]; exact hn, by rw [c36]; exact hc⟩ ?_
      · rcases p with p | p
        · exact Or.inl p
        · exact Or.inr p.1
      · show (if (S36.2.1 54) (ix (S36.1 33)) = 4 then (MU P S36).toNat + 1 else 0) < (if (X.2.1 54) (ix (X.1 33)) = 4 then (MU P X).toNat + 1 else 0)
        rw [if_pos st4]
        rcases p with p | p
        · rw [if_neg p.1.2.1]; omega
        · have m1 := MU_n hx1 hF p.1
          have m2 := p.2
          split <;> omega
set_option maxHeartbeats 1000000 in
theorem sg_runs {hx : Nat} {cd nt nw na : Int} {ty : Nat → T6} {P : mS} (a0 : Int32) {S : mS} (hx1 : hx ≤ 1) (hG : CE ((P.2.1 7))) (hF : FWt hx cd nt nw na ty P) (hnow : (S.1 5).toInt = hx) (hc : 0 ≤ (S.1 24).toInt) (hW : W0x hx cd nt nw ty P a0.toInt S) (ha : 0 ≤ a0.toInt ∧ a0.toInt < (S.1 22).toInt) (hs : (S.2.1 54) (ix a0) = 0) (hn : ((S.2.1 60) (ix a0)).toInt + 1 ≤ (P.1 60).toInt) (hbn : BNp S) (hst : 0 ≤ (S.1 25).toInt ∧ (S.1 25).toInt ≤ 100000 ∧ (S.1 29).toInt ≤ (S.1 25).toInt) : wp_runs a0 S (fun S1 => RD hx cd nt nw ty P S1) := by
  obtain ⟨tr, htg, hfrm⟩ := hW.2.2.2.1 a0 ha.1 ha.2 (Or.inl hs)
  have tk := hW.2.1.1
  have tn := hW.2.2.2.2.2.2.2
  have tn0 := (tn.2 (ix a0)).1
  have r60 := ti_rng (P.1 60)
  have itt : inR a0 200 := ⟨ha.1, by show a0.toInt < 200; omega⟩
  have q1 : (1 : Int32).toInt = 1 := rfl
  have q12 : (12 : Int32).toInt = 12 := rfl
  unfold wp_runs
  intro S1 e1 S2 e2 S3 e3 S4 e4
  have t4 : S4.1 33 = a0 := by rw [e4, e3, e2, e1]; rfl
  have g4 : S4.2 = S.2 := by rw [e4, e3, e2, e1]; rfl
  have z4 : ∀ k, k ≠ 33 → k ≠ 26 → k ≠ 31 → k ≠ 34 → S4.1 k = S.1 k := fun k h1 h2 h3 h4 => by
    rw [e4]
    show upd S3.1 34 0 k = _
    rw [upd_n h4, e3]
    show upd S2.1 31 0 k = _
    rw [upd_n h3, e2]
    show upd S1.1 26 0 k = _
    rw [upd_n h2, e1]
    show upd S.1 33 a0 k = _
    exact upd_n h1
  have key : ∀ y0 : Int32, wp_runs_37 (fun S1 => RD hx cd nt nw ty P S1) y0 S4 := by
    intro y0
    unfold wp_runs_37
    rw [t4]
    refine ⟨itt, fun z7 e7 z8 e8 => ⟨itt, fun S9 e9 => ?_⟩⟩
    have h7 : z7 = (S.2.1 60) (ix a0) := by rw [e7, g4]
    rw [h7] at e8
    have h8 := w_add e8 (by rw [q1]; omega)
    rw [q1] at h8
    have t9 : S9.1 33 = a0 := by rw [e9]; exact t4
    rw [t9]
    refine ⟨itt, fun S10 e10 => ?_⟩
    have t10 : S10.1 33 = a0 := by rw [e10]; exact t9
    rw [t10]
    refine ⟨itt, fun z11 e11 S12 e12 => ?_⟩
    have u33 : S12.1 33 = a0 := by rw [e12]; exact t10
    have f54 : S12.2.1 54 = upd (S.2.1 54) (ix a0) 4 := by rw [e12, e10, e9]; show upd (S4.2.1 54) _ _ = _; rw [g4]
    have f60 : S12.2.1 60 = upd (S.2.1 60) (ix a0) z8 := by rw [e12, e10, e9]; show upd (S4.2.1 60) _ _ = _; rw [g4]
    have fk : ∀ k, k ≠ 54 → k ≠ 60 → S12.2.1 k = S.2.1 k := fun k h1 h2 => by
      rw [e12]
      show S10.2.1 k = _
      rw [e10, q_ff, if_neg h1, e9, q_ff, if_neg h2, g4]
    have fz : ∀ k, k ≠ 33 → k ≠ 26 → k ≠ 31 → k ≠ 34 → k ≠ 32 → S12.1 k = S.1 k := fun k h1 h2 h3 h4 h5 => by
      rw [e12]
      show upd S10.1 32 z11 k = _
      rw [upd_n h5, e10, e9]
      exact z4 k h1 h2 h3 h4
    have u26 : S12.1 26 = 0 := by rw [e12, e10, e9, e4, e3, e2]; rfl
    have u31 : S12.1 31 = 0 := by rw [e12, e10, e9, e4, e3]; rfl
    have u34 : S12.1 34 = 0 := by rw [e12, e10, e9, e4]; rfl
    have u32 : S12.1 32 = (S.2.1 57) (ix a0) := by rw [e12]; show z11 = _; rw [e11, e10, e9]; show S4.2.1 57 _ = _; rw [g4]
    have z80 : ¬ z8 = 0 := fun h => by rw [h] at h8; have q0 : (0 : Int32).toInt = 0 := rfl; omega
    have w12 : W0 hx cd nt nw ty P S12 := W0_run (t := a0) (n := z8) hW ha z80 ⟨by omega, by omega⟩ f54 f60 (fz 5 (by decide) (by decide) (by decide) (by decide) (by decide)) (fz 22 (by decide) (by decide) (by decide) (by decide) (by decide)) (fz 23 (by decide) (by decide) (by decide) (by decide) (by decide)) (fz 28 (by decide) (by decide) (by decide) (by decide) (by decide)) (fz 29 (by decide) (by decide) (by decide) (by decide) (by decide)) (fz 30 (by decide) (by decide) (by decide) (by decide) (by decide)) (fk 51 (by decide) (by decide)) (fk 52 (by decide) (by decide)) (fk 53 (by decide) (by decide)) (fk 57 (by decide) (by decide)) (fk 61 (by decide) (by decide)) (fk 64 (by decide) (by decide)) (fk 65 (by decide) (by decide)) (fk 66 (by decide) (by decide)) (fk 68 (by decide) (by decide)) (fk 69 (by decide) (by decide)) (fk 70 (by decide) (by decide)) (fk 71 (by decide) (by decide)) (fk 72 (by decide) (by decide)) (fk 73 (by decide) (by decide)) (fk 78 (by decide) (by decide)) (fk 80 (by decide) (by decide)) (fk 81 (by decide) (by decide)) (fk 82 (by decide) (by decide)) (fk 83 (by decide) (by decide)) (fk 84 (by decide) (by decide)) (fk 85 (by decide) (by decide)) (fk 87 (by decide) (by decide)) (by rw [e12, e10, e9]; show S4.2.2 86 = _; rw [g4]) (fun k hk => fk k (by omega) (by omega))
    have r12 : RF hx nt nw P tr S12 := by
      unfold RF
      rw [u33, fk 68 (by decide) (by decide), fk 69 (by decide) (by decide), fk 70 (by decide) (by decide), fk 71 (by decide) (by decide), fk 72 (by decide) (by decide)]
      exact hfrm
    have s25 : S12.1 25 = S.1 25 := fz 25 (by decide) (by decide) (by decide) (by decide) (by decide)
    have s29 : S12.1 29 = S.1 29 := fz 29 (by decide) (by decide) (by decide) (by decide) (by decide)
    have s22 : S12.1 22 = S.1 22 := fz 22 (by decide) (by decide) (by decide) (by decide) (by decide)
    have s27 : S12.1 27 = S.1 27 := fz 27 (by decide) (by decide) (by decide) (by decide) (by decide)
    have q0 : (0 : Int32).toInt = 0 := rfl
    have b12 : RB hx cd ty (ST tr) S12 := by
      refine ⟨⟨by rw [u33]; exact ha.1, by rw [u33, s22]; exact ha.2, by rw [u33, f54, upd_s], by rw [u33, f60, upd_s]; exact z80⟩, ?_, fun _ => u34, fun q => absurd q (by show ¬ (0 : Int) = 1; omega), Or.inl rfl, by show (0 : Int) ≤ 11; omega⟩
      rw [u26, s25, s29, q0]
      omega
    have p12 : TPd 0 0 S12 := by
      unfold TPd
      unfold BNp at hbn
      rw [u26, u31, s25, s27, q0]
      omega
    have j12 : RJ hx cd nt nw ty P (FS S12) S12 := RJ_i w12 r12 b12 (by rw [u32]; exact htg)
    have n12 : S12.1 5 = S.1 5 := fz 5 (by decide) (by decide) (by decide) (by decide) (by decide)
    have c12 : S12.1 24 = S.1 24 := fz 24 (by decide) (by decide) (by decide) (by decide) (by decide)
    have go : ∀ X : mS, OUT hx cd nt nw ty P (FS S12) X → X.1 5 = S.1 5 → X.1 24 = S.1 24 → TPd 0 0 X → ∃ n9, it (ls_runs_179 (fun S1 => RD hx cd nt nw ty P S1)) n9 X := fun X o h5 h24 hT => run_loop hx1 hG hF (by rw [h5]; exact hnow) (by rw [h24]; exact hc) (RA_o o hT)
    rw [u33]
    refine ⟨fun _ => go S12 (Or.inr j12) n12 c12 p12, fun _ => ⟨itt, fun z14 e14 => ⟨itt, fun S15 e15 => ?_⟩⟩⟩
    have u15 : S15.1 = S12.1 := by rw [e15]; rfl
    have w15 := W0_nw (NW_f e15 (by decide)) w12
    have r15 := RF_nf (NF_f e15 (by decide)) r12
    have b15 := RB_nb (NB_f e15 (by decide)) b12
    have f15 := FS_nf (NF_f e15 (by decide))
    have p15 : TPd 0 0 S15 := by unfold TPd at p12 ⊢; rw [u15]; exact p12
    have j15 : RJ hx cd nt nw ty P (FS S12) S15 := ⟨tr, w15, r15, b15, by rw [u15, u32]; exact htg, by omega⟩
    have t15 : S15.1 33 = a0 := by rw [u15]; exact u33
    have tb : 0 ≤ (S15.1 33).toInt ∧ (S15.1 33).toInt < 200 := by rw [t15]; exact ⟨ha.1, by omega⟩
    have k149 : wp_runs_149 (fun S1 => RD hx cd nt nw ty P S1) z14 S15 := by
      unfold wp_runs_149
      have ri : RI hx cd nt nw ty P (FS S12) S15 := ⟨tr, w15, r15, b15, by omega⟩
      have fin : ∀ (X : mS) (zs fs gs : List Nat), Fr zs fs gs S15 X → (25 ∉ zs ∧ 26 ∉ zs ∧ 27 ∉ zs) → 31 ∉ zs → 5 ∉ zs → 24 ∉ zs → OUT hx cd nt nw ty P (FS S12 - 1) X → ∃ n9, it (ls_runs_179 (fun S1 => RD hx cd nt nw ty P S1)) n9 X := fun X zs fs gs f h1 h2 h3 h4 o => go X (OUT_m (by omega) o) ((f.1 5 h3).trans (by rw [u15]; exact n12)) ((f.1 24 h4).trans (by rw [u15]; exact c12)) (by
        have x := Fr_q f h1
        have x31 : (X.1 31).toInt = (S15.1 31).toInt := congrArg _ (f.1 31 h2)
        unfold TPd at p15 ⊢
        omega)
      refine ⟨fun _ => ⟨fun _ => go S15 (Or.inr j15) (by rw [u15]; exact n12) (by rw [u15]; exact c12) p15, fun _ => ?_⟩, fun _ => ?_⟩
      · exact fm_raiseCancel _ _ _ (fun S26 f p => fin S26 _ _ _ f (by decide) (by decide) (by decide) (by decide) p.2) (sg_raiseCancel (F := FS S12) hx1 tb hF ri)
      · rw [t15]
        exact ⟨itt, fun z27 e27 => fm_raise _ _ _ _ (fun S28 f p => fin S28 _ _ _ f (by decide) (by decide) (by decide) (by decide) p.2) (sg_raise (F := FS S12) z27 hx1 tb hF ri)⟩
    refine ⟨fun _ => k149, fun _ => ?_⟩
    rw [t15]
    refine ⟨itt, fun z17 e17 => ⟨fun _ => k149, fun c17 z19 e19 => ⟨itt, fun z20 e20 z21 e21 => ⟨itt, fun z22 e22 => ?_⟩⟩⟩⟩
    have cc := w15.2.2.2.2.1 (ix a0) (by unfold ix; omega)
    have h20 : 0 ≤ z20.toInt ∧ z20.toInt < 12 := by
      rw [e20]
      refine ⟨?_, cc⟩
      rcases Int.lt_or_le z17.toInt 0 with g | g
      · exact absurd (Int32.lt_iff_toInt_lt.mpr (by rw [q0]; exact g)) c17
      · rw [← e17]; exact g
    have h19 := w_mul e19 (by rw [q12]; omega)
    rw [q12] at h19
    have h21 := w_add e21 (by omega)
    refine ⟨⟨by omega, by show z21.toInt < 2400; omega⟩, fun S23 e23 => ?_⟩
    have u23 : S23.1 = S15.1 := by rw [e23]; rfl
    refine go S23 (Or.inr ⟨tr, W0_nw (NW_f e23 (by decide)) w15, RF_nf (NF_f e23 (by decide)) r15, RB_nb (NB_f e23 (by decide)) b15, by rw [u23, u15, u32]; exact htg, by rw [FS_nf (NF_f e23 (by decide))]; omega⟩) (by rw [u23, u15]; exact n12) (by rw [u23, u15]; exact c12) (by unfold TPd at p15 ⊢; rw [u23]; exact p15)
  rw [t4]
  exact ⟨itt, fun z5 _ => ⟨fun _ => key 0, fun _ => key 1⟩⟩
