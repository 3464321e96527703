
/-- the pile and the notes -/
def TPd (h ec : Int) (S : mS) : Prop := 0 ≤ h ∧ h ≤ (S.1 31).toInt ∧ (S.1 31).toInt ≤ (S.1 26).toInt ∧ (S.1 31).toInt + ec ≤ (S.1 26).toInt ∧ 0 ≤ (S.1 27).toInt ∧ (S.1 27).toInt + (S.1 31).toInt ≤ (S.1 25).toInt ∧ (S.1 27).toInt + (S.1 31).toInt + ec ≤ (S.1 25).toInt
/-- a task runs, at code pc -/
def RN (hx : Nat) (cd nt nw : Int) (ty : Nat → T6) (P S : mS) : Prop := 12000 * hx ≤ (S.1 32).toInt ∧ (S.1 32).toInt ≤ cd ∧ W0 hx cd nt nw ty P S ∧ RF hx nt nw P (ty (ix (S.1 32))).2.2.2.2.2 S ∧ RB hx cd ty (ty (ix (S.1 32))) S ∧ TPd (ty (ix (S.1 32))).1 (ty (ix (S.1 32))).2.1 S
/-- how much it may still do -/
def MV (P : mS) (q : Nat) (F la : Int) : Int := 2000000 * (3000 - la) + (if (P.2.1 12) q = 1 then 0 else 1 + 30000 * F + (24000 - q) + (if 19 ≤ ((P.2.1 12) q).toInt ∧ ((P.2.1 12) q).toInt ≤ 21 then 120000 else 0))
def MU (P S : mS) : Int := MV P (ix (S.1 32)) (FS S) (S.1 26).toInt
def BNp (S : mS) : Prop := 0 ≤ (S.1 27).toInt ∧ (S.1 27).toInt ≤ (S.1 25).toInt
def WKS (hx : Nat) (cd nt nw : Int) (ty : Nat → T6) (P : mS) (m : Int) (S : mS) : Prop := (ENR hx cd nt nw ty P S ∧ BNp S) ∨ (RN hx cd nt nw ty P S ∧ MU P S < m)
theorem Fr_tt {zs fs gs : List Nat} {S S1 S2 : mS} (a : Fr zs fs gs S S1) (b : Fr zs fs gs S1 S2) : Fr zs fs gs S S2 := ⟨fun k h => (b.1 k h).trans (a.1 k h), fun k h => (b.2.1 k h).trans (a.2.1 k h), fun k h => (b.2.2 k h).trans (a.2.2 k h)⟩
theorem Fr_ww {zs fs gs zs1 fs1 gs1 : List Nat} {S S1 : mS} (h : Fr zs fs gs S S1) (h1 : ∀ k, k ∈ zs → k ∈ zs1) (h2 : ∀ k, k ∈ fs → k ∈ fs1) (h3 : ∀ k, k ∈ gs → k ∈ gs1) : Fr zs1 fs1 gs1 S S1 := ⟨fun k q => h.1 k (fun g => q (h1 k g)), fun k q => h.2.1 k (fun g => q (h2 k g)), fun k q => h.2.2 k (fun g => q (h3 k g))⟩
theorem MV_f {P : mS} {q p1 : Nat} {F F1 la : Int} (ho : ¬ (P.2.1 12) q = 1) (h0 : q < 24000) (hp : p1 ≤ 24000) (hn : ¬ (19 ≤ ((P.2.1 12) p1).toInt ∧ ((P.2.1 12) p1).toInt ≤ 21)) (hF0 : 0 ≤ F1) (hF : 0 ≤ F) (h : F1 < F ∨ (F1 ≤ F ∧ q < p1) ∨ (P.2.1 12) p1 = 1 ∨ (19 ≤ ((P.2.1 12) q).toInt ∧ ((P.2.1 12) q).toInt ≤ 21 ∧ F1 ≤ F + 3)) : MV P p1 F1 la < MV P q F la := by
  unfold MV
  rw [if_neg ho, if_neg hn]
  rcases Decidable.em ((P.2.1 12) p1 = 1) with d | d
  · rw [if_pos d]
    split <;> omega
  · rw [if_neg d]
    rcases h with g | g | g | g
    · split <;> omega
    · split <;> omega
    · exact absurd g d
    · rw [if_pos ⟨g.1, g.2.1⟩]
      omega
theorem MV_s {P : mS} {q p1 : Nat} {F F1 la : Int} (ho : (P.2.1 12) q = 1) (hp : p1 ≤ 24000) (hF0 : 0 ≤ F1) (hF : F1 ≤ 33) : MV P p1 F1 (la + 1) < MV P q F la := by
  unfold MV
  rw [if_pos ho]
  split
  · omega
  · split <;> omega
theorem OPX {hx : Nat} {cd nt nw na : Int} {ty : Nat → T6} {P : mS} (hF : FWt hx cd nt nw na ty P) {p : Nat} (h1 : 12000 * hx ≤ p) (h2 : (p : Int) < cd) (h3 : (ty p).2.1 ≤ 0) : ¬ (19 ≤ ((P.2.1 12) p).toInt ∧ ((P.2.1 12) p).toInt ≤ 21) := fun h => by
  have ok := hF.2.2.1 p h1 h2
  rcases Decidable.em (((P.2.1 12) p).toInt = 21) with d | d
  · have g := (ok.2.2.2.2.2.2.2.2.2.2.2.2.2.1 d).2.1
    omega
  · have g := (ok.2.2.2.2.2.2.2.2.2.2.2.2.1 ⟨h.1, by omega⟩).2.1
    omega
/-- a type that a run may have is that of a code -/
theorem TY_lt {hx : Nat} {cd nt nw na : Int} {ty : Nat → T6} {P : mS} (hF : FWt hx cd nt nw na ty P) {p : Nat} (h2 : (p : Int) ≤ cd) (h3 : 0 ≤ (ty p).1) : (p : Int) < cd := by
  rcases Int.lt_or_le (p : Int) cd with g | g
  · exact g
  · have e : cd.toNat = p := by omega
    have k := hF.2.1
    rw [e] at k
    rw [k] at h3
    exact absurd h3 (by show ¬ (0 : Int) ≤ -1; omega)
theorem WKS_e {hx : Nat} {cd nt nw : Int} {ty : Nat → T6} {P : mS} {m : Int} {S : mS} (h : ENR hx cd nt nw ty P S) (hb : BNp S) : WKS hx cd nt nw ty P m S := Or.inl ⟨h, hb⟩
theorem WKS_f {hx : Nat} {cd nt nw na : Int} {ty : Nat → T6} {P : mS} {q : Nat} {F la : Int} {S : mS} (hx1 : hx ≤ 1) (hF : FWt hx cd nt nw na ty P) (hq : 12000 * hx ≤ q ∧ (q : Int) < cd) (hop : ¬ (P.2.1 12) q = 1) (hW : W0 hx cd nt nw ty P S) (hR : RF hx nt nw P (ty (q + 1)).2.2.2.2.2 S) (hB : RB hx cd ty (ty (q + 1)) S) (hT : TPd (ty (q + 1)).1 (ty (q + 1)).2.1 S) (hp : (S.1 32).toInt = q + 1) (he : (ty (q + 1)).2.1 ≤ 0) (hf : FS S ≤ F) (hl : (S.1 26).toInt = la) : WKS hx cd nt nw ty P (MV P q F la) S := by
  have e : ix (S.1 32) = q + 1 := by unfold ix; omega
  have b := FW_b hF
  have hl2 := TY_lt hF (p := q + 1) (by omega) hT.1
  refine Or.inr ⟨⟨by omega, by omega, hW, by rw [e]; exact hR, by rw [e]; exact hB, by rw [e]; exact hT⟩, ?_⟩
  have f := FS_b hR
  unfold MU
  rw [e, hl]
  exact MV_f hop (by omega) (by omega) (OPX hF (by omega) hl2 he) f.1 (by omega) (Or.inr (Or.inl ⟨hf, by omega⟩))
theorem WKS_s {hx : Nat} {cd nt nw na : Int} {ty : Nat → T6} {P : mS} {q : Nat} {F la : Int} {S : mS} (hx1 : hx ≤ 1) (hF : FWt hx cd nt nw na ty P) (hq : 12000 * hx ≤ q ∧ (q : Int) < cd) (hop : (P.2.1 12) q = 1) (hW : W0 hx cd nt nw ty P S) (hR : RF hx nt nw P (ty (q + 1)).2.2.2.2.2 S) (hB : RB hx cd ty (ty (q + 1)) S) (hT : TPd (ty (q + 1)).1 (ty (q + 1)).2.1 S) (hp : (S.1 32).toInt = q + 1) (hl : (S.1 26).toInt = la + 1) : WKS hx cd nt nw ty P (MV P q F la) S := by
  have e : ix (S.1 32) = q + 1 := by unfold ix; omega
  have b := FW_b hF
  refine Or.inr ⟨⟨by omega, by omega, hW, by rw [e]; exact hR, by rw [e]; exact hB, by rw [e]; exact hT⟩, ?_⟩
  have f := FS_b hR
  unfold MU
  rw [e, hl]
  exact MV_s hop (by omega) f.1 f.2
theorem WKS_j {hx : Nat} {cd nt nw na : Int} {ty : Nat → T6} {P : mS} {q : Nat} {F F1 la : Int} {S : mS} (hx1 : hx ≤ 1) (hF : FWt hx cd nt nw na ty P) (hq : 12000 * hx ≤ q ∧ (q : Int) < cd) (hop : ¬ (P.2.1 12) q = 1) (hJ : RJ hx cd nt nw ty P F1 S) (hT : TPd 0 0 S) (hl : (S.1 26).toInt = la) (hf0 : 0 ≤ F) (h : F1 < F ∨ (F1 ≤ F ∧ (q : Int) < (S.1 32).toInt) ∨ (P.2.1 12) (ix (S.1 32)) = 1 ∨ (19 ≤ ((P.2.1 12) q).toInt ∧ ((P.2.1 12) q).toInt ≤ 21 ∧ F1 ≤ F + 3)) : WKS hx cd nt nw ty P (MV P q F la) S := by
  obtain ⟨tr, hW, hR, hB, hG, hf⟩ := hJ
  have b := FW_b hF
  have e : ty (ix (S.1 32)) = ST tr := hG.2.2
  have e0 : ((ix (S.1 32) : Nat) : Int) = (S.1 32).toInt := by have := hG.1; unfold ix; omega
  have hT2 : TPd (ty (ix (S.1 32))).1 (ty (ix (S.1 32))).2.1 S := by rw [e]; exact hT
  have hl2 := TY_lt hF (p := ix (S.1 32)) (by have := hG.2.1; omega) hT2.1
  refine Or.inr ⟨⟨hG.1, hG.2.1, hW, by rw [e]; exact hR, by rw [e]; exact hB, hT2⟩, ?_⟩
  have f := FS_b hR
  have g1 := hG.1
  have g2 := hG.2.1
  unfold MU
  rw [hl]
  refine MV_f hop (by omega) (by omega) (OPX hF (by omega) hl2 (by rw [e]; exact Int.le_refl _)) f.1 hf0 ?_
  rcases h with h | h | h | h
  · exact Or.inl (by omega)
  · exact Or.inr (Or.inl ⟨by omega, by omega⟩)
  · exact Or.inr (Or.inr (Or.inl h))
  · exact Or.inr (Or.inr (Or.inr ⟨h.1, h.2.1, by omega⟩))
/-- jumps of the code -/
theorem RJ_i {hx : Nat} {cd nt nw : Int} {ty : Nat → T6} {P : mS} {S : mS} {tr : Int32} (h1 : W0 hx cd nt nw ty P S) (h2 : RF hx nt nw P tr S) (h3 : RB hx cd ty (ST tr) S) (h4 : TG hx cd ty (S.1 32) tr) : RJ hx cd nt nw ty P (FS S) S := ⟨tr, h1, h2, h3, h4, Int.le_refl _⟩
theorem sg_pop {S : mS} (h : 1 ≤ (S.1 31).toInt ∧ (S.1 31).toInt ≤ 4000) : wp_pop S (fun S1 r => (S1.1 31).toInt = (S.1 31).toInt - 1) := by
  unfold wp_pop
  intro z1 e1 S2 e2
  have q1 : (1 : Int32).toInt = 1 := rfl
  have h1 := w_sub e1 (by rw [q1]; omega)
  rw [q1] at h1
  have t2 : S2.1 31 = z1 := by rw [e2]; rfl
  rw [t2]
  exact ⟨⟨by omega, by show z1.toInt < 4000; omega⟩, fun z3 e3 => by show (S2.1 31).toInt = _; rw [t2]; exact h1⟩
theorem sg_push (a0 : Int32) {S : mS} (h : 0 ≤ (S.1 31).toInt ∧ (S.1 31).toInt < 4000) : wp_push a0 S (fun S1 => (S1.1 31).toInt = (S.1 31).toInt + 1) := by
  unfold wp_push
  have q1 : (1 : Int32).toInt = 1 := rfl
  refine ⟨⟨h.1, by show (S.1 31).toInt < 4000; omega⟩, fun S1 e1 z2 e2 S3 e3 => ?_⟩
  have t1 : S1.1 31 = S.1 31 := by rw [e1]; rfl
  rw [t1] at e2
  have h2 := w_add e2 (by rw [q1]; omega)
  rw [q1] at h2
  rw [e3]
  exact h2
theorem sg_notePut (a0 : Int32) {S : mS} (h : 0 ≤ (S.1 27).toInt ∧ (S.1 27).toInt ≤ 100000) : wp_notePut a0 S (fun S1 => (S1.1 27).toInt = (S.1 27).toInt + 1) := by
  have q1 : (1 : Int32).toInt = 1 := rfl
  have key : ∀ X : mS, X.1 27 = S.1 27 → wp_notePut_33 (fun S1 => (S1.1 27).toInt = (S.1 27).toInt + 1) X := by
    intro X x
    unfold wp_notePut_33
    intro z4 e4 S5 e5
    rw [x] at e4
    have h4 := w_add e4 (by rw [q1]; omega)
    rw [q1] at h4
    rw [e5]
    exact h4
  have q3 : (300 : Int32).toInt = 300 := rfl
  unfold wp_notePut
  refine ⟨fun _ => key S rfl, fun c => ?_⟩
  have h3 : (S.1 27).toInt < 300 := by
    rcases Int.lt_or_le (S.1 27).toInt 300 with g | g
    · exact g
    · exact absurd (Int32.le_iff_toInt_le.mpr (by rw [q3]; exact g)) c
  refine ⟨⟨h.1, by show (S.1 27).toInt < 300; omega⟩, fun S2 e2 => ?_⟩
  have t2 : S2.1 27 = S.1 27 := by rw [e2]; rfl
  rw [t2]
  exact ⟨⟨h.1, by show (S.1 27).toInt < 300; omega⟩, fun S3 e3 => key S3 (by rw [e3]; exact t2)⟩
theorem sg_step {S : mS} (h1 : 0 ≤ (S.1 26).toInt ∧ (S.1 26).toInt ≤ 3000) (h2 : 0 ≤ (S.1 25).toInt ∧ (S.1 25).toInt ≤ 100000) : wp_step S (fun S1 r => (r = 0 ∧ S1 = S) ∨ (¬ r = 0 ∧ ((S1.1 26).toInt = (S.1 26).toInt + 1 ∧ (S1.1 26).toInt ≤ 3000) ∧ ((S1.1 25).toInt = (S.1 25).toInt + 1 ∧ (S1.1 25).toInt ≤ 100000) ∧ S1.2.1 = S.2.1)) := by
  have q1 : (1 : Int32).toInt = 1 := rfl
  unfold wp_step
  refine ⟨fun _ => Or.inl ⟨rfl, rfl⟩, fun c => ⟨fun c2 z3 e3 S4 e4 z5 e5 S6 e6 => Or.inr ⟨by decide, ?_⟩, fun _ => Or.inl ⟨rfl, rfl⟩⟩⟩
  have l : (S.1 26).toInt ≠ 3000 := fun h => c (Int32.toInt_inj.mp (by rw [h]; rfl))
  have l2 : (S.1 25).toInt ≠ 100000 := fun h => c2 (Int32.toInt_inj.mp (by rw [h]; rfl))
  have h3 := w_add e3 (by rw [q1]; omega)
  rw [q1] at h3
  have t4 : S4.1 25 = S.1 25 := by rw [e4]; rfl
  rw [t4] at e5
  have h5 := w_add e5 (by rw [q1]; omega)
  rw [q1] at h5
  have a6 : S6.1 26 = z3 := by rw [e6, e4]; rfl
  have b6 : S6.1 25 = z5 := by rw [e6]; rfl
  rw [a6, b6]
  exact ⟨⟨h3, by omega⟩, ⟨h5, by omega⟩, by rw [e6, e4]; rfl⟩
theorem W0_86 {hx : Nat} {cd nt nw : Int} {ty : Nat → T6} {P : mS} {S S1 : mS} {n : Nat} (hW : W0 hx cd nt nw ty P S) (ez : ∀ k, k ∈ WZ9 → S1.1 k = S.1 k) (ef : S1.2.1 = S.2.1) (e86 : ∀ i, ¬ i = n → S1.2.2 86 i = S.2.2 86 i) (h4 : ¬ (S.2.1 80) n = 4) : W0 hx cd nt nw ty P S1 := by
  obtain ⟨wE, wT, wD, wY, wC, wL, wR⟩ := hW
  have z5 := ez 5 (by decide)
  have z22 := ez 22 (by decide)
  have z23 := ez 23 (by decide)
  have z28 := ez 28 (by decide)
  have z29 := ez 29 (by decide)
  have z30 := ez 30 (by decide)
  refine ⟨⟨z5.trans wE.1, fun j h5 hj => by rw [ef]; exact wE.2 j h5 hj⟩, ?_, ⟨ET_rf, ?_, ?_, ?_, ?_, ?_, ?_⟩, ?_, by rw [ef]; exact wC, by rw [ef]; exact wL, by rw [ef, z22]; exact wR⟩
  · unfold TREE at wT ⊢; rw [z22, z29, ef]; exact wT
  · rw [z22, z23, ef]; exact wD.2.1
  · have q := wD.2.2.1; unfold D2 at q ⊢; rw [z22, ef]; exact q
  · have q := wD.2.2.2.1; unfold D3 at q ⊢; rw [z22, z29, ef]; exact q
  · have q := wD.2.2.2.2.1; unfold D4 OFT at q ⊢; rw [z22, z29, ef]; exact q
  · rw [z22, z28, ef]; exact wD.2.2.2.2.2.1
  · have q := wD.2.2.2.2.2.2
    rw [z30, z29, ef]
    refine ⟨q.1, fun i hi => ?_, q.2.2⟩
    have k := q.2.1 i hi
    refine ⟨k.1, k.2.1, fun g => ?_⟩
    rcases Decidable.em (ix ((S.2.1 87) i) = n) with d | d
    · exact absurd (d ▸ g) h4
    · rw [e86 _ d]; exact k.2.2 g
  · unfold TYP at wY ⊢; rw [z22, ef]; exact wY
/-- an inner node begins -/
theorem OPENX {hx : Nat} {cd nt nw : Int} {ty : Nat → T6} {P : mS} {u v : T6} {a1 : Int32} {S S11 Y : mS} (hW : W0 hx cd nt nw ty P S) (hB : RB hx cd ty u S) (h1 : u.2.2.1 = 1) (ho : u.2.2.2.2.1 ≤ 10) (ha : 0 ≤ a1.toInt ∧ a1.toInt ≤ 2) (hc : 1 + (if a1 = 2 then 1 else 0) ≤ u.2.2.2.1) (hv : v.2.2.1 = u.2.2.1 ∧ v.2.2.2.1 ≤ u.2.2.2.1 - 1 - (if a1 = 2 then 1 else 0) ∧ v.2.2.2.2.1 = u.2.2.2.2.1 + 1 ∧ v.2.2.2.2.2 = u.2.2.2.2.2) (hb : NNB a1 0 0 S S11) (hs : STD a1 0 S S11) (hF : Fr NDz NDf [] S S11) (y36 : Y.1 36 = S.1 29) (yz : ∀ k, k ≠ 36 → k ≠ 31 → Y.1 k = S11.1 k) (yf : Y.2.1 = S11.2.1) (yg : ∀ i, ¬ i = ix (S.1 29) → Y.2.2 86 i = S11.2.2 86 i) : W0 hx cd nt nw ty P Y ∧ RB hx cd ty v Y := by
  have hi9 : (0 : Int) ≤ (if a1 = 2 then 1 else 0) := by split <;> omega
  have hn := RB_nb2 hB h1 (by omega)
  have hu := RB_up hW hB h1
  have n6 : ¬ a1 = 6 := fun g => by rw [g] at ha; exact absurd ha (by decide)
  have n4 : ¬ a1 = 4 := fun g => by rw [g] at ha; exact absurd ha (by decide)
  have w11 := W0_nnb hW (by omega) ⟨hB.1.1, hB.1.2.1⟩ hu.1 hu.2 hb hs hF (fun i _ => by rw [hF.2.2 86 (by simp)]) (fun q => absurd q n6) (fun q => absurd q n4)
  have s11 : (S11.2.1 80) (ix (S.1 29)) = a1 := by rw [hb.2.1, upd_s]
  obtain ⟨en, c1, c2, c3⟩ := hb.2.2.2.1
  refine ⟨W0_86 (n := ix (S.1 29)) w11 (fun k hk => yz k (fun g => by rw [g] at hk; exact absurd hk (by decide)) (fun g => by rw [g] at hk; exact absurd hk (by decide))) yf yg (by rw [s11]; exact n4), ?_⟩
  have z := fun k (h1 : k ≠ 36) (h2 : k ≠ 31) (h3 : k ∉ NDz) => (yz k h1 h2).trans (hF.1 k h3)
  exact RB_op (so := a1) (en := en) hB h1 ho hv hc ((congrArg Int32.toInt (yz 29 (by decide) (by decide))).trans hb.1) (by rw [yf]; exact hb.2.1) (by rw [yf]; exact hb.2.2.1) (by rw [yf]; exact c1) (by rw [yf]; exact hb.2.2.2.2.2.2) (z 22 (by decide) (by decide) (by decide)) (z 25 (by decide) (by decide) (by decide)) (z 26 (by decide) (by decide) (by decide)) (z 33 (by decide) (by decide) (by decide)) (z 34 (by decide) (by decide) (by decide)) (z 35 (by decide) (by decide) (by decide)) y36 (z 37 (by decide) (by decide) (by decide)) (by rw [yf]; exact hF.2.1 54 (by decide)) (by rw [yf]; exact hF.2.1 60 (by decide))
theorem Fr_q {zs fs gs : List Nat} {S X : mS} (h : Fr zs fs gs S X) (hz : 25 ∉ zs ∧ 26 ∉ zs ∧ 27 ∉ zs) : (X.1 25).toInt = (S.1 25).toInt ∧ (X.1 26).toInt = (S.1 26).toInt ∧ (X.1 27).toInt = (S.1 27).toInt := ⟨congrArg _ (h.1 25 hz.1), congrArg _ (h.1 26 hz.2.1), congrArg _ (h.1 27 hz.2.2)⟩
theorem FWD {hx : Nat} {cd nt nw na : Int} {ty : Nat → T6} {P : mS} {q : Nat} {a F la : Int} {X : mS} (hx1 : hx ≤ 1) (hF : FWt hx cd nt nw na ty P) (hq : 12000 * hx ≤ q ∧ (q : Int) < cd) (hop : ¬ (P.2.1 12) q = 1) (hk : WK (a, 0, (ty q).2.2.1, (ty q).2.2.2.1, (ty q).2.2.2.2.1, (ty q).2.2.2.2.2) (ty (q + 1))) (hW : W0 hx cd nt nw ty P X) (hR : RF hx nt nw P (ty q).2.2.2.2.2 X) (hB : RB hx cd ty (ty q) X) (hp : (X.1 32).toInt = q + 1) (hf : FS X ≤ F) (hl : (X.1 26).toInt = la) (ht : TPd a 0 X) : WKS hx cd nt nw ty P (MV P q F la) X := by
  have k1 : (ty (q + 1)).1 = a := hk.2.1
  have k2 : (ty (q + 1)).2.1 ≤ 0 := hk.2.2.1
  have k6 : (ty (q + 1)).2.2.2.2.2 = (ty q).2.2.2.2.2 := hk.2.2.2.2.2.2
  refine WKS_f hx1 hF hq hop hW (by rw [k6]; exact hR) (RB_wk hB hk) ?_ hp k2 hf hl
  unfold TPd at ht ⊢
  rw [k1]
  omega
def RKD (a : Int32) : Int := if a.toInt ≤ 4 then 1 else if a.toInt = 5 then 0 else -1
theorem sg_reckons {hx : Nat} {cd nt nw na : Int} {ty : Nat → T6} {P : mS} {tu : T6} {tr : Int32} (a0 a1 : Int32) {S : mS} (hx1 : hx ≤ 1) (hb : 0 ≤ (S.1 33).toInt ∧ (S.1 33).toInt < 200) (hop : 2 ≤ a0.toInt ∧ a0.toInt ≤ 12) (ha : a0.toInt = 3 → 0 ≤ a1.toInt ∧ a1.toInt < 12) (ht : 0 ≤ (S.1 31).toInt ∧ (S.1 31).toInt ≤ 3000 ∧ (a0.toInt = 5 → 1 ≤ (S.1 31).toInt) ∧ (6 ≤ a0.toInt → 2 ≤ (S.1 31).toInt)) (hF : FWt hx cd nt nw na ty P) (hW : W0 hx cd nt nw ty P S) (hR : RF hx nt nw P tr S) (hB : RB hx cd ty tu S) (htr : tu.2.2.2.2.2 = tr) : wp_reckons a0 a1 S (fun S1 => (Fr [31] [88] [] S S1 ∧ (S1.1 31).toInt = (S.1 31).toInt + RKD a0) ∨ (6 ≤ a0.toInt ∧ (S1.1 31).toInt = (S.1 31).toInt - 2 ∧ (tu.2.2.1 = 1 → ENR hx cd nt nw ty P S1) ∧ (tu.2.2.1 = 0 → OUT hx cd nt nw ty P (FS S - 1) S1))) := by
  obtain ⟨K, hK⟩ : ∃ K : mS → Prop, K = (fun S1 => (Fr [31] [88] [] S S1 ∧ (S1.1 31).toInt = (S.1 31).toInt + RKD a0) ∨ (6 ≤ a0.toInt ∧ (S1.1 31).toInt = (S.1 31).toInt - 2 ∧ (tu.2.2.1 = 1 → ENR hx cd nt nw ty P S1) ∧ (tu.2.2.1 = 0 → OUT hx cd nt nw ty P (FS S - 1) S1))) := ⟨_, rfl⟩
  rw [← hK]
  have n2 : (2 : Int32).toInt = 2 := rfl
  have n3 : (3 : Int32).toInt = 3 := rfl
  have n4 : (4 : Int32).toInt = 4 := rfl
  have n5 : (5 : Int32).toInt = 5 := rfl
  have n12 : (12 : Int32).toInt = 12 := rfl
  have p51 : ∀ y : Int32, a0.toInt ≤ 4 → wp_reckons_51 K y S := by
    intro y h4
    unfold wp_reckons_51
    refine fm_push _ _ _ _ (fun S33 f p => ?_) (sg_push y ⟨ht.1, by omega⟩)
    rw [hK]
    refine Or.inl ⟨f, ?_⟩
    unfold RKD
    rw [if_pos h4]
    exact p
  have p15 : a0.toInt ≤ 4 → wp_reckons_15 K a0 a1 S := by
    intro h4
    unfold wp_reckons_15
    refine ⟨fun _ => ⟨fun _ => p51 _ h4, fun c z30 e30 z31 e31 => ?_⟩, fun _ => p51 _ h4⟩
    have a3 := ha (by rw [c]; rfl)
    have h30 := w_mul e30 (by rw [n12]; omega)
    rw [n12] at h30
    have h31 := w_add e31 (by omega)
    exact ⟨⟨by omega, by show z31.toInt < 2400; omega⟩, fun z32 _ => p51 _ h4⟩
  unfold wp_reckons
  refine ⟨fun c => p15 (by rw [c]; decide), fun c2 => ⟨fun c => p15 (by rw [c]; decide), fun c3 => ⟨fun c4 => ⟨fun c5 => ?_, fun c5 => ?_⟩, fun c => p15 (by rw [c]; decide)⟩⟩⟩
  · have h6 : 6 ≤ a0.toInt := by
      have k2 : a0.toInt ≠ 2 := fun h => c2 (Int32.toInt_inj.mp (h.trans n2.symm))
      have k3 : a0.toInt ≠ 3 := fun h => c3 (Int32.toInt_inj.mp (h.trans n3.symm))
      have k4 : a0.toInt ≠ 4 := fun h => c4 (Int32.toInt_inj.mp (h.trans n4.symm))
      have k5 : a0.toInt ≠ 5 := fun h => c5 (Int32.toInt_inj.mp (h.trans n5.symm))
      omega
    have t2 := ht.2.2.2 h6
    refine fm_pop _ _ _ (fun S5 r5 f5 p5 => ?_) (sg_pop ⟨by omega, by omega⟩)
    refine fm_pop _ _ _ (fun S6 r6 f6 p6 => ?_) (sg_pop ⟨by omega, by omega⟩)
    have f56 : Fr [31] [] [] S S6 := Fr_tt f5 f6
    have p205 : ∀ y : Int32, wp_reckons_205 K y S6 := by
      intro y
      unfold wp_reckons_205
      refine fm_push _ _ _ _ (fun S25 f p => ?_) (sg_push y ⟨by omega, by omega⟩)
      rw [hK]
      refine Or.inl ⟨Fr_tt (Fr_ww f56 (fun _ h => h) (fun k h => absurd h List.not_mem_nil) (fun _ h => h)) f, ?_⟩
      unfold RKD
      rw [if_neg (by omega), if_neg (by omega)]
      omega
    have p108 : (a0 = 7 → ¬ r5 = 0) → (a0 = 8 → ¬ r5 = 0) → wp_reckons_108 K a0 r5 r6 S6 := by
      intro g7 g8
      unfold wp_reckons_108
      exact ⟨fun _ => ⟨fun _ => ⟨fun _ => ⟨fun _ => ⟨fun _ => ⟨fun _ => ⟨fun _ => p205 _, fun _ => p205 _⟩, fun _ => ⟨fun _ => p205 _, fun _ => p205 _⟩⟩, fun _ z _ => p205 _⟩, fun _ z _ => p205 _⟩, fun h => ⟨g8 h, fun z _ => p205 _⟩⟩, fun h => ⟨g7 h, fun z _ => p205 _⟩⟩, fun _ z _ => p205 _⟩
    have p97 : wp_reckons_97 K a0 r5 r6 S6 := by
      unfold wp_reckons_97
      refine ⟨fun c => p108 (fun _ => c) (fun _ => c), fun c => ?_⟩
      have w6 := W0_nw (NW_fr f56 (by decide) (by decide) (by decide)) hW
      have r6_ := RF_nf (NF_fr f56 (by decide) (by decide)) hR
      have b6 := RB_nb (NB_fr f56 (by decide) (by decide)) hB
      have s6 := FS_nf (NF_fr f56 (by decide) (by decide))
      have t33 : S6.1 33 = S.1 33 := f56.1 33 (by decide)
      refine fm_failure _ _ _ _ (fun S27 f p => ?_) (sg_failure (tu := tu) (tr := tr) 11 hx1 (by rw [t33]; exact hb) hF w6 r6_ b6 htr)
      rw [hK]
      have t27 : S27.1 31 = S6.1 31 := f.1 31 (by decide)
      refine Or.inr ⟨h6, by rw [t27]; omega, p.2.1, fun h => ?_⟩
      have q := p.2.2 h
      rw [s6] at q
      exact q
    exact ⟨fun _ => p97, fun c7 => ⟨fun c8 => p108 (fun h => absurd h c7) (fun h => absurd h c8), fun _ => p97⟩⟩
  · have h5 : a0.toInt = 5 := by rw [c5]; rfl
    have t2 := ht.2.2.1 h5
    refine fm_pop _ _ _ (fun S9 r9 f9 p9 => ?_) (sg_pop ⟨by omega, by omega⟩)
    intro z10 e10
    refine fm_push _ _ _ _ (fun S11 f p => ?_) (sg_push z10 ⟨by omega, by omega⟩)
    rw [hK]
    refine Or.inl ⟨Fr_tt (Fr_ww f9 (fun _ h => h) (fun k h => absurd h List.not_mem_nil) (fun _ h => h)) f, ?_⟩
    unfold RKD
    rw [if_neg (by omega), if_pos h5]
    omega
theorem FWN {hx : Nat} {cd nt nw na : Int} {ty : Nat → T6} {P : mS} {q : Nat} {a iw cr oc F la : Int} {X : mS} (hx1 : hx ≤ 1) (hF : FWt hx cd nt nw na ty P) (hq : 12000 * hx ≤ q ∧ (q : Int) < cd) (hop : ¬ (P.2.1 12) q = 1) (hk : WK (a, 0, iw, cr, oc, (ty q).2.2.2.2.2) (ty (q + 1))) (hW : W0 hx cd nt nw ty P X) (hR : RF hx nt nw P (ty q).2.2.2.2.2 X) (hB : RB hx cd ty (ty (q + 1)) X) (hp : (X.1 32).toInt = q + 1) (hf : FS X ≤ F) (hl : (X.1 26).toInt = la) (ht : TPd a 0 X) : WKS hx cd nt nw ty P (MV P q F la) X := by
  have k1 : (ty (q + 1)).1 = a := hk.2.1
  have k2 : (ty (q + 1)).2.1 ≤ 0 := hk.2.2.1
  have k6 : (ty (q + 1)).2.2.2.2.2 = (ty q).2.2.2.2.2 := hk.2.2.2.2.2.2
  refine WKS_f hx1 hF hq hop hW (by rw [k6]; exact hR) hB ?_ hp k2 hf hl
  unfold TPd at ht ⊢
  rw [k1]
  omega
