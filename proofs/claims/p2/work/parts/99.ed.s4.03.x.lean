
theorem sg_shuts {hx : Nat} {cd nt nw : Int} {ty : Nat → T6} {P : mS} {u v : T6} {tr : Int32} {S : mS} (hc : 0 ≤ (S.1 24).toInt) (hW : W0 hx cd nt nw ty P S) (hR : RF hx nt nw P tr S) (hB : RB hx cd ty u S) (h1 : u.2.2.1 = 1) (ho : 1 ≤ u.2.2.2.2.1) (hv : v.2.2.1 = u.2.2.1 ∧ v.2.2.2.1 ≤ u.2.2.2.1 ∧ v.2.2.2.2.1 = u.2.2.2.2.1 - 1 ∧ v.2.2.2.2.2 = u.2.2.2.2.2) : wp_shuts S (fun S1 => True ∧ (W0 hx cd nt nw ty P S1 ∧ RF hx nt nw P tr S1 ∧ RB hx cd ty v S1)) := by
  obtain ⟨a1, a2, a3, a4, a5, oc, ow, b1, b2, b3, b4, b5⟩ := hB.2.2.2.1 h1
  have rp := RP_of hB h1
  have o11 := hB.2.2.2.2.2
  obtain ⟨n, rfl⟩ : ∃ n, oc = n + 1 := ⟨oc - 1, by omega⟩
  have hu := b3.1
  have hu2 := b3.2.1
  have hst := hB.2.1
  have iu : inR (S.1 36) 100300 := ⟨by omega, by show (S.1 36).toInt < 100300; omega⟩
  have key : ∀ (X : mS) (ow : Int), W0 hx cd nt nw ty P X → RF hx nt nw P tr X → RP hx cd ty v.2.2.2.2.2 X → X.1 36 = S.1 36 → OPN ((X.2.1 81)) ((X.2.1 82)) ((X.2.1 80)) (X.1 35).toInt (n + 1) (X.1 36) (X.1 29).toInt ow → ((X.1 29).toInt + v.2.2.2.1 + (ow - if (X.2.1 80) (ix (X.1 36)) = 2 then 1 else 0) ≤ (X.1 25).toInt ∧ (X.1 29).toInt + (ow - if (X.2.1 80) (ix (X.1 36)) = 2 then 1 else 0) ≤ (X.1 25).toInt) → wp_shuts_26 (fun S1 => True ∧ (W0 hx cd nt nw ty P S1 ∧ RF hx nt nw P tr S1 ∧ RB hx cd ty v S1)) (S.1 36) X := by
    intro X ow xW xR xP x36 xO xc
    have xu := xO.1
    have xu2 := xO.2.1
    rw [x36] at xu xu2
    have xn := xP.2.1
    have xa := xP.2.2.2.1
    have nb := xW.2.1.1
    unfold wp_shuts_26
    refine ⟨iu, fun S6 e6 => ⟨iu, fun z7 e7 S8 e8 => ?_⟩⟩
    have g82 : S6.2.1 82 = upd (X.2.1 82) (ix (S.1 36)) (X.1 29) := by rw [e6]; rfl
    have w6 : W0 hx cd nt nw ty P S6 := W0_82 (n := S.1 36) (en := X.1 29) xW ⟨by omega, by omega⟩ rfl g82 (fun k k1 k2 => ⟨xO.2.2.1 k (by rw [x36]; exact k1) k2, Int32.toInt_inj.mp ((xP.2.2.2.2.2.1 k (by omega) k2).trans (xP.2.2.2.2.2.1 (S.1 36) (by omega) (by omega)).symm)⟩) (fun k _ => by rw [e6]; rfl) (fun k hk => by rw [e6, q_ff, if_neg (by rcases hk with g | g <;> omega)]) (by rw [e6]; rfl)
    have w8 := W0_nw (NW_z e8 (by decide)) w6
    have r8 := RF_nf (NF_z e8 (by decide)) (RF_nf (NF_f e6 (by decide)) xR)
    have z36 : S8.1 36 = X.2.1 81 (ix (X.1 36)) := by rw [e8]; show z7 = _; rw [e7, e6, x36]; rfl
    have fz : ∀ k, k ≠ 36 → S8.1 k = X.1 k := fun k h => by rw [e8]; show upd S6.1 36 z7 k = _; rw [upd_n h, e6]; rfl
    have ff : ∀ k, k ≠ 82 → S8.2.1 k = X.2.1 k := fun k h => by rw [e8]; show S6.2.1 k = _; rw [e6, q_ff, if_neg h]
    have f82 : S8.2.1 82 = upd (X.2.1 82) (ix (X.1 36)) (X.1 29) := by rw [e8, x36]; exact g82
    have b8 : RB hx cd ty v S8 := RB_sh (en := X.1 29) xP (hv.1.trans h1) xO (by omega) (by omega) xc (by omega) (ff 80 (by decide)) (ff 81 (by decide)) f82 (ff 85 (by decide)) (fz 22 (by decide)) (fz 25 (by decide)) (fz 26 (by decide)) (fz 29 (by decide)) (fz 33 (by decide)) (fz 34 (by decide)) (fz 35 (by decide)) z36 (fz 37 (by decide)) (ff 54 (by decide)) (ff 60 (by decide))
    refine fq_weighs _ _ _ _ (fun S9 hF p => ⟨trivial, p.2.1, RF_nf (NF_fr hF (by decide) (by decide)) r8, p.2.2⟩) (sr_weighs (u := v) _ ⟨by omega, by rw [fz 29 (by decide)]; exact xu2, ?_⟩ w8 b8)
    rw [f82, x36, upd_s]
    omega
  unfold wp_shuts
  refine ⟨iu, fun z1 e1 => ⟨fun c => ?_, fun c => ⟨iu, fun z3 e3 z4 e4 => ?_⟩⟩⟩
  · refine key S ow hW hR (by rw [hv.2.2.2]; exact rp) rfl b3 ?_
    rw [if_neg (by rw [← e1]; exact c)]
    omega
  · have s2 : (S.2.1 80) (ix (S.1 36)) = 2 := by rw [← e1]; exact c
    have ow1 : 1 ≤ ow := by
      have q := OPN_ow _ _ _ _ b3.2.2.2
      rw [if_pos s2] at q
      omega
    have up9 := RB_up hW hB h1
    have nb9 := hW.2.1.1.2.2.1
    refine fm_tickNode _ _ _ _ (fun S5 hF p => ?_) (sg_tickNode z4 hc (by omega) hW ⟨hB.1.1, hB.1.2.1⟩ up9.1 up9.2)
    obtain ⟨p1, ⟨st, nb⟩, w5⟩ := p
    obtain ⟨en, c1, c2, c3⟩ := nb.2.2.2.1
    have z36 : S5.1 36 = S.1 36 := hF.1 36 (by decide)
    have z35 : S5.1 35 = S.1 35 := hF.1 35 (by decide)
    have ne : ¬ ix (S.1 36) = ix (S.1 29) := by unfold ix; omega
    have ext : ∀ i : Nat, (i : Int) < (S.1 29).toInt → S5.2.1 81 i = S.2.1 81 i ∧ S5.2.1 82 i = S.2.1 82 i ∧ S5.2.1 80 i = S.2.1 80 i := fun i hi => by
      rw [nb.2.1, nb.2.2.1, c1, upd_n (by unfold ix; omega), upd_n (by unfold ix; omega), upd_n (by unfold ix; omega)]
      exact ⟨rfl, rfl, rfl⟩
    refine key S5 ow w5 (RF_nf (NF_fr hF (by decide) (by decide)) hR) ?_ z36 ?_ ?_
    · rw [hv.2.2.2]
      exact RP_nn rp (by omega) nb9 nb.1 nb.2.2.2.2.2.2 (hF.1 22 (by decide)) (hF.1 25 (by decide)) (hF.1 26 (by decide)) (hF.1 33 (by decide)) (hF.1 34 (by decide)) z35 (hF.1 37 (by decide)) (hF.2.1 54 (by decide)) (hF.2.1 60 (by decide))
    · rw [z35, z36]
      exact OPN_leaf (m := (S.1 29)) (OPN_ext a2 _ _ _ _ ext b3) (by rw [c1, upd_s]; have := c2 (by decide); omega) nb.1
    · have s5 : S5.2.1 80 (ix (S5.1 36)) = 2 := by rw [nb.2.1, z36, upd_n ne]; exact s2
      rw [if_pos s5, show S5.1 25 = S.1 25 from hF.1 25 (by decide), nb.1]
      omega
theorem sg_spent {hx : Nat} {cd nt nw : Int} {ty : Nat → T6} {P : mS} {u : T6} {S : mS} (hW : W0 hx cd nt nw ty P S) (hB : RB hx cd ty u S) : wp_spent S (fun S1 => True ∧ ENR hx cd nt nw ty P S1) := by
  unfold wp_spent
  refine ⟨fun c => ?_, fun c => ?_⟩
  · exact sr_ends (u := u) _ _ _ rfl hW hB
  · have i1 : u.2.2.1 = 1 := hB.2.2.2.2.1.resolve_left (fun g => c (hB.2.2.1 g))
    refine fq_letGo _ _ _ _ _ (fun S2 hF p => ?_) (sr_letGo (u := u) _ _ ⟨rfl, rfl⟩ hW hB i1)
    exact sr_ends (u := u) _ _ _ rfl p.2.1 p.2.2
