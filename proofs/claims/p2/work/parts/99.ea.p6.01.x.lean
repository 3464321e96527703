
theorem WB_ad2 {nx n : Nat} {so pl : Nat → Int32} {wo ws : Nat → Int64} {GW GT GW1 GT1 : Int} {S S1 : mS} (hG : LG2 n so pl wo ws) (h : WB nx pl GW GT S) (hf : (S1.1 4) = 0 → (S.1 4) = 0 ∧ 0 ≤ (S.1 3).toInt ∧ (S.1 3).toInt ≤ (S1.1 3).toInt ∧ (S1.1 3).toInt ≤ n) (hw : (S1.1 10) = (S.1 10)) (ht : (S1.1 9) = (S.1 9)) (h1 : GW ≤ GW1) (h2 : GT ≤ GT1) : WB nx pl GW1 GT1 S1 := by
  have q := WB_adv hG h hf hw ht
  intro hf1
  have q1 := q hf1
  omega
theorem WB_nf {nx : Nat} {pl : Nat → Int32} {GW GT : Int} {S : mS} (hf : ¬ (S.1 4) = 0) : WB nx pl GW GT S := fun q => absurd q hf
theorem WB_nw {nx n : Nat} {so pl : Nat → Int32} {wo ws : Nat → Int64} {GW GT : Int} {S S1 : mS} (hG : LG2 n so pl wo ws) (h : WB nx pl GW GT S) (hf : (S1.1 4) = 0 → (S.1 4) = 0 ∧ 0 ≤ (S.1 3).toInt ∧ (S.1 3).toInt < (S1.1 3).toInt ∧ (S1.1 3).toInt ≤ n) (hw : (S1.1 10).toInt = (S.1 10).toInt + 1) (ht : (S1.1 9) = (S.1 9)) : WB nx pl (GW + 7) GT S1 := by
  intro h1
  obtain ⟨q1, q2, q3, q4⟩ := hf h1
  have q5 := h q1
  have q6 := PLM hG (S.1 3) (S1.1 3) q2 (by omega) q4
  rw [ht]
  omega
theorem WB_nt {nx n : Nat} {so pl : Nat → Int32} {wo ws : Nat → Int64} {GW GT : Int} {S S1 : mS} (hG : LG2 n so pl wo ws) (h : WB nx pl GW GT S) (hf : (S1.1 4) = 0 → (S.1 4) = 0 ∧ 0 ≤ (S.1 3).toInt ∧ (S.1 3).toInt ≤ (S1.1 3).toInt ∧ (S1.1 3).toInt ≤ n) (hw : (S1.1 10) = (S.1 10)) (ht : (S1.1 9).toInt = (S.1 9).toInt + 1) : WB nx pl GW (GT + 9) S1 := by
  intro h1
  obtain ⟨q1, q2, q3, q4⟩ := hf h1
  have q5 := h q1
  have q6 := PLM hG (S.1 3) (S1.1 3) q2 q3 q4
  rw [hw]
  omega
theorem WB_on {nx n : Nat} {so pl : Nat → Int32} {wo ws : Nat → Int64} {GW GT : Int} {S S1 : mS} (hG : LG2 n so pl wo ws) (h : WB nx pl GW GT S) (hs : so (ix (S.1 3)) = 1) (hw1 : wo (ix (S.1 3)) = ws (ix 11)) (h0 : 0 ≤ (S.1 3).toInt ∧ (S.1 3).toInt < n) (e : (S1.1 3).toInt = (S.1 3).toInt + 1) (ef : (S1.1 4) = (S.1 4)) (hw : (S1.1 10) = (S.1 10)) (ht : (S1.1 9) = (S.1 9)) : WB nx pl GW (GT - 2) S1 := by
  intro h1
  have q5 := h (by rw [← ef]; exact h1)
  have e1 : ix (S1.1 3) = ix (S.1 3) + 1 := by unfold ix; omega
  have q6 := hG.2.2.2.1 (ix (S.1 3)) (by unfold ix; omega) hs hw1
  rw [hw, ht, e1]
  omega
theorem WB_fi {nx n : Nat} {so pl : Nat → Int32} {wo ws : Nat → Int64} {GW GT : Int} {S S1 : mS} (hG : LG2 n so pl wo ws) (h : WB nx pl GW GT S) (hs : so (ix (S.1 3)) = 1) (hw1 : wo (ix (S.1 3)) = ws (ix 12)) (h0 : 0 ≤ (S.1 3).toInt ∧ (S.1 3).toInt < n) (e : (S1.1 3).toInt = (S.1 3).toInt + 1) (ef : (S1.1 4) = (S.1 4)) (hw : (S1.1 10) = (S.1 10)) (ht : (S1.1 9) = (S.1 9)) : WB nx pl GW (GT - 6) S1 := by
  intro h1
  have q5 := h (by rw [← ef]; exact h1)
  have e1 : ix (S1.1 3) = ix (S.1 3) + 1 := by unfold ix; omega
  have q6 := hG.2.2.2.2.1 (ix (S.1 3)) (by unfold ix; omega) hs hw1
  rw [hw, ht, e1]
  omega
theorem PW_in {nx : Nat} {w x : Int32} {we : Nat → Int32} (h : PW nx w we) (h1 : 500 * nx ≤ x.toInt) (h2 : x.toInt < w.toInt) : 12000 * nx ≤ (we (ix x)).toInt ∧ (we (ix x)).toInt < 12000 * nx + 12000 := h (ix x) (by unfold ix; omega) (by unfold ix; omega)
theorem PW_up {nx : Nat} {w w1 v : Int32} {we : Nat → Int32} (h : PW nx w we) (h0 : 0 ≤ w.toInt) (h1 : w1.toInt = w.toInt + 1) (hv : 12000 * nx ≤ v.toInt ∧ v.toInt < 12000 * nx + 12000) : PW nx w1 (upd we (ix w) v) := by
  intro k h2 h3
  unfold upd
  rcases Decidable.em (k = ix w) with e | e
  · rw [if_pos e]; exact hv
  · rw [if_neg e]; exact h k h2 (by unfold ix at e; omega)
theorem PTc_in {nx : Nat} {w x : Int32} {tt ba fa : Nat → Int32} (h : PTc nx w tt ba fa) (h1 : 500 * nx ≤ x.toInt) (h2 : x.toInt < w.toInt) : 12000 * nx ≤ (ba (ix x)).toInt ∧ (ba (ix x)).toInt < 12000 * nx + 12000 ∧ 12000 * nx ≤ (fa (ix x)).toInt ∧ (fa (ix x)).toInt < 12000 * nx + 12000 := (h (ix x) (by unfold ix; omega) (by unfold ix; omega)).2
theorem PTc_up {nx : Nat} {w w1 v1 v2 v3 : Int32} {tt ba fa : Nat → Int32} (h : PTc nx w tt ba fa) (h0 : 0 ≤ w.toInt) (h1 : w1.toInt = w.toInt + 1) (hv1 : OR1 (500 * nx) w.toInt v1.toInt) (hv2 : 12000 * nx ≤ v2.toInt ∧ v2.toInt < 12000 * nx + 12000) (hv3 : 12000 * nx ≤ v3.toInt ∧ v3.toInt < 12000 * nx + 12000) : PTc nx w1 (upd tt (ix w) v1) (upd ba (ix w) v2) (upd fa (ix w) v3) := by
  intro k h2 h3
  unfold upd
  rcases Decidable.em (k = ix w) with e | e
  · simp only [if_pos e]
    refine ⟨?_, hv2.1, hv2.2, hv3.1, hv3.2⟩
    have hk : (k : Int) = w.toInt := by rw [e]; unfold ix; omega
    rcases hv1 with q | q
    · exact Or.inl q
    · exact Or.inr ⟨by have := q.1; omega, by have := q.2; omega⟩
  · simp only [if_neg e]
    exact h k h2 (by unfold ix at e; omega)
theorem LA_p {nx : Nat} {x : Int} (h : LA nx x) (h0 : 0 ≤ x) : 12000 * nx ≤ x := h.elim (fun q => absurd q (by omega)) id
theorem CS_lift {nx : Nat} {L L1 : LT3} {nt nw nt1 nw1 : Int} {tr : Int32} {S S1 : mS} (e : S1.1 = S.1) (hw : ∀ (cd lt : Int) (u : T6), CW nx L cd nt nw lt u S → CW nx L1 cd nt1 nw1 lt u S1) (h : CS nx L nt nw tr S) : CS nx L1 nt1 nw1 tr S1 := fun hf => by
  have hf0 : (S.1 4) = 0 := by rw [← e]; exact hf
  have q := hw _ _ _ (h hf0)
  rw [e]
  exact q
theorem CF_lift {nx : Nat} {L L1 : LT3} {nt nw nt1 nw1 h c i r o : Int} {tr : Int32} {S S1 : mS} (e : S1.1 = S.1) (hw : ∀ (cd lt : Int) (u : T6), CW nx L cd nt nw lt u S → CW nx L1 cd nt1 nw1 lt u S1) (q : CF nx L nt nw h c i r o tr S) : CF nx L1 nt1 nw1 h c i r o tr S1 := fun hf => by
  have hf0 : (S.1 4) = 0 := by rw [← e]; exact hf
  obtain ⟨e9, c9, a1, a2, a3⟩ := q hf0
  have k := hw _ _ _ a3
  refine ⟨e9, c9, a1, a2, ?_⟩
  rw [e]
  exact k
theorem CS_stepE {nx : Nat} {L : LT3} {nt nw : Int} {tr : Int32} {S S1 : mS} (hE : EN nx 1 0 0 S S1) (h : CS nx L nt nw tr S) : CF nx L nt nw 0 1 0 0 0 tr S1 := fun hf => by
  obtain ⟨e9, c9, a1, a2, a3⟩ := CF_step hE (CS_CF h) (Int.le_refl _) hf
  exact ⟨e9, c9, a1, by omega, a3⟩
theorem CD_lift {nx : Nat} {L L1 : LT3} {nt nw nt1 nw1 : Int} {S S1 : mS} (e : S1.1 = S.1) (hw : ∀ (cd lt : Int) (u : T6), CW nx L cd nt nw lt u S → CW nx L1 cd nt1 nw1 lt u S1) (h : CD nx L nt nw S) : CD nx L1 nt1 nw1 S1 := fun hf => by
  have hf0 : (S.1 4) = 0 := by rw [← e]; exact hf
  have q := hw _ _ _ (h hf0).2
  rw [e]
  exact ⟨(h hf0).1, q⟩
theorem sF_comm {S : mS} {k k' i i' : Nat} {v v' : Int32} (h : k ≠ k') : sF (sF S k i v) k' i' v' = sF (sF S k' i' v') k i v := by
  apply Prod.ext
  · rfl
  apply Prod.ext
  · funext j x
    simp only [q_fx]
    by_cases a : j = k
    · by_cases b : j = k'
      · exact absurd (a.symm.trans b) h
      · simp [a, h]
    · by_cases b : j = k'
      · have h2 : ¬ k' = k := fun q => h q.symm
        simp [b, h2]
      · simp [a, b]
  · rfl
theorem CS_loop {nx : Nat} {L : LT3} {nt nw : Int} {tr w : Int32} {S S1 S2 : mS} (hE : EN nx 1 0 0 S S1) (e : S2 = sF S1 42 (ix w) (S.1 7)) (hw : w.toInt = nw) (h0 : 0 ≤ w.toInt) (htr : (S.2.1 40) (ix w) = tr) (hd : (S.1 4) = 0 → 0 ≤ ((S.2.1 41) (ix w)).toInt ∧ dpt ((S.2.1 25)) (ix ((S.2.1 41) (ix w))) ((S.2.1 40) (ix w)) ∧ rg nx nt ((S.2.1 40) (ix w))) (h : CS nx L nt nw tr S) : CS nx ((ix w, 4, (0 : Int32)) :: L) nt (nw + 1) tr S2 := by
  have hi : nw ≤ ((ix w : Nat) : Int) := by unfold ix; omega
  intro hf
  have hg := EM_f hE.2.2
  have z2 : S2.1 = S1.1 := by rw [e]; rfl
  have hf0 : (S.1 4) = 0 := by rw [← hg.1, ← z2]; exact hf
  obtain ⟨ty, hw9, hu⟩ := h hf0
  obtain ⟨ty1, a1, a2, a3⟩ := CW_emitt (v := ST tr) hE.2.2 hE.1 hE.2.1 hw9 hu (fun _ q => q) (fun _ q => Or.inl q) (fun ty ty1 hw ht => ⟨by decide, by decide, fun g => absurd g (by decide), fun _ => WK_i (Int.le_refl _) rfl (show (0 : Int) ≤ 1 by decide) rfl (show (0 : Int) ≤ 0 + 1 by decide) rfl rfl, fun g => absurd g (by decide), fun g => absurd g (by decide), fun g => absurd g (by decide), fun g => absurd g (by decide), fun g => absurd g (by decide), fun g => absurd g (by decide), fun g => absurd g (by decide), fun g => absurd g (by decide), fun g => absurd g (by decide), fun g => absurd g (by decide), fun g => absurd g (by decide), fun g => absurd g (by decide), fun g => absurd g (by decide), fun g => absurd g (by decide), fun g => absurd g (by decide), fun g => absurd g (by decide), fun g => absurd g (by decide), fun g => absurd g (by decide), fun g => absurd g (by decide), fun g => absurd g (by decide)⟩)
  have b1 := CWt_w42 e hi a1
  have e1 : S2.2.1 42 (ix w) = (S.1 7) := by rw [e, q_fx, if_pos rfl, if_pos rfl]
  have e2 : ∀ k, ¬ k = 42 → S2.2.1 k = S1.2.1 k := by
    intro k hk
    rw [e, q_ff, if_neg hk]
  have e3 : ∀ k, 15 ≤ k → S1.2.1 k = S.2.1 k := by
    intro k hk
    rw [hE.2.2]
    show upF (upF (upF S.2.1 12 _) 13 _) 14 _ k = _
    unfold upF
    rw [if_neg (by omega), if_neg (by omega), if_neg (by omega)]
  have e40 : S2.2.1 40 = S.2.1 40 := (e2 40 (by decide)).trans (e3 40 (by decide))
  have e41 : S2.2.1 41 = S.2.1 41 := (e2 41 (by decide)).trans (e3 41 (by decide))
  have e25 : S2.2.1 25 = S.2.1 25 := (e2 25 (by decide)).trans (e3 25 (by decide))
  have o12 : S2.2.1 12 (ix (S.1 7)) = 1 := by
    rw [e2 12 (by decide), hE.2.2]
    show upd ((S.2.1 12)) (ix (S.1 7)) 1 (ix (S.1 7)) = 1
    unfold upd
    rw [if_pos rfl]
  have h7 : (S2.1 7).toInt = (S.1 7).toInt + 1 := by rw [z2]; exact hE.2.1
  have h11 : (S2.1 11) = (S.1 11) := by rw [z2]; exact hg.2
  have q := CW_nw (u := ST tr) hw h0 b1 a2 (by
    rw [e1, e40, htr]
    refine ⟨⟨hE.1, by rw [hE.2.1]; omega, ?_⟩, by rw [hE.2.1]; omega, o12⟩
    rw [a3 (ix (S.1 7)) (by have := hE.1; unfold ix; omega)]
    exact hu) (by rw [e40, e41, e25]; exact hd hf0)
  rw [z2, hg.2]
  exact q
/-- a while is closed: its way out is the frontier -/
theorem CS_wcl {nx : Nat} {L : LT3} {nt nw : Int} {tr w : Int32} {S : mS} (hw : 0 ≤ w.toInt) (h0 : 12000 * nx ≤ (S.1 7).toInt) (ho : (S.2.1 43) (ix w) = (S.1 7)) (ht : (S.2.1 40) (ix w) = tr) (h : CS nx ((ix w, 4, (0 : Int32)) :: L) nt nw tr S) : CS nx L nt nw tr S := fun hf =>
  CW_cl hw ⟨by decide, by decide⟩ (h hf) (fun ty hu => ⟨fun q => absurd q (by decide), fun q => absurd q (by decide), fun q => absurd q (by decide), fun _ => ⟨by rw [ho]; exact h0, by rw [ho]; exact Int.le_refl _, by rw [ho, ht]; exact hu⟩⟩)
theorem CS_ocl {nx : Nat} {L : LT3} {nt nw : Int} {t : Int32} {S : mS} (hw : 0 ≤ t.toInt) (h0 : 12000 * nx ≤ (S.1 7).toInt) (ho : (S.2.1 30) (ix t) = (S.1 7)) (hc : (S.1 4) = 0 → 0 ≤ ((S.2.1 31) (ix t)).toInt ∧ ((S.2.1 31) (ix t)).toInt < 12) (h : CS nx ((ix t, 1, (0 : Int32)) :: L) nt nw t S) : CS nx L nt nw t S := fun hf =>
  CW_cl hw ⟨by decide, by decide⟩ (h hf) (fun ty hu => ⟨fun _ => Or.inr ⟨⟨by rw [ho]; exact h0, by rw [ho]; exact Int.le_refl _, by rw [ho]; exact hu⟩, hc hf⟩, fun q => absurd q (by decide), fun q => absurd q (by decide), fun q => absurd q (by decide)⟩)
theorem CS_fcl {nx : Nat} {L : LT3} {nt nw : Int} {t : Int32} {S : mS} (hw : 0 ≤ t.toInt) (h0 : 12000 * nx ≤ (S.1 7).toInt) (ho : (S.2.1 32) (ix t) = (S.1 7)) (h : CS nx ((ix t, 2, (0 : Int32)) :: L) nt nw t S) : CS nx L nt nw t S := fun hf =>
  CW_cl hw ⟨by decide, by decide⟩ (h hf) (fun ty hu => ⟨fun q => absurd q (by decide), fun _ => Or.inr ⟨⟨by rw [ho]; exact h0, by rw [ho]; exact Int.le_refl _, by rw [ho]; exact hu⟩, by rw [ho]⟩, fun q => absurd q (by decide), fun q => absurd q (by decide)⟩)
theorem CS_bcl {nx : Nat} {L : LT3} {nt nw : Int} {t tr : Int32} {S : mS} (hw : 0 ≤ t.toInt) (h0 : 12000 * nx ≤ (S.1 7).toInt) (ho : (S.2.1 33) (ix t) = (S.1 7)) (ht : (S.2.1 25) (ix t) = tr) (h : CS nx ((ix t, 3, (0 : Int32)) :: L) nt nw tr S) : CS nx L nt nw tr S := fun hf =>
  CW_cl hw ⟨by decide, by decide⟩ (h hf) (fun ty hu => ⟨fun q => absurd q (by decide), fun q => absurd q (by decide), fun _ => ⟨by rw [ho]; exact h0, by rw [ho]; exact Int.le_refl _, by rw [ho, ht]; exact hu⟩, fun q => absurd q (by decide)⟩)
theorem CD_ocl {nx : Nat} {L : LT3} {nt nw : Int} {t : Int32} {S : mS} (hw : 0 ≤ t.toInt) (ho : (S.1 4) = 0 → (S.2.1 28) (ix t) = 0) (h : CD nx ((ix t, 1, (0 : Int32)) :: L) nt nw S) : CD nx L nt nw S := fun hf =>
  ⟨(h hf).1, CW_cl hw ⟨by decide, by decide⟩ (h hf).2 (fun ty hu => ⟨fun _ => Or.inl (ho hf), fun q => absurd q (by decide), fun q => absurd q (by decide), fun q => absurd q (by decide)⟩)⟩
theorem CD_fcl {nx : Nat} {L : LT3} {nt nw : Int} {t : Int32} {S : mS} (hw : 0 ≤ t.toInt) (ho : (S.1 4) = 0 → (S.2.1 29) (ix t) = 0) (h : CD nx ((ix t, 2, (0 : Int32)) :: L) nt nw S) : CD nx L nt nw S := fun hf =>
  ⟨(h hf).1, CW_cl hw ⟨by decide, by decide⟩ (h hf).2 (fun ty hu => ⟨fun q => absurd q (by decide), fun _ => Or.inl (ho hf), fun q => absurd q (by decide), fun q => absurd q (by decide)⟩)⟩
theorem CS_nt {nx : Nat} {L : LT3} {nt nw : Int} {tr w : Int32} {S : mS} (hw0 : w.toInt = nt) (h0 : 0 ≤ w.toInt) (h : CS nx L nt nw tr S) : CS nx ((ix w, 1, (0 : Int32)) :: (ix w, 2, (0 : Int32)) :: (ix w, 3, (0 : Int32)) :: L) (nt + 1) nw tr S := fun hf => CW_nt hw0 h0 (h hf)
theorem CF_nt {nx : Nat} {L : LT3} {nt nw h c i r o : Int} {tr w : Int32} {S : mS} (hw0 : w.toInt = nt) (h0 : 0 ≤ w.toInt) (q : CF nx L nt nw h c i r o tr S) : CF nx ((ix w, 1, (0 : Int32)) :: (ix w, 2, (0 : Int32)) :: (ix w, 3, (0 : Int32)) :: L) (nt + 1) nw h c i r o tr S := fun hf => by
  obtain ⟨e9, c9, a1, a2, a3⟩ := q hf
  exact ⟨e9, c9, a1, a2, CW_nt hw0 h0 a3⟩
/-- the acts, with bounds of their own: kn tries, kw whiles; of the try kx its handler is not yet noted -/
def AT2 (nx : Nat) (na nt nw kx : Int) (S : mS) (t : Nat) : Prop := (((S.2.1 25) t).toInt = -1 ∨ (500 * nx ≤ ((S.2.1 25) t).toInt ∧ ((S.2.1 25) t).toInt < t)) ∧ (12000 * nx ≤ ((S.2.1 35) t).toInt ∧ ((S.2.1 35) t).toInt < na) ∧ (12000 * nx ≤ ((S.2.1 36) t).toInt ∧ ((S.2.1 36) t).toInt < na) ∧ (¬ (S.2.1 28) t = 0 → (t : Int) ≠ kx → 12000 * nx ≤ ((S.2.1 34) t).toInt ∧ ((S.2.1 34) t).toInt < na) ∧ (¬ (S.2.1 37) t = 0 ∨ ¬ (S.2.1 38) t = 0 → 0 ≤ ((S.2.1 27) t).toInt) ∧ (0 ≤ ((S.2.1 27) t).toInt → 500 * nx ≤ ((S.2.1 27) t).toInt ∧ ((S.2.1 27) t).toInt < nw ∧ ((S.2.1 25) t = (S.2.1 40) (ix ((S.2.1 27) t)) ∨ (0 ≤ ((S.2.1 25) t).toInt ∧ (S.2.1 27) (ix ((S.2.1 25) t)) = (S.2.1 27) t)))
def AWv (nx : Nat) (na nt nw kx : Int) (S : mS) : Prop := (∀ a : Nat, 12000 * nx ≤ a → (a : Int) < na → AC nx na nt nw S a) ∧ (∀ t : Nat, 500 * nx ≤ t → (t : Int) < nt → AT2 nx na nt nw kx S t) ∧ (∀ w : Nat, 500 * nx ≤ w → (w : Int) < nw → AL nx na S w)
def AFv (nx : Nat) (m kn kw kx : Int) (S : mS) : Prop := ((S.1 13).toInt = -1 ∨ (500 * nx ≤ (S.1 13).toInt ∧ (S.1 13).toInt < kn)) ∧ ((S.1 4) = 0 → (S.1 19).toInt = -1 ∨ (12000 * nx ≤ (S.1 19).toInt ∧ (S.1 19).toInt < (S.1 8).toInt)) ∧ 12000 * nx ≤ (S.1 8).toInt ∧ ((S.1 4) = 0 → AWv nx (S.1 8).toInt kn kw kx S ∧ AG nx (S.1 8).toInt m (S.1 12).toInt S)
theorem AT2_o {nx t : Nat} {na nt nw kx : Int} {S : mS} (q : AT nx na nt nw S t) : AT2 nx na nt nw kx S t := ⟨q.1, q.2.1, q.2.2.1, fun g _ => q.2.2.2.1 g, q.2.2.2.2.1, q.2.2.2.2.2⟩
theorem AFv_o {nx : Nat} {m : Int} {S : mS} (kx : Int) (h : AF nx m S) : AFv nx m (S.1 9).toInt (S.1 10).toInt kx S := ⟨h.1, h.2.1, h.2.2.1, fun hf => ⟨⟨(h.2.2.2 hf).1.1, fun t h1 h2 => AT2_o ((h.2.2.2 hf).1.2.1 t h1 h2), (h.2.2.2 hf).1.2.2⟩, (h.2.2.2 hf).2⟩⟩
theorem AF_o {nx : Nat} {m kn kw : Int} {S : mS} (h : AFv nx m kn kw (-1) S) (e1 : (S.1 9).toInt = kn) (e2 : (S.1 10).toInt = kw) : AF nx m S := by
  subst e1 e2
  exact ⟨h.1, h.2.1, h.2.2.1, fun hf => ⟨⟨(h.2.2.2 hf).1.1, fun t h1 h2 => by
    have q := (h.2.2.2 hf).1.2.1 t h1 h2
    exact ⟨q.1, q.2.1, q.2.2.1, fun g => q.2.2.2.1 g (by omega), q.2.2.2.2.1, q.2.2.2.2.2⟩, (h.2.2.2 hf).1.2.2⟩, (h.2.2.2 hf).2⟩⟩
theorem AWv_aa {nx : Nat} {na nt nw kx : Int} {S S1 : mS} (e : ∀ k, k ∈ AA9 → S1.2.1 k = S.2.1 k) (h : AWv nx na nt nw kx S) : AWv nx na nt nw kx S1 := by
  have e15 : S1.2.1 15 = S.2.1 15 := e 15 (by decide)
  have e16 : S1.2.1 16 = S.2.1 16 := e 16 (by decide)
  have e17 : S1.2.1 17 = S.2.1 17 := e 17 (by decide)
  have e18 : S1.2.1 18 = S.2.1 18 := e 18 (by decide)
  have e19 : S1.2.1 19 = S.2.1 19 := e 19 (by decide)
  have e25 : S1.2.1 25 = S.2.1 25 := e 25 (by decide)
  have e27 : S1.2.1 27 = S.2.1 27 := e 27 (by decide)
  have e28 : S1.2.1 28 = S.2.1 28 := e 28 (by decide)
  have e34 : S1.2.1 34 = S.2.1 34 := e 34 (by decide)
  have e35 : S1.2.1 35 = S.2.1 35 := e 35 (by decide)
  have e36 : S1.2.1 36 = S.2.1 36 := e 36 (by decide)
  have e37 : S1.2.1 37 = S.2.1 37 := e 37 (by decide)
  have e38 : S1.2.1 38 = S.2.1 38 := e 38 (by decide)
  have e40 : S1.2.1 40 = S.2.1 40 := e 40 (by decide)
  have e44 : S1.2.1 44 = S.2.1 44 := e 44 (by decide)
  have e45 : S1.2.1 45 = S.2.1 45 := e 45 (by decide)
  unfold AWv AC AT2 AL at h ⊢
  rw [e15, e16, e17, e18, e19, e25, e27, e28, e34, e35, e36, e37, e38, e40, e44, e45]
  exact h
theorem AFv_na {nx : Nat} {m kn kw kx : Int} {S S1 : mS} (e : NA S S1) (h : AFv nx m kn kw kx S) : AFv nx m kn kw kx S1 := by
  obtain ⟨e1, e2, e3⟩ := e
  have e8 := e2 8 (by decide)
  have e12 := e2 12 (by decide)
  have e13 := e2 13 (by decide)
  have e19 := e2 19 (by decide)
  unfold AFv at h ⊢
  rw [e8, e12, e13, e19]
  exact ⟨h.1, fun hf => h.2.1 (e3 hf), h.2.2.1, fun hf => ⟨AWv_aa e1 (h.2.2.2 (e3 hf)).1, AG_aa e1 (h.2.2.2 (e3 hf)).2⟩⟩
theorem AFv_z {nx k : Nat} {m kn kw kx : Int} {v : Int32} {S S1 : mS} (e : S1 = sZ S k v) (hk : k = 9 ∨ k = 10) (h : AFv nx m kn kw kx S) : AFv nx m kn kw kx S1 := by
  rcases hk with rfl | rfl
  · subst e; exact ⟨h.1, h.2.1, h.2.2.1, fun hf => ⟨AWv_aa (fun _ _ => rfl) (h.2.2.2 hf).1, AG_aa (fun _ _ => rfl) (h.2.2.2 hf).2⟩⟩
  · subst e; exact ⟨h.1, h.2.1, h.2.2.1, fun hf => ⟨AWv_aa (fun _ _ => rfl) (h.2.2.2 hf).1, AG_aa (fun _ _ => rfl) (h.2.2.2 hf).2⟩⟩
theorem AT2_m {nx t : Nat} {na na1 nt nt1 nw nw1 kx : Int} {S : mS} (h1 : na ≤ na1) (h3 : nw ≤ nw1) (q : AT2 nx na nt nw kx S t) : AT2 nx na1 nt1 nw1 kx S t := ⟨q.1, ⟨q.2.1.1, by have := q.2.1.2; omega⟩, ⟨q.2.2.1.1, by have := q.2.2.1.2; omega⟩, fun g g2 => ⟨(q.2.2.2.1 g g2).1, by have := (q.2.2.2.1 g g2).2; omega⟩, q.2.2.2.2.1, fun g => ⟨(q.2.2.2.2.2 g).1, by have := (q.2.2.2.2.2 g).2.1; omega, (q.2.2.2.2.2 g).2.2⟩⟩
/-- a write where nothing stands yet -/
theorem AFv_f {nx k i : Nat} {m kn kw kx : Int} {v : Int32} {S S1 : mS} (e : S1 = sF S k i v) (hk : (kn ≤ i ∧ (k = 25 ∨ k = 27 ∨ k = 28 ∨ k = 34 ∨ k = 35 ∨ k = 36 ∨ k = 37 ∨ k = 38)) ∨ (kw ≤ i ∧ (k = 40 ∨ k = 44 ∨ k = 45)) ∨ ((i : Int) = kx ∧ (k = 28 ∨ k = 34))) (h : AFv nx m kn kw kx S) : AFv nx m kn kw kx S1 := by
  have q : ∀ j x, ¬ (j = k ∧ x = i) → S1.2.1 j x = S.2.1 j x := by
    intro j x hj
    rw [e, q_fx]
    rcases Decidable.em (j = k) with d | d
    · rw [if_pos d, if_neg (fun q => hj ⟨d, q⟩), d]
    · rw [if_neg d]
  have q2 : ∀ j, ¬ j = k → S1.2.1 j = S.2.1 j := fun j hj => funext fun x => q j x (fun r => hj r.1)
  have ez : S1.1 = S.1 := by rw [e]; rfl
  refine ⟨by rw [ez]; exact h.1, fun hf => by rw [ez] at hf ⊢; exact h.2.1 hf, by rw [ez]; exact h.2.2.1, fun hf => ?_⟩
  rw [ez] at hf ⊢
  have w := h.2.2.2 hf
  refine ⟨⟨fun a h1 h2 => ?_, fun t h1 h2 => ?_, fun w9 h1 h2 => ?_⟩, AG_4 (q2 10 (by omega)) (q2 22 (by omega)) (q2 23 (by omega)) (q2 24 (by omega)) w.2⟩
  · have c := w.1.1 a h1 h2
    unfold AC at c ⊢
    rw [q2 15 (by omega), q2 16 (by omega), q2 17 (by omega), q2 18 (by omega), q2 19 (by omega)]
    exact c
  · have c := w.1.2.1 t h1 h2
    have t25 := q 25 t (by omega)
    have t27 := q 27 t (by omega)
    have t35 := q 35 t (by omega)
    have t36 := q 36 t (by omega)
    have t37 := q 37 t (by omega)
    have t38 := q 38 t (by omega)
    unfold AT2 at c ⊢
    rw [t25, t27, t35, t36, t37, t38]
    refine ⟨c.1, c.2.1, c.2.2.1, fun g g2 => ?_, c.2.2.2.2.1, fun g => ?_⟩
    · rw [q 28 t (by omega)] at g
      rw [q 34 t (by omega)]
      exact c.2.2.2.1 g g2
    · have r := c.2.2.2.2.2 g
      refine ⟨r.1, r.2.1, ?_⟩
      rw [q 40 _ (by have := r.2.1; unfold ix; omega)]
      rcases r.2.2 with r2 | r2
      · exact Or.inl r2
      · refine Or.inr ⟨r2.1, ?_⟩
        rw [q 27 _ (by have h9 := c.1; have h8 := r2.1; unfold ix; omega)]
        exact r2.2
  · have c := w.1.2.2 w9 h1 h2
    unfold AL at c ⊢
    rw [q 44 w9 (by omega), q 45 w9 (by omega)]
    exact c
theorem AFv_nw {nx : Nat} {m kn kw kx : Int} {w : Int32} {S : mS} (hw : w.toInt = kw) (h0 : 0 ≤ w.toInt) (h1 : (S.1 4) = 0 → AL nx (S.1 8).toInt S (ix w)) (h : AFv nx m kn kw kx S) : AFv nx m kn (kw + 1) kx S := by
  refine ⟨h.1, h.2.1, h.2.2.1, fun hf => ⟨⟨fun a g1 g2 => AC_m (Int.le_refl _) (Int.le_refl _) (by omega) ((h.2.2.2 hf).1.1 a g1 g2), fun t g1 g2 => AT2_m (nt := kn) (Int.le_refl _) (by omega) ((h.2.2.2 hf).1.2.1 t g1 g2), fun w9 g1 g2 => ?_⟩, (h.2.2.2 hf).2⟩⟩
  rcases Decidable.em ((w9 : Int) < kw) with d | d
  · exact (h.2.2.2 hf).1.2.2 w9 g1 d
  · have e : w9 = ix w := by unfold ix; omega
    rw [e]; exact h1 hf
theorem AFv_nt {nx : Nat} {m kn kw kx : Int} {w : Int32} {S : mS} (hw : w.toInt = kn) (h0 : 0 ≤ w.toInt) (h1 : (S.1 4) = 0 → AT2 nx (S.1 8).toInt kn kw kx S (ix w)) (h : AFv nx m kn kw kx S) : AFv nx m (kn + 1) kw kx S := by
  refine ⟨by have := h.1; omega, h.2.1, h.2.2.1, fun hf => ⟨⟨fun a g1 g2 => AC_m (Int.le_refl _) (by omega) (Int.le_refl _) ((h.2.2.2 hf).1.1 a g1 g2), fun t g1 g2 => ?_, (h.2.2.2 hf).1.2.2⟩, (h.2.2.2 hf).2⟩⟩
  rcases Decidable.em ((t : Int) < kn) with d | d
  · exact AT2_m (nt := kn) (Int.le_refl _) (Int.le_refl _) ((h.2.2.2 hf).1.2.1 t g1 d)
  · have e : t = ix w := by unfold ix; omega
    rw [e]; exact AT2_m (nt := kn) (Int.le_refl _) (Int.le_refl _) (h1 hf)
theorem AWv_act {nx : Nat} {na nt nw kx : Int} {a b : Int32} {S : mS} (h : AWv nx na nt nw kx S) (hn : (S.1 8).toInt = na) (h0 : 0 ≤ na) (hp : (S.1 13).toInt = -1 ∨ (500 * nx ≤ (S.1 13).toInt ∧ (S.1 13).toInt < nt)) (h8 : a = 8 ∨ a = 9 → 500 * nx ≤ b.toInt ∧ b.toInt < nw) (h7 : a = 7 → 500 * nx ≤ b.toInt ∧ b.toInt < nt) : AWv nx (na + 1) nt nw kx (actS S a b) := by
  have hi : ((ix (S.1 8) : Nat) : Int) = na := by unfold ix; omega
  refine ⟨fun q h1 h2 => ?_, fun t h1 h2 => AT2_m (nt := nt) (nt1 := nt) (by omega) (by omega) (h.2.1 t h1 h2), fun w h1 h2 => AL_m (by omega) (h.2.2 w h1 h2)⟩
  show WY nx (na + 1) (upd ((S.2.1 17)) (ix (S.1 8)) (-1) q) ∧ WY nx (na + 1) (upd ((S.2.1 18)) (ix (S.1 8)) (-1) q) ∧ ((upd ((S.2.1 19)) (ix (S.1 8)) (S.1 13) q).toInt = -1 ∨ (500 * nx ≤ (upd ((S.2.1 19)) (ix (S.1 8)) (S.1 13) q).toInt ∧ (upd ((S.2.1 19)) (ix (S.1 8)) (S.1 13) q).toInt < nt)) ∧ (upd ((S.2.1 15)) (ix (S.1 8)) a q = 8 ∨ upd ((S.2.1 15)) (ix (S.1 8)) a q = 9 → 500 * nx ≤ (upd ((S.2.1 16)) (ix (S.1 8)) b q).toInt ∧ (upd ((S.2.1 16)) (ix (S.1 8)) b q).toInt < nw) ∧ (upd ((S.2.1 15)) (ix (S.1 8)) a q = 7 → 500 * nx ≤ (upd ((S.2.1 16)) (ix (S.1 8)) b q).toInt ∧ (upd ((S.2.1 16)) (ix (S.1 8)) b q).toInt < nt)
  unfold upd
  rcases Decidable.em (q = ix (S.1 8)) with d | d
  · simp only [if_pos d]
    exact ⟨Or.inl (by decide), Or.inl (by decide), hp, h8, h7⟩
  · simp only [if_neg d]
    exact AC_m (by omega) (Int.le_refl _) (Int.le_refl _) (h.1 q h1 (by omega))
theorem AFv_act {nx : Nat} {m kn kw kx : Int} {a b : Int32} {S S1 : mS} (e : S1 = actS S a b) (h0 : 0 ≤ (S.1 8).toInt ∧ (S.1 8).toInt < 24000) (ha : ¬ a = 7 ∧ ¬ a = 8 ∧ ¬ a = 9) (h : AFv nx m kn kw kx S) : AFv nx m kn kw kx S1 := by
  have q1 : (1 : Int32).toInt = 1 := rfl
  have hq := w_add (z := (S.1 8) + 1) rfl (by rw [q1]; omega)
  rw [q1] at hq
  subst e
  have e8 : ((actS S a b).1 8).toInt = (S.1 8).toInt + 1 := hq
  refine ⟨h.1, fun hf => ?_, ?_, fun hf => ⟨?_, ?_⟩⟩
  · rw [e8]
    rcases h.2.1 hf with q | q
    · exact Or.inl q
    · exact Or.inr ⟨q.1, by show (S.1 19).toInt < _; omega⟩
  · rw [e8]; have := h.2.2.1; omega
  · rw [e8]; exact AWv_act (h.2.2.2 hf).1 rfl h0.1 h.1 (fun q => q.elim (fun r => absurd r ha.2.1) (fun r => absurd r ha.2.2)) (fun q => absurd q ha.1)
  · rw [e8]; exact AG_4 rfl rfl rfl rfl (AG_m (by omega) (h.2.2.2 hf).2)
theorem AWv_lead {nx k i : Nat} {na nt nw kx : Int} {v : Int32} {S S1 : mS} (hk : k = 17 ∨ k = 18) (e : S1 = sF S k i v) (hv : 12000 * nx ≤ v.toInt ∧ v.toInt < na) (h : AWv nx na nt nw kx S) : AWv nx na nt nw kx S1 := by
  rcases hk with rfl | rfl
  · subst e
    refine ⟨fun q h1 h2 => ?_, h.2.1, h.2.2⟩
    have c := h.1 q h1 h2
    refine ⟨?_, c.2⟩
    show WY nx na (upd ((S.2.1 17)) i v q)
    unfold upd
    split
    · exact Or.inr hv
    · exact c.1
  · subst e
    refine ⟨fun q h1 h2 => ?_, h.2.1, h.2.2⟩
    have c := h.1 q h1 h2
    refine ⟨c.1, ?_, c.2.2⟩
    show WY nx na (upd ((S.2.1 18)) i v q)
    unfold upd
    split
    · exact Or.inr hv
    · exact c.2.1
theorem AFv_lead {nx : Nat} {m kn kw kx : Int} {v : Int32} {S S1 : mS} (e : ((S.1 19).toInt < 0 ∧ S1 = S) ∨ (0 ≤ (S.1 19).toInt ∧ (S1 = sF S 18 (ix (S.1 19)) v ∨ S1 = sF S 17 (ix (S.1 19)) v))) (hv : AV nx S v) (h : AFv nx m kn kw kx S) : AFv nx m kn kw kx S1 := by
  have key : ∀ k, (k = 17 ∨ k = 18) → S1 = sF S k (ix (S.1 19)) v → AFv nx m kn kw kx S1 := by
    intro k hk e
    have ez : S1.1 = S.1 := by rw [e]; rfl
    refine ⟨by rw [ez]; exact h.1, fun hf => by rw [ez] at hf ⊢; exact h.2.1 hf, by rw [ez]; exact h.2.2.1, fun hf => ?_⟩
    rw [ez] at hf ⊢
    have q := h.2.2.2 hf
    refine ⟨AWv_lead hk e (hv hf) q.1, ?_⟩
    rcases hk with rfl | rfl
    · rw [e]; exact AG_4 rfl rfl rfl rfl q.2
    · rw [e]; exact AG_4 rfl rfl rfl rfl q.2
  rcases e with e | e
  · rw [e.2]; exact h
  · rcases e.2 with e | e
    · exact key 18 (Or.inr rfl) e
    · exact key 17 (Or.inl rfl) e
theorem AFv_last {nx : Nat} {m kn kw kx : Int} {v : Int32} {S S1 : mS} (e : S1 = sZ S 19 v) (hv : v = -1 ∨ AV nx S v) (h : AFv nx m kn kw kx S) : AFv nx m kn kw kx S1 := by
  subst e
  exact ⟨h.1, fun hf => hv.elim (fun q => Or.inl (by show v.toInt = -1; rw [q]; decide)) (fun q => Or.inr (q hf)), h.2.2.1, fun hf => ⟨AWv_aa (fun _ _ => rfl) (h.2.2.2 hf).1, AG_aa (fun _ _ => rfl) (h.2.2.2 hf).2⟩⟩
theorem AF_pt {nx : Nat} {m : Int} {v : Int32} {S S1 : mS} (e : S1 = sZ S 13 v) (hv : v.toInt = -1 ∨ (500 * nx ≤ v.toInt ∧ v.toInt < (S.1 9).toInt)) (h : AF nx m S) : AF nx m S1 := by
  subst e
  exact ⟨hv, h.2.1, h.2.2.1, fun hf => ⟨AW_aa (fun _ _ => rfl) (h.2.2.2 hf).1, AG_aa (fun _ _ => rfl) (h.2.2.2 hf).2⟩⟩
theorem PD_while {nx : Nat} {d : Int} {w : Int32} {S S1 : mS} (e : S1 = sZ S 15 w) (hw : 500 * nx ≤ w.toInt ∧ w.toInt < (S.1 10).toInt) (ht : (S.2.1 40) (ix w) = (S.1 13)) (h : PD nx d S) : PD nx d S1 := by
  subst e
  intro hf
  have q := h hf
  exact ⟨q.1, q.2.1, q.2.2.1, q.2.2.2.1, fun _ => ⟨hw.1, hw.2, ⟨0, ht.symm⟩, Or.inl ht.symm⟩⟩
theorem AV_last {nx : Nat} {m : Int} {S : mS} (h : AF nx m S) : (S.1 19).toInt = -1 ∨ AV nx S (S.1 19) := by
  rcases Decidable.em ((S.1 19).toInt = -1) with q | q
  · exact Or.inl q
  · exact Or.inr (fun hf => (h.2.1 hf).resolve_left q)
/-- the try t, opened at S, as it stands in S1 -/
def TF (nx : Nat) (S : mS) (t : Int32) (S1 : mS) : Prop := (S1.2.1 25) (ix t) = (S.1 13) ∧ (∀ x : Nat, ((500 * nx : Nat) : Int) ≤ x → (x : Int) < (S.1 9).toInt → (S1.2.1 25) x = (S.2.1 25) x) ∧ (S1.2.1 27) (ix t) = (S.1 15) ∧ (S.1 10).toInt ≤ (S1.1 10).toInt ∧ (∀ w : Nat, (w : Int) < (S.1 10).toInt → (S1.2.1 40) w = (S.2.1 40) w) ∧ 500 * nx ≤ t.toInt ∧ t.toInt < (S1.1 9).toInt ∧ (S.1 9).toInt ≤ t.toInt
theorem TF_tm {nx : Nat} {t : Int32} {S S1 S2 : mS} (h : TF nx S t S1) (k : TM S1 S2) : TF nx S t S2 := by
  obtain ⟨a1, a2, a3, a4, a5, a6, a7, a8⟩ := h
  have hi : ((ix t : Nat) : Int) = t.toInt := by unfold ix; omega
  have q := k.2.2.1 (ix t) (by omega)
  refine ⟨q.1.trans a1, fun x h1 h2 => (k.2.2.1 x (by omega)).1.trans (a2 x h1 h2), q.2.1.trans a3, by have := k.2.1; omega, fun w hw => (k.2.2.2 w (by omega)).trans (a5 w hw), a6, by have := k.1; omega, a8⟩
theorem TF_np {nx : Nat} {t : Int32} {S S1 S2 : mS} (h : TF nx S t S1) (k : NP S1 S2) : TF nx S t S2 := by
  have a1 := k.1 25 (by decide)
  have a2 := k.1 27 (by decide)
  have a3 := k.1 40 (by decide)
  have b1 := k.2.1 9 (by decide)
  have b2 := k.2.1 10 (by decide)
  unfold TF at h ⊢
  rw [a1, a2, a3, b1, b2]
  exact h
theorem AF_lx {nx : Nat} {m : Int} {v : Int32} {S S1 : mS} (e : S1 = sZ S 19 v) (hv : v.toInt = -1 ∨ AV nx S v) (h : AF nx m S) : AF nx m S1 := AF_last e (hv.imp (fun q => Int32.toInt_inj.mp (q.trans (by decide))) id) h
theorem PD_in {nx : Nat} {m d : Int} {t p : Int32} {S S1 : mS} (hA : AF nx m S) (hf0 : (S.1 4) = 0) (h : PD nx d S) (hT : TF nx S t S1) (e3 : (S1.1 15) = (S.1 15)) (e4 : (S1.1 16).toInt = (S.1 16).toInt + 1) : PD nx (d + 1) (sZ (sZ S1 13 t) 14 p) := by
  obtain ⟨a1, a2, a3, a4, a5, a6, a7, a8⟩ := hT
  have q := h hf0
  intro _
  have c := AF_ch hA hf0
  have hr : (S.1 13).toInt < 0 ∨ (((500 * nx : Nat) : Int) ≤ (S.1 13).toInt ∧ (S.1 13).toInt < (S.1 9).toInt) := by rcases q.2.2.2.1 with r | r <;> omega
  have hd : ix (S1.1 16) = ix (S.1 16) + 1 := by have := q.1; unfold ix; omega
  have h0 : 0 ≤ t.toInt := by omega
  show 0 ≤ (S1.1 16).toInt ∧ (S1.1 16).toInt ≤ d + 1 ∧ dpt ((S1.2.1 25)) (ix (S1.1 16)) t ∧ rg nx (S1.1 9).toInt t ∧ (0 ≤ (S1.1 15).toInt → 500 * nx ≤ (S1.1 15).toInt ∧ (S1.1 15).toInt < (S1.1 10).toInt ∧ an ((S1.2.1 25)) ((S1.2.1 40) (ix (S1.1 15))) t ∧ (t = (S1.2.1 40) (ix (S1.1 15)) ∨ (0 ≤ t.toInt ∧ (S1.2.1 27) (ix t) = (S1.1 15))))
  rw [hd, e3]
  refine ⟨by have := q.1; omega, by have := q.2.1; omega, ⟨h0, ?_⟩, Or.inr ⟨a6, a7⟩, fun hw => ?_⟩
  · rw [a1]; exact dpt_up c a2 (by omega) _ _ hr q.2.2.1
  · obtain ⟨r1, r2, ⟨j, r3⟩, r4⟩ := q.2.2.2.2 hw
    have hi : ((ix (S.1 15) : Nat) : Int) = (S.1 15).toInt := by unfold ix; omega
    refine ⟨r1, by omega, ⟨j + 1, ?_⟩, Or.inr ⟨h0, a3⟩⟩
    show (if t.toInt < 0 then t else chn ((S1.2.1 25)) j ((S1.2.1 25) (ix t))) = _
    rw [if_neg (by omega), a1, chn_up c a2 (by omega) j _ hr, a5 _ (by omega)]
    exact r3
theorem AT2_new {nx t : Nat} {na kn kw : Int} {S S1 : mS} (h1 : (S1.2.1 25) t = (S.1 13)) (h2 : 12000 * nx ≤ ((S1.2.1 35) t).toInt ∧ ((S1.2.1 35) t).toInt < na) (h3 : 12000 * nx ≤ ((S1.2.1 36) t).toInt ∧ ((S1.2.1 36) t).toInt < na) (h4 : (S1.2.1 28) t = 0) (h5 : (S1.2.1 37) t = 0) (h6 : (S1.2.1 38) t = 0) (h7 : (S1.2.1 27) t = (S.1 15)) (h8 : ∀ x : Nat, ¬ x = t → (S1.2.1 27) x = (S.2.1 27) x) (h9 : ∀ x : Nat, (S1.2.1 40) x = (S.2.1 40) x) (hA : (S.1 13).toInt = -1 ∨ (500 * nx ≤ (S.1 13).toInt ∧ (S.1 13).toInt < t)) (hP : 0 ≤ (S.1 15).toInt → 500 * nx ≤ (S.1 15).toInt ∧ (S.1 15).toInt < kw ∧ ((S.1 13) = (S.2.1 40) (ix (S.1 15)) ∨ (0 ≤ (S.1 13).toInt ∧ (S.2.1 27) (ix (S.1 13)) = (S.1 15)))) : AT2 nx na kn kw (-1) S1 t := by
  refine ⟨by rw [h1]; exact hA, h2, h3, fun g => absurd h4 g, fun g => g.elim (fun r => absurd h5 r) (fun r => absurd h6 r), fun g => ?_⟩
  rw [h7] at g ⊢
  rw [h1, h9]
  obtain ⟨r1, r2, r3⟩ := hP g
  refine ⟨r1, r2, r3.imp id (fun r => ⟨r.1, ?_⟩)⟩
  rw [h8 _ (by have := r.1; rcases hA with q | q <;> (unfold ix; omega))]
  exact r.2
theorem AFv_cx {nx : Nat} {m kn kw : Int} {t : Int32} {S : mS} (h0 : 0 ≤ t.toInt) (ha : (S.1 4) = 0 → 12000 * nx ≤ ((S.2.1 34) (ix t)).toInt ∧ ((S.2.1 34) (ix t)).toInt < (S.1 8).toInt) (h : AFv nx m kn kw t.toInt S) : AFv nx m kn kw (-1) S := ⟨h.1, h.2.1, h.2.2.1, fun hf => ⟨⟨(h.2.2.2 hf).1.1, fun x h1 h2 => by
    have q := (h.2.2.2 hf).1.2.1 x h1 h2
    refine ⟨q.1, q.2.1, q.2.2.1, fun g _ => ?_, q.2.2.2.2.1, q.2.2.2.2.2⟩
    rcases Decidable.em ((x : Int) = t.toInt) with d | d
    · have e : x = ix t := by unfold ix; omega
      rw [e]; exact ha hf
    · exact q.2.2.2.1 g d, (h.2.2.2 hf).1.2.2⟩, (h.2.2.2 hf).2⟩⟩
/-- what act and then do, also under bounds of one's own -/
theorem sgv_act {nx : Nat} (a0 a1 : Int32) {S : mS} (h : 12000 * nx ≤ (S.1 8).toInt ∧ (S.1 8).toInt < 12000 * nx + 12000 ∧ nx ≤ 1) : wp_act a0 a1 S (fun S1 r => (r = (S.1 8) ∧ (S1.1 8).toInt = (S.1 8).toInt + 1) ∧ (NO nx S S1 ∧ (∀ m : Int, AF nx m S → AQ nx S a0 a1 → AF nx m S1) ∧ (∀ m kn kw kx : Int, AFv nx m kn kw kx S → ¬ a0 = 7 ∧ ¬ a0 = 8 ∧ ¬ a0 = 9 → AFv nx m kn kw kx S1))) := by
  refine fm_act _ _ _ _ _ (fun S1 r _ p => ?_) (sp_act a0 a1 ⟨by omega, by omega⟩)
  have hb : 12000 * nx ≤ (S.1 8).toInt ∧ (S.1 8).toInt < 12000 * nx + 12000 := ⟨h.1, h.2.1⟩
  have q1 : (1 : Int32).toInt = 1 := rfl
  have ha := w_add (z := (S.1 8) + 1) rfl (by rw [q1]; omega)
  rw [q1] at ha
  refine ⟨⟨p.1, by rw [p.2]; exact ha⟩, ?_, fun m hm h87 => AF_act p.2 (by omega) hm h87, fun m kn kw kx hm h87 => AFv_act p.2 (by omega) h87 hm⟩
  rw [p.2]
  unfold actS
  exact NO_tr (NO_tr (NO_tr (NO_tr (NO_tr (NO_tr (NO_tr (NO_f rfl (nH_c (by decide) hb)) (NO_f rfl (nH_c (by decide) hb))) (NO_f rfl (nH_c (by decide) hb))) (NO_f rfl (nH_c (by decide) hb))) (NO_f rfl (nH_c (by decide) hb))) (NO_f rfl (nH_c (by decide) hb))) (NO_f rfl (nH_c (by decide) hb))) (NO_z rfl)
theorem sgv_lead {nx : Nat} (a0 : Int32) {S : mS} (h : (S.1 19).toInt < 12000 * nx + 12000 ∧ LA nx (S.1 19).toInt ∧ nx ≤ 1) : wp_lead a0 S (fun S1 => True ∧ (NO nx S S1 ∧ (∀ m : Int, AF nx m S → AV nx S a0 → AF nx m S1) ∧ (∀ m kn kw kx : Int, AFv nx m kn kw kx S → AV nx S a0 → AFv nx m kn kw kx S1))) := by
  refine fm_lead _ _ _ _ (fun S1 _ p => ⟨trivial, ?_, fun m hm h1 => AF_lead p h1 hm, fun m kn kw kx hm h1 => AFv_lead p h1 hm⟩) (sp_lead a0 (by omega))
  rcases p with p | p
  · rw [p.2]; exact NO_rf
  · have hb : 12000 * nx ≤ (S.1 19).toInt ∧ (S.1 19).toInt < 12000 * nx + 12000 := ⟨by rcases h.2.1 with q | q <;> omega, by omega⟩
    rcases p.2 with e | e
    · exact NO_f e (nH_c (by decide) hb)
    · exact NO_f e (nH_c (by decide) hb)
