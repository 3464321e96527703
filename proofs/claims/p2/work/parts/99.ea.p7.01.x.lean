
/-- a routine's code begins at the frontier -/
theorem CS_rt {nx r : Nat} {L : LT3} {nt nw : Int} {S : mS} (h0 : 12000 * nx ≤ (S.1 7).toInt) (h : CS nx L nt nw (-1) S) : CS nx ((r, 6, (S.1 7)) :: L) nt nw (-1) S := fun hf => by
  obtain ⟨ty, hw, hu⟩ := h hf
  have hm : ∀ x, x ∈ L → x ∈ (r, 6, (S.1 7)) :: L := fun _ q => List.mem_cons_of_mem _ q
  refine ⟨ty, ⟨fun q h1 h2 => okI_m (Int.le_refl _) (fun _ _ => rfl) hm (hw.1 q h1 h2), fun t h1 h2 => oTr_m (Int.le_refl _) (fun _ _ => rfl) hm (hw.2.1 t h1 h2), fun t h1 h2 => oWh_m (Int.le_refl _) (fun _ _ => rfl) hm (hw.2.2.1 t h1 h2), fun x hx h9 => ?_, hw.2.2.2.2.1, fun x hx h6 => ?_⟩, hu⟩
  · rcases List.mem_cons.mp hx with q | q
    · rw [q] at h9; exact absurd (show (6 : Nat) = 0 from h9) (by decide)
    · exact hw.2.2.2.1 x q h9
  · rcases List.mem_cons.mp hx with q | q
    · rw [q]; exact ⟨h0, Int.le_refl _, hu⟩
    · exact hw.2.2.2.2.2 x q h6
/-- the acts between two routines: those below o are whole -/
def AB (nx : Nat) (o : Int) (S : mS) : Prop := 12000 * nx ≤ (S.1 8).toInt ∧ ((S.1 4) = 0 → AW nx (S.1 8).toInt (S.1 9).toInt (S.1 10).toInt S ∧ ∀ r : Nat, 12 * nx ≤ r → (r : Int) < o → RT nx (S.1 8).toInt ((S.2.1 10) r).toInt S r ∧ ((S.2.1 10) r).toInt ≤ 16)
theorem AB_na {nx : Nat} {o : Int} {S S1 : mS} (e : NA S S1) (h : AB nx o S) : AB nx o S1 := by
  obtain ⟨e1, e2, e3⟩ := e
  have e8 := e2 8 (by decide)
  have e9 := e2 9 (by decide)
  have e10 := e2 10 (by decide)
  unfold AB at h ⊢
  rw [e8, e9, e10]
  refine ⟨h.1, fun hf => ⟨AW_aa e1 (h.2 (e3 hf)).1, ?_⟩⟩
  have q := (h.2 (e3 hf)).2
  unfold RT at q ⊢
  rw [e1 10 (by decide), e1 22 (by decide), e1 23 (by decide), e1 24 (by decide)]
  exact q
theorem AB_z {nx k : Nat} {o : Int} {v : Int32} {S S1 : mS} (e : S1 = sZ S k v) (hk : 8 ≠ k ∧ 9 ≠ k ∧ 10 ≠ k ∧ 4 ≠ k) (h : AB nx o S) : AB nx o S1 := by
  subst e
  have e8 : (sZ S k v).1 8 = S.1 8 := by show upd S.1 k v 8 = _; unfold upd; rw [if_neg hk.1]
  have e9 : (sZ S k v).1 9 = S.1 9 := by show upd S.1 k v 9 = _; unfold upd; rw [if_neg hk.2.1]
  have e10 : (sZ S k v).1 10 = S.1 10 := by show upd S.1 k v 10 = _; unfold upd; rw [if_neg hk.2.2.1]
  have e4 : (sZ S k v).1 4 = S.1 4 := by show upd S.1 k v 4 = _; unfold upd; rw [if_neg hk.2.2.2]
  unfold AB at h ⊢
  rw [e8, e9, e10, e4]
  exact ⟨h.1, fun hf => ⟨AW_aa (fun _ _ => rfl) (h.2 hf).1, (h.2 hf).2⟩⟩
theorem AB_fi {nx k i : Nat} {o : Int} {v : Int32} {S S1 : mS} (e : S1 = sF S k i v) (hk : k = 10 ∨ k = 22 ∨ k = 23) (hi : o ≤ i) (h : AB nx o S) : AB nx o S1 := by
  subst e
  refine ⟨h.1, fun hf => ⟨AW_aa9 (j := k) (fun j hj => ?_) (by rcases hk with q | q | q <;> simp [q]) (h.2 hf).1, fun r a b => ?_⟩⟩
  · show upF S.2.1 k _ j = S.2.1 j
    unfold upF
    rw [if_neg hj]
  · have q := (h.2 hf).2 r a b
    have e1 : ∀ j, (sF S k i v).2.1 j r = S.2.1 j r := by
      intro j
      rw [q_fx]
      rcases Decidable.em (j = k) with d | d
      · rw [if_pos d, if_neg (by omega), d]
      · rw [if_neg d]
    have e2 : (sF S k i v).2.1 24 = S.2.1 24 := by
      rw [q_ff, if_neg (by omega)]
    have n1 := e1 10
    have n2 := e1 22
    have n3 := e1 23
    unfold RT at q ⊢
    rw [n1, n2, n3, e2]
    exact q
theorem AB_act {nx : Nat} {o : Int} {a b : Int32} {S S1 : mS} (e : S1 = actS S a b) (h0 : (S.1 8).toInt < 24000) (hp : (S.1 13) = -1) (h87 : ¬ a = 7 ∧ ¬ a = 8 ∧ ¬ a = 9) (h : AB nx o S) : AB nx o S1 := by
  have q1 : (1 : Int32).toInt = 1 := rfl
  have h00 : 0 ≤ (S.1 8).toInt := by have := h.1; omega
  have ha := w_add (z := (S.1 8) + 1) rfl (by rw [q1]; omega)
  rw [q1] at ha
  subst e
  have e8 : ((actS S a b).1 8).toInt = (S.1 8).toInt + 1 := ha
  refine ⟨?_, fun hf => ⟨?_, ?_⟩⟩
  · rw [e8]; have := h.1; omega
  · rw [e8]; exact AW_act (h.2 hf).1 rfl h00 (Or.inl (by rw [hp]; decide)) (fun q => q.elim (fun r => absurd r h87.2.1) (fun r => absurd r h87.2.2)) (fun q => absurd q h87.1)
  · rw [e8]
    intro r a b
    have q := (h.2 hf).2 r a b
    exact ⟨RT_m (by omega) q.1, q.2⟩
theorem AB_AF {nx : Nat} {S : mS} (h : AB nx (S.1 12).toInt S) (hp : (S.1 13) = -1) (hl : 12000 * nx ≤ (S.1 19).toInt ∧ (S.1 19).toInt < (S.1 8).toInt) (h2 : 12000 * nx ≤ ((S.2.1 22) (ix (S.1 12))).toInt ∧ ((S.2.1 22) (ix (S.1 12))).toInt < (S.1 8).toInt) (h3 : 12000 * nx ≤ ((S.2.1 23) (ix (S.1 12))).toInt ∧ ((S.2.1 23) (ix (S.1 12))).toInt < (S.1 8).toInt) : AF nx 0 S := ⟨Or.inl (by rw [hp]; decide), fun _ => Or.inr hl, h.1, fun hf => ⟨(h.2 hf).1, (h.2 hf).2, fun _ => ⟨h2, h3, fun k hk => absurd hk (by omega)⟩⟩⟩
theorem AF_AB {nx : Nat} {m : Int} {S : mS} (h : AF nx m S) (e : (S.1 4) = 0 → m = ((S.2.1 10) (ix (S.1 12))).toInt ∧ 0 ≤ m ∧ m ≤ 16 ∧ 0 ≤ (S.1 12).toInt) : AB nx ((S.1 12).toInt + 1) S := ⟨h.2.2.1, fun hf => ⟨(h.2.2.2 hf).1, fun r h1 h2 => by
    have q := (h.2.2.2 hf).2
    rcases Decidable.em ((r : Int) < (S.1 12).toInt) with d | d
    · exact q.1 r h1 d
    · obtain ⟨e1, e0, e2, e3⟩ := e hf
      have er : r = ix (S.1 12) := by unfold ix; omega
      rw [er, ← e1]
      exact ⟨q.2 e0, e2⟩⟩⟩
/-- where the routines below o begin -/
def RLs (nx : Nat) (o : Int) (L : LT3) (ca : Nat → Int32) : Prop := ∀ r : Nat, 12 * nx ≤ r → (r : Int) < o → (r, 6, ca r) ∈ L
theorem RLs_add {nx : Nat} {o : Int32} {L : LT3} {ca : Nat → Int32} {v : Int32} (h : RLs nx o.toInt L ca) (h0 : 0 ≤ o.toInt) : RLs nx (o.toInt + 1) ((ix o, 6, v) :: L) (upd ca (ix o) v) := fun r h1 h2 => by
  unfold upd
  rcases Decidable.em (r = ix o) with d | d
  · rw [if_pos d, d]; exact List.mem_cons_self ..
  · rw [if_neg d]; exact List.mem_cons_of_mem _ (h r h1 (by unfold ix at d; omega))
def K6 (L : LT3) : Prop := ∀ x : Nat × Nat × Int32, x ∈ L → x.2.1 = 6
theorem K6_c {L : LT3} {r : Nat} {v : Int32} (h : K6 L) : K6 ((r, 6, v) :: L) := fun x hx => (List.mem_cons.mp hx).elim (fun q => by rw [q]) (h x)
/-- between two routines all is whole -/
def Q2 (nx : Nat) (S : mS) : Prop := (S.1 4) = 0 → ∃ L : LT3, K6 L ∧ CD nx L (S.1 9).toInt (S.1 10).toInt S ∧ AB nx (12 * nx + ((S.2.1 5) nx).toInt) S ∧ RLs nx (12 * nx + ((S.2.1 5) nx).toInt) L ((S.2.1 11))
theorem Q2_nf {nx : Nat} {S : mS} (h : ¬ (S.1 4) = 0) : Q2 nx S := fun q => absurd q h
theorem Q2_i {nx : Nat} {L : LT3} {o : Int} {S : mS} (h6 : K6 L) (hC : CD nx L (S.1 9).toInt (S.1 10).toInt S) (hA : AB nx o S) (hR : RLs nx o L ((S.2.1 11))) (ho : o = 12 * nx + ((S.2.1 5) nx).toInt) : Q2 nx S := fun _ => by subst ho; exact ⟨L, h6, hC, hA, hR⟩
theorem PD_0 {nx : Nat} {S : mS} (h1 : (S.1 13) = -1) (h2 : (S.1 15) = -1) (h3 : (S.1 16) = 0) : PD nx 0 S := fun _ => by
  rw [h1, h2, h3]
  exact ⟨by decide, by decide, (by decide : (-1 : Int32).toInt < 0), Or.inl (by decide), fun q => absurd q (by decide)⟩
theorem WB_ro {nx n : Nat} {so pl : Nat → Int32} {wo ws : Nat → Int64} {S S1 : mS} (hG : LG2 n so pl wo ws) (h : WB nx pl 0 0 S) (hs : so (ix (S.1 3)) = 1) (hw1 : wo (ix (S.1 3)) = ws 0) (h0 : 0 ≤ (S.1 3).toInt ∧ (S.1 3).toInt < n) (e : (S1.1 3).toInt = (S.1 3).toInt + 1) (ef : (S1.1 4) = (S.1 4)) (hw : (S1.1 10) = (S.1 10)) (ht : (S1.1 9) = (S.1 9)) : WB nx pl (-7) (-7) S1 := by
  intro h1
  have q := hG.2.2.2.2.2 (ix (S.1 3)) (by unfold ix; omega) hs hw1
  have e1 := ix_1 (S.1 3) (S1.1 3) h0.1 e
  have q2 := h (by rw [← ef]; exact h1)
  rw [e1, hw, ht]
  omega
theorem CE_up {c : Nat → Int32} {i : Nat} {v : Int32} (h : CE c) (h0 : 0 ≤ v.toInt) (h1 : v.toInt ≤ 12) : CE (upd c i v) := fun j hj => by
  unfold upd
  rcases Decidable.em (j = i) with d | d
  · rw [if_pos d]; exact ⟨h0, h1⟩
  · rw [if_neg d]; exact h j hj
theorem PI_ix {nx n : Nat} {so pl : Nat → Int32} {wo ws : Nat → Int64} {S : mS} (h : PI nx n so pl wo ws S) : ix (S.1 6) = nx := by have := h.2.2.2.2.1; unfold ix; omega
theorem CE_in {c : Nat → Int32} {x : Int32} (h : CE c) (h0 : 0 ≤ x.toInt) (h1 : x.toInt < 24) : 0 ≤ (c (ix x)).toInt ∧ (c (ix x)).toInt ≤ 12 := h (ix x) (by unfold ix; omega)
/-- between two routines -/
def QI (nx n : Nat) (so pl : Nat → Int32) (wo ws : Nat → Int64) (S0 : mS) (GW GT : Int) (S : mS) : Prop := PI nx n so pl wo ws S ∧ PL nx n (S.1 11) ((S.2.1 46)) ((S.2.1 48)) ∧ LG2 n so pl wo ws ∧ CE ((S.2.1 8)) ∧ CE ((S.2.1 7)) ∧ 12000 * nx ≤ (S.1 8).toInt ∧ 12000 * nx ≤ (S.1 7).toInt ∧ 0 ≤ (S.1 11).toInt ∧ (S.1 11).toInt ≤ 1000 ∧ ((S.1 4) = 0 → 4 * (S.1 11).toInt ≤ (S.1 3).toInt) ∧ BU nx n 0 0 1100 450 S ∧ 500 * nx ≤ (S.1 9).toInt ∧ (S.1 9).toInt ≤ 500 * nx + 500 ∧ 500 * nx ≤ (S.1 10).toInt ∧ (S.1 10).toInt ≤ 500 * nx + 500 ∧ PTc nx (S.1 9) ((S.2.1 25)) ((S.2.1 36)) ((S.2.1 35)) ∧ PW nx (S.1 10) ((S.2.1 45)) ∧ B01 (S.1 20) ∧ WB nx pl GW GT S ∧ 0 ≤ ((S.2.1 5) nx).toInt ∧ ((S.2.1 5) nx).toInt ≤ 12
theorem sg7_act {nx : Nat} (a0 a1 : Int32) {S : mS} (h : 12000 * nx ≤ (S.1 8).toInt ∧ (S.1 8).toInt < 12000 * nx + 12000 ∧ nx ≤ 1) : wp_act a0 a1 S (fun S1 r => (r = (S.1 8) ∧ (S1.1 8).toInt = (S.1 8).toInt + 1) ∧ (NO nx S S1 ∧ S1 = actS S a0 a1)) := by
  refine fm_act _ _ _ _ _ (fun S1 r _ p => ?_) (sp_act a0 a1 ⟨by omega, by omega⟩)
  have hb : 12000 * nx ≤ (S.1 8).toInt ∧ (S.1 8).toInt < 12000 * nx + 12000 := ⟨h.1, h.2.1⟩
  have q1 : (1 : Int32).toInt = 1 := rfl
  have ha := w_add (z := (S.1 8) + 1) rfl (by rw [q1]; omega)
  rw [q1] at ha
  refine ⟨⟨p.1, by rw [p.2]; exact ha⟩, ?_, p.2⟩
  rw [p.2]
  unfold actS
  exact NO_tr (NO_tr (NO_tr (NO_tr (NO_tr (NO_tr (NO_tr (NO_f rfl (nH_c (by decide) hb)) (NO_f rfl (nH_c (by decide) hb))) (NO_f rfl (nH_c (by decide) hb))) (NO_f rfl (nH_c (by decide) hb))) (NO_f rfl (nH_c (by decide) hb))) (NO_f rfl (nH_c (by decide) hb))) (NO_f rfl (nH_c (by decide) hb))) (NO_z rfl)
