
/-- a number was wanted: read between lo and hi, or a fault; the cursor has gone on -/
theorem sp_takeNumber (lo hi : Int32) (hl : 0 ≤ lo.toInt) {S : mS} {n : Nat} (h : PF n S) : wp_takeNumber lo hi S (fun S1 r => (∃ x v : Int32, S1 = sZ (sZ S 4 v) 3 x ∧ 0 < v.toInt) ∨ (Took n 2 S S1 ∧ lo.toInt ≤ r.toInt ∧ r.toInt ≤ hi.toInt)) := by
  have e70 : ∀ S2 : mS, (∃ v : Int32, S2 = sZ S 4 v ∧ 0 < v.toInt) → wp_takeNumber_70 (fun S1 r => (∃ x v : Int32, S1 = sZ (sZ S 4 v) 3 x ∧ 0 < v.toInt) ∨ (Took n 2 S S1 ∧ lo.toInt ≤ r.toInt ∧ r.toInt ≤ hi.toInt)) S2 := by
    rintro S2 ⟨v, rfl, hv⟩
    unfold wp_takeNumber_70
    intro z5 e5 S6 e6
    have q0 : (0 : Int32).toInt = 0 := rfl
    refine ⟨fun c => ?_, fun _ => Or.inl ⟨z5, v, e6, hv⟩⟩
    have c := w_le c
    rw [e6] at c
    have c : v.toInt ≤ (0 : Int32).toInt := c
    omega
  have e28 : ((S.1 4) = 0 → (S.2.1 1) (ix (S.1 3)) = 2) → wp_takeNumber_28 (fun S1 r => (∃ x v : Int32, S1 = sZ (sZ S 4 v) 3 x ∧ 0 < v.toInt) ∨ (Took n 2 S S1 ∧ lo.toInt ≤ r.toInt ∧ r.toInt ≤ hi.toInt)) lo hi S := by
    intro hsort
    unfold wp_takeNumber_28
    refine ⟨fun hf => e70 S ⟨(S.1 4), sZ_id.symm, ?_⟩, fun hf => ⟨(PF_at h hf).1, fun z12 e12 z13 e13 z14 e14 => ?_⟩⟩
    · have h1 := h.2.1
      have h2 := w_ne hf
      have h3 : (0 : Int32).toInt = 0 := rfl
      omega
    · have bad : wp_takeNumber_65 (fun S1 r => (∃ x v : Int32, S1 = sZ (sZ S 4 v) 3 x ∧ 0 < v.toInt) ∨ (Took n 2 S S1 ∧ lo.toInt ≤ r.toInt ∧ r.toInt ≤ hi.toInt)) S := by
        unfold wp_takeNumber_65
        exact fm_wrong _ _ _ _ (fun S3 _ p3 => e70 S3 p3) (sp_wrong 4 ⟨by decide, by decide⟩ h)
      refine ⟨fun _ => bad, fun c1 => ⟨(PF_at h hf).1, fun z16 e16 z17 e17 z18 e18 => ⟨fun c2 => ?_, fun _ => bad⟩⟩⟩
      rw [e14] at c1
      rw [e18] at c2
      have c1 := lgc_lt c1
      have c2 := lgc_le c2
      have hs := hsort hf
      have hlt := PF_lt h hf (by rw [hs]; decide)
      have h3 := h.2.2 hf
      have h4 := h.1.1
      have q : (1 : Int32).toInt = 1 := rfl
      unfold wp_takeNumber_70
      intro z5 e5 S6 e6
      have t5 := w_add e5 (by omega)
      have f4 : S6.1 4 = S.1 4 := by rw [e6]; rfl
      have f3 : S6.1 3 = z5 := by rw [e6]; rfl
      have fw : S6.2.2 = S.2.2 := by rw [e6]; rfl
      rw [f4, f3, hf, fw]
      refine ⟨fun _ z8 e8 => ?_, fun c3 => absurd (Int32.le_refl _) c3⟩
      have t8 := w_sub e8 (by omega)
      refine ⟨⟨by omega, by omega⟩, fun z9 e9 z10 e10 => Or.inr ⟨⟨z5, e6, by omega, hf, h3.1, hlt, hs⟩, ?_⟩⟩
      have ei : ix z8 = ix (S.1 3) := by
        have a1 := inR_ix (PF_at h hf).1
        have a2 : z8.toInt = ((ix (S.1 3) : Nat) : Int) := by omega
        exact ix_of a2
      rw [ei] at e9
      have z9e : z9 = z12 := e9.trans e12.symm
      have z9f : z9 = z16 := e9.trans e16.symm
      rw [← z9e, e13, Int32.toInt_toInt64] at c1
      rw [← z9f, e17, Int32.toInt_toInt64] at c2
      have hr : z10.toInt = z9.toInt := by
        rw [e10, Int64.toInt_toInt32]
        have r1 := ti_rng lo
        have r2 := ti_rng hi
        exact ti_bm ⟨by omega, by omega⟩
      omega
  unfold wp_takeNumber
  refine ⟨fun hf => e28 (fun h0 => absurd h0 hf), fun hf => ⟨(PF_at h hf).1, fun z2 e2 => ⟨fun h2 => e28 (fun _ => by rw [← h2]; exact e2.symm), fun _ => fm_wrong _ _ _ _ (fun S3 _ p3 => e70 S3 p3) (sp_wrong 1 ⟨by decide, by decide⟩ h)⟩⟩⟩
theorem sp_find_r (a m : Int32) (w : Int64) (S : mS) (h : 0 ≤ a.toInt ∧ 0 ≤ m.toInt ∧ a.toInt + m.toInt ≤ 24) : wp_find_r a m w S (fun S1 r => S1 = S ∧ -1 ≤ r.toInt ∧ r.toInt < m.toInt + 1 ∧ (0 < m.toInt → r.toInt < m.toInt)) := by
  unfold wp_find_r
  refine it_rule (fun u : Int32 × Int32 × Int64 × Int32 × Int32 × mS => u.1 = a ∧ u.2.1 = m ∧ u.2.2.2.2.2 = S ∧ -1 ≤ u.2.2.2.1.toInt ∧ (u.2.2.2.1.toInt < m.toInt ∨ u.2.2.2.1.toInt = -1) ∧ 0 ≤ u.2.2.2.2.1.toInt ∧ u.2.2.2.2.1.toInt ≤ m.toInt) (fun u => (m.toInt - u.2.2.2.2.1.toInt).toNat) ?_ ⟨rfl, rfl, rfl, (show -1 ≤ (-1 : Int32).toInt by decide), Or.inr (show (-1 : Int32).toInt = -1 by decide), (show 0 ≤ (0 : Int32).toInt by decide), by show (0 : Int32).toInt ≤ m.toInt; exact h.2.1⟩
  rintro ⟨x2, x3, x4, x6, x7, Sx⟩ k6 ⟨g1, g2, g3, g4, g5, g6, g7⟩ hk
  dsimp only at g1 g2 g3 g4 g5 g6 g7
  subst g1 g2 g3
  show wp_find_r_6 _ k6 x2 x3 x4 x6 x7 Sx
  have q1 : (1 : Int32).toInt = 1 := rfl
  unfold wp_find_r_6
  refine ⟨fun _ => ⟨rfl, g4, by omega, fun _ => by omega⟩, fun c z2 e2 => ?_⟩
  have c := w_nle c
  have t2 := w_add e2 (by omega)
  have nx : ∀ (K9 : mS → Int32 → Prop) (y : Int32), -1 ≤ y.toInt → (y.toInt < x3.toInt ∨ y.toInt = -1) → wp_find_r_31 K9 k6 x2 x3 x4 x7 y Sx := by
    intro K9 y h1 h2
    unfold wp_find_r_31
    intro z6 e6
    have t6 := w_add e6 (by omega)
    refine hk (x2, x3, x4, y, z6, Sx) ⟨rfl, rfl, rfl, h1, h2, by show 0 ≤ z6.toInt; omega, by show z6.toInt ≤ x3.toInt; omega⟩ ?_
    show (x3.toInt - z6.toInt).toNat < (x3.toInt - x7.toInt).toNat
    omega
  exact ⟨⟨by omega, by omega⟩, fun z3 _ z4 _ => ⟨fun _ => nx _ x6 g4 g5, fun _ => nx _ x7 (by omega) (Or.inl (by omega))⟩⟩
theorem sp_find_c (a m : Int32) (w : Int64) (S : mS) (h : 0 ≤ a.toInt ∧ 0 ≤ m.toInt ∧ a.toInt + m.toInt ≤ 288) : wp_find_c a m w S (fun S1 r => S1 = S ∧ -1 ≤ r.toInt ∧ r.toInt < m.toInt + 1 ∧ (0 < m.toInt → r.toInt < m.toInt)) := by
  unfold wp_find_c
  refine it_rule (fun u : Int32 × Int32 × Int64 × Int32 × Int32 × mS => u.1 = a ∧ u.2.1 = m ∧ u.2.2.2.2.2 = S ∧ -1 ≤ u.2.2.2.1.toInt ∧ (u.2.2.2.1.toInt < m.toInt ∨ u.2.2.2.1.toInt = -1) ∧ 0 ≤ u.2.2.2.2.1.toInt ∧ u.2.2.2.2.1.toInt ≤ m.toInt) (fun u => (m.toInt - u.2.2.2.2.1.toInt).toNat) ?_ ⟨rfl, rfl, rfl, (show -1 ≤ (-1 : Int32).toInt by decide), Or.inr (show (-1 : Int32).toInt = -1 by decide), (show 0 ≤ (0 : Int32).toInt by decide), by show (0 : Int32).toInt ≤ m.toInt; exact h.2.1⟩
  rintro ⟨x2, x3, x4, x6, x7, Sx⟩ k6 ⟨g1, g2, g3, g4, g5, g6, g7⟩ hk
  dsimp only at g1 g2 g3 g4 g5 g6 g7
  subst g1 g2 g3
  show wp_find_c_6 _ k6 x2 x3 x4 x6 x7 Sx
  have q1 : (1 : Int32).toInt = 1 := rfl
  unfold wp_find_c_6
  refine ⟨fun _ => ⟨rfl, g4, by omega, fun _ => by omega⟩, fun c z2 e2 => ?_⟩
  have c := w_nle c
  have t2 := w_add e2 (by omega)
  have nx : ∀ (K9 : mS → Int32 → Prop) (y : Int32), -1 ≤ y.toInt → (y.toInt < x3.toInt ∨ y.toInt = -1) → wp_find_c_31 K9 k6 x2 x3 x4 x7 y Sx := by
    intro K9 y h1 h2
    unfold wp_find_c_31
    intro z6 e6
    have t6 := w_add e6 (by omega)
    refine hk (x2, x3, x4, y, z6, Sx) ⟨rfl, rfl, rfl, h1, h2, by show 0 ≤ z6.toInt; omega, by show z6.toInt ≤ x3.toInt; omega⟩ ?_
    show (x3.toInt - z6.toInt).toNat < (x3.toInt - x7.toInt).toNat
    omega
  exact ⟨⟨by omega, by omega⟩, fun z3 _ z4 _ => ⟨fun _ => nx _ x6 g4 g5, fun _ => nx _ x7 (by omega) (Or.inl (by omega))⟩⟩
theorem sp_emit (c a b : Int32) {S : mS} (h : inR (S.1 7) 24000) : wp_emit c a b S (fun S1 r => r = (S.1 7) ∧ S1 = sZ (sF (sF (sF S 12 (ix (S.1 7)) c) 13 (ix (S.1 7)) a) 14 (ix (S.1 7)) b) 7 ((S.1 7) + 1)) := by
  unfold wp_emit
  refine ⟨h, fun S1 e1 => ?_⟩
  have f1 : S1.1 7 = S.1 7 := by rw [e1]; rfl
  refine ⟨by rw [f1]; exact h, fun S2 e2 => ?_⟩
  have f2 : S2.1 7 = S.1 7 := by rw [e2]; exact f1
  refine ⟨by rw [f2]; exact h, fun S3 e3 z4 e4 S5 e5 z6 e6 => ⟨?_, ?_⟩⟩
  · have f5 : S5.1 7 = z4 := by rw [e5]; rfl
    have f3 : S3.1 7 = S.1 7 := by rw [e3]; exact f2
    rw [e6, f5, e4, f3]
    exact Int32.add_sub_cancel _ _
  · have f3 : S3.1 7 = S.1 7 := by rw [e3]; exact f2
    rw [e5, e4, f3, e3, f2, e2, f1, e1]
def actS (S : mS) (a b : Int32) : mS := sZ (sF (sF (sF (sF (sF (sF (sF S 15 (ix (S.1 8)) a) 16 (ix (S.1 8)) b) 17 (ix (S.1 8)) (-1)) 18 (ix (S.1 8)) (-1)) 19 (ix (S.1 8)) (S.1 13)) 20 (ix (S.1 8)) (S.1 14)) 21 (ix (S.1 8)) (S.1 15)) 8 ((S.1 8) + 1)
theorem sp_act (a b : Int32) {S : mS} (h : inR (S.1 8) 24000) : wp_act a b S (fun S1 r => r = (S.1 8) ∧ S1 = actS S a b) := by
  unfold wp_act
  refine ⟨h, fun S1 e1 => ?_⟩
  have f1 : S1.1 = S.1 := by rw [e1]; rfl
  refine ⟨by rw [f1]; exact h, fun S2 e2 => ?_⟩
  have f2 : S2.1 = S.1 := by rw [e2]; exact f1
  refine ⟨by rw [f2]; exact h, fun S3 e3 => ?_⟩
  have f3 : S3.1 = S.1 := by rw [e3]; exact f2
  refine ⟨by rw [f3]; exact h, fun S4 e4 => ?_⟩
  have f4 : S4.1 = S.1 := by rw [e4]; exact f3
  refine ⟨by rw [f4]; exact h, fun S5 e5 => ?_⟩
  have f5 : S5.1 = S.1 := by rw [e5]; exact f4
  refine ⟨by rw [f5]; exact h, fun S6 e6 => ?_⟩
  have f6 : S6.1 = S.1 := by rw [e6]; exact f5
  refine ⟨by rw [f6]; exact h, fun S7 e7 z8 e8 S9 e9 z10 e10 => ⟨?_, ?_⟩⟩
  · have f7 : S7.1 = S.1 := by rw [e7]; exact f6
    have f9 : S9.1 8 = z8 := by rw [e9]; rfl
    rw [e10, f9, e8, f7]
    exact Int32.add_sub_cancel _ _
  · have f7 : S7.1 = S.1 := by rw [e7]; exact f6
    unfold actS
    rw [e9, e8, f7, e7, f6, e6, f5, e5, f4, e4, f3, e3, f2, e2, f1, e1]
theorem sp_lead (to : Int32) {S : mS} (h : (S.1 19).toInt < 24000) : wp_lead to S (fun S1 => ((S.1 19).toInt < 0 ∧ S1 = S) ∨ (0 ≤ (S.1 19).toInt ∧ (S1 = sF S 18 (ix (S.1 19)) to ∨ S1 = sF S 17 (ix (S.1 19)) to))) := by
  unfold wp_lead
  have q0 : (0 : Int32).toInt = 0 := rfl
  refine ⟨fun c => ?_, fun c => Or.inl ⟨by have := w_nle c; omega, rfl⟩⟩
  have c := w_le c
  have hr : inR (S.1 19) 24000 := ⟨by omega, by omega⟩
  exact ⟨hr, fun z2 e2 => ⟨fun _ => ⟨hr, fun S4 e4 => Or.inr ⟨by omega, Or.inl e4⟩⟩, fun _ => ⟨hr, fun S5 e5 => Or.inr ⟨by omega, Or.inr e5⟩⟩⟩⟩
