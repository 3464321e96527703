
theorem fs_mono (v : Int64) {i j : Nat} (h : i ≤ j) : fs_n v i ≤ fs_n v j := by
  induction j with
  | zero => rw [Nat.le_zero.mp h]; exact Nat.le_refl _
  | succ j ih =>
    rcases Nat.lt_or_ge i (j + 1) with h1 | h1
    · exact Nat.le_trans (ih (by omega)) (Nat.le_add_right _ _)
    · rw [show i = j + 1 by omega]; exact Nat.le_refl _
theorem sp_lay (v : Int64) (S : mS) (m : Nat) (h0 : (S.1 1).toInt = m) (hm : m ≤ 4000) : wp_lay v S (fun S1 => (S1.1 1).toInt = ((min 4000 (m + fs_n v 8) : Nat) : Int)) := by
  unfold wp_lay
  refine it_rule (fun u : Int64 × Int32 × mS => u.1 = v ∧ ∃ j : Nat, j ≤ 8 ∧ u.2.1 = nI (8 * j) - 8 ∧ (u.2.2.1 1).toInt = ((min 4000 (m + (fs_n v 8 - fs_n v j)) : Nat) : Int)) (fun u => (u.2.1.toInt + 8).toNat) ?_ ⟨rfl, 8, Nat.le_refl _, (show (56 : Int32) = nI (8 * 8) - 8 by decide), ?_⟩
  · rintro ⟨v1, x3, S⟩ k ⟨rfl, j, hj, hx, ht⟩ hk
    dsimp only at hj hx ht
    show wp_lay_3 _ k v1 x3 S
    unfold wp_lay_3
    match j, hj, hx, ht with
    | 0, hj, hx, ht =>
      refine ⟨fun _ => ?_, fun c => absurd (by rw [hx]; exact fs_neg) c⟩
      show (S.1 1).toInt = _
      rw [ht]; rfl
    | j + 1, hj, hx, ht =>
      have hj8 : j < 8 := by omega
      rw [fs_sh j hj8] at hx
      have hmono := fs_mono v1 (i := j + 1) (j := 8) hj
      have hst : fs_n v1 (j + 1) = fs_n v1 j + (fs_ok (fs_b v1 j)).toNat := rfl
      have nxt : ∀ S2 : mS, (S2.1 1).toInt = ((min 4000 (m + (fs_n v1 8 - fs_n v1 j)) : Nat) : Int) → wp_lay_69 (fun S1 : mS => (S1.1 1).toInt = ((min 4000 (m + fs_n v1 8) : Nat) : Int)) k v1 x3 S2 := by
        intro S2 h2
        unfold wp_lay_69
        intro z hz
        have e1 : z = nI (8 * j) - 8 := by rw [hz, hx, fs_m8]
        refine hk (v1, z, S2) ⟨rfl, j, by omega, e1, h2⟩ ?_
        show (z.toInt + 8).toNat < (x3.toInt + 8).toNat
        have q1 : x3.toInt = ((8 * j : Nat) : Int) := by rw [hx]; exact nI_toInt (by omega)
        have q2 := ti_sub e1 (nI_toInt (by omega)) rfl (by show _ ∧ _; constructor <;> simp <;> omega)
        have q3 : (8 : Int32).toInt = 8 := rfl
        omega
      have put : ∀ z : Int32, (fs_ok (fs_b v1 j)).toNat = 1 → wp_lay_38 (fun S1 : mS => (S1.1 1).toInt = ((min 4000 (m + fs_n v1 8) : Nat) : Int)) k v1 x3 z S := by
        intro z hok
        unfold wp_lay_38
        refine ⟨fun c => nxt S ?_, fun c => ?_⟩
        · have c := w_le c
          have q : (4000 : Int32).toInt = 4000 := rfl
          omega
        · have c := w_nle c
          have q : (4000 : Int32).toInt = 4000 := rfl
          have q1 : (1 : Int32).toInt = 1 := rfl
          refine ⟨⟨by omega, by omega⟩, fun S2 e2 z2 ez2 S3 e3 => nxt S3 ?_⟩
          have e4 : S2.1 1 = S.1 1 := by rw [e2]; rfl
          rw [e4] at ez2
          have t2 := w_add ez2 (by omega)
          have e5 : S3.1 1 = z2 := by rw [e3]; rfl
          rw [e5]
          omega
      refine ⟨fun c => ?_, fun _ z2 e2 z3 e3 z4 e4 => ?_⟩
      · exfalso; rw [hx] at c; exact fs_npos hj8 c
      · have hb : z4 = fs_b v1 j := by rw [fs_bc v1 hj8, e4, e3, e2, hx]; rfl
        have skip : (fs_ok (fs_b v1 j)).toNat = 0 → wp_lay_69 (fun S1 : mS => (S1.1 1).toInt = ((min 4000 (m + fs_n v1 8) : Nat) : Int)) k v1 x3 S := fun h => nxt S (by omega)
        refine ⟨fun c => put z4 (fs_y1 (hb ▸ c)), fun c => ⟨fun c1 => skip (fs_n1 (hb ▸ c) (hb ▸ c1)), fun c1 => ⟨fun c2 => skip (fs_n2 (hb ▸ c) (hb ▸ c2)), fun c2 => put z4 (fs_y2 (hb ▸ c1) (hb ▸ c2))⟩⟩⟩
  · show (S.1 1).toInt = _
    rw [h0, Nat.sub_self, Nat.add_zero, Nat.min_eq_right hm]
theorem sp_feed (a b c : Int64) (S : mS) (m : Nat) (h0 : (S.1 1).toInt = m) (hm : m ≤ 4000) : wp_feed a b c S (fun S1 r => r = (S1.1 1) ∧ (S1.1 1).toInt = ((min 4000 (m + (fs_n a 8 + fs_n b 8 + fs_n c 8)) : Nat) : Int)) := by
  unfold wp_feed
  intro S1 e1
  have q1 : (S1.1 1).toInt = m := by rw [e1]; exact h0
  refine fm_lay _ _ _ _ (fun S2 hF p2 => ?_) (sp_lay a S1 m q1 hm)
  refine fm_lay _ _ _ _ (fun S3 hF p3 => ?_) (sp_lay b S2 _ p2 (Nat.min_le_left _ _))
  refine fm_lay _ _ _ _ (fun S4 hF p4 => ?_) (sp_lay c S3 _ p3 (Nat.min_le_left _ _))
  refine ⟨rfl, ?_⟩
  rw [p4]
  omega
