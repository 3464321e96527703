
/-- how far the tokens bring the cursor in the text -/
def LG2 (n : Nat) (so pl : Nat → Int32) (wo ws : Nat → Int64) : Prop := (∀ k, k < n → (pl k).toInt + 1 ≤ (pl (k + 1)).toInt) ∧ (∀ k, k < n → so k = 1 → wo k = ws 5 → (pl k).toInt + 5 ≤ (pl (k + 1)).toInt) ∧ (∀ k, k < n → so k = 1 → wo k = ws 10 → (pl k).toInt + 3 ≤ (pl (k + 1)).toInt) ∧ (∀ k, k < n → so k = 1 → wo k = ws 11 → (pl k).toInt + 2 ≤ (pl (k + 1)).toInt) ∧ (∀ k, k < n → so k = 1 → wo k = ws 12 → (pl k).toInt + 6 ≤ (pl (k + 1)).toInt) ∧ (∀ k, k < n → so k = 1 → wo k = ws 0 → (pl k).toInt + 7 ≤ (pl (k + 1)).toInt)
theorem LG2_m {n : Nat} {so pl : Nat → Int32} {wo ws : Nat → Int64} (h : LG2 n so pl wo ws) (i : Nat) : ∀ k : Nat, i + k ≤ n → (pl i).toInt + k ≤ (pl (i + k)).toInt := by
  intro k
  induction k with
  | zero => intro _; simp
  | succ k ih => intro hk; have h1 := h.1 (i + k) (by omega); have h2 := ih (by omega); rw [Nat.add_assoc] at h1; omega
theorem PLM {n : Nat} {so pl : Nat → Int32} {wo ws : Nat → Int64} (h : LG2 n so pl wo ws) (a b : Int32) (h0 : 0 ≤ a.toInt) (h1 : a.toInt ≤ b.toInt) (h2 : b.toInt ≤ n) : (pl (ix a)).toInt + (b.toInt - a.toInt) ≤ (pl (ix b)).toInt := by
  have q := LG2_m h (ix a) (ix b - ix a) (by unfold ix; omega)
  have e : ix a + (ix b - ix a) = ix b := by unfold ix; omega
  rw [e] at q
  have e2 : ((ix b - ix a : Nat) : Int) = b.toInt - a.toInt := by unfold ix; omega
  omega
theorem ix_1 (a b : Int32) (h0 : 0 ≤ a.toInt) (h1 : b.toInt = a.toInt + 1) : ix b = ix a + 1 := by unfold ix; omega
def PT (nx : Nat) (S : mS) : Prop := 500 * nx ≤ (S.1 9).toInt ∧ (S.1 9).toInt ≤ 500 * nx + 500 ∧ 500 * nx ≤ (S.1 10).toInt ∧ (S.1 10).toInt ≤ 500 * nx + 500 ∧ ((S.1 13).toInt = -1 ∨ (500 * nx ≤ (S.1 13).toInt ∧ (S.1 13).toInt < (S.1 9).toInt)) ∧ ((S.1 15).toInt = -1 ∨ (500 * nx ≤ (S.1 15).toInt ∧ (S.1 15).toInt < (S.1 10).toInt)) ∧ (∀ t : Nat, 500 * nx ≤ t → (t : Int) < (S.1 9).toInt → (((S.2.1 25) t).toInt = -1 ∨ (500 * nx ≤ ((S.2.1 25) t).toInt ∧ ((S.2.1 25) t).toInt < t)) ∧ 12000 * nx ≤ ((S.2.1 36) t).toInt ∧ ((S.2.1 36) t).toInt < (S.1 8).toInt ∧ 12000 * nx ≤ ((S.2.1 35) t).toInt ∧ ((S.2.1 35) t).toInt < (S.1 8).toInt) ∧ (∀ w : Nat, 500 * nx ≤ w → (w : Int) < (S.1 10).toInt → 12000 * nx ≤ ((S.2.1 45) w).toInt ∧ ((S.2.1 45) w).toInt < (S.1 8).toInt) ∧ ((S.1 17) = 0 ∨ (S.1 17) = 1) ∧ ((S.1 20) = 0 ∨ (S.1 20) = 1)
/-- the room of tries and whiles: they cost signs of the text -/
def WB (nx : Nat) (pl : Nat → Int32) (GW GT : Int) (S : mS) : Prop := (S.1 4) = 0 → 8 * ((S.1 10).toInt - 500 * nx) ≤ (pl (ix (S.1 3))).toInt + GW ∧ 9 * ((S.1 9).toInt - 500 * nx) ≤ (pl (ix (S.1 3))).toInt + GT
def SI (nx n : Nat) (so pl : Nat → Int32) (wo ws : Nat → Int64) (S0 : mS) (d : Nat) (G GA X Y GW GT : Int) (S : mS) : Prop := XI nx n so pl wo ws S0 d G GA X Y S ∧ LG2 n so pl wo ws ∧ PT nx S ∧ WB nx pl GW GT S ∧ ((S.1 4) = 0 → 0 ≤ ((S.2.1 10) (ix (S.1 12))).toInt ∧ ((S.2.1 10) (ix (S.1 12))).toInt ≤ 16)
set_option maxHeartbeats 4000000 in
theorem sg_marks_b {nx : Nat} (a1 : Int32) {S : mS} (h1 : nx ≤ 1 ∧ (S.1 9).toInt ≤ 500 * nx + 500 ∧ ((S.1 13).toInt = -1 ∨ (500 * nx ≤ (S.1 13).toInt ∧ (S.1 13).toInt < (S.1 9).toInt))) (h2 : ∀ t : Nat, 500 * nx ≤ t → (t : Int) < (S.1 9).toInt → (((S.2.1 25) t).toInt = -1 ∨ (500 * nx ≤ ((S.2.1 25) t).toInt ∧ ((S.2.1 25) t).toInt < t))) (ha : a1.toInt = -1 ∨ (0 ≤ a1.toInt ∧ a1.toInt < 1000)) : wp_marks_b a1 S (fun S1 => (∀ k i, ¬ (k = 37 ∧ 500 * nx ≤ i ∧ (i : Int) < (S.1 9).toInt) → S1.2.1 k i = S.2.1 k i)) := by
  unfold wp_marks_b
  refine it_rule (fun u : Int32 × Int32 × Int32 × mS => u.1 = a1 ∧ (u.2.1.toInt = -1 ∨ (500 * nx ≤ u.2.1.toInt ∧ u.2.1.toInt < (S.1 9).toInt)) ∧ (∀ k i, ¬ (k = 37 ∧ 500 * nx ≤ i ∧ (i : Int) < (S.1 9).toInt) → u.2.2.2.2.1 k i = S.2.1 k i)) (fun u => (u.2.1.toInt + 1).toNat) ?_ (by grind (ematch := 12) (splits := 16) [ix_int, q_zz, q_za, q_zga, q_fza, q_fx, q_fga, q_gza, q_gfa, q_gx, ti_link, in1000])
  rintro ⟨x2, x3, x4, Sl11⟩ k11 hI11 hk11
  replace hI11 : x2 = a1 ∧ (x3.toInt = -1 ∨ (500 * nx ≤ x3.toInt ∧ x3.toInt < (S.1 9).toInt)) ∧ (∀ k i, ¬ (k = 37 ∧ 500 * nx ≤ i ∧ (i : Int) < (S.1 9).toInt) → Sl11.2.1 k i = S.2.1 k i) := hI11
  replace hk11 : ∀ v : Int32 × Int32 × Int32 × mS, v.1 = a1 ∧ (v.2.1.toInt = -1 ∨ (500 * nx ≤ v.2.1.toInt ∧ v.2.1.toInt < (S.1 9).toInt)) ∧ (∀ k i, ¬ (k = 37 ∧ 500 * nx ≤ i ∧ (i : Int) < (S.1 9).toInt) → v.2.2.2.2.1 k i = S.2.1 k i) → (v.2.1.toInt + 1).toNat < (x3.toInt + 1).toNat → k11 v := hk11
  show wp_marks_b_11 _ k11 x2 x3 x4 Sl11
  unfold wp_marks_b_11
  refine ⟨fun c1 => ?_, fun c1 => ?_⟩
  · grind (ematch := 12) (splits := 16) [ix_int, q_zz, q_za, q_zga, q_fza, q_fx, q_fga, q_gza, q_gfa, q_gx, ti_link, in1000]
  · refine ⟨fun c2 => ?_, fun c2 => ?_⟩
    · unfold wp_marks_b_29
      refine ⟨by grind (ematch := 12) (splits := 16) [ix_int, q_zz, q_za, q_zga, q_fza, q_fx, q_fga, q_gza, q_gfa, q_gx, ti_link, in1000], ?_⟩
      intro z5 ez5
      refine ⟨fun c3 => ?_, fun c3 => ?_⟩
      · unfold wp_marks_b_43
        unfold wp_marks_b_48
        refine ⟨by grind (ematch := 12) (splits := 16) [ix_int, q_zz, q_za, q_zga, q_fza, q_fx, q_fga, q_gza, q_gfa, q_gx, ti_link, in1000], ?_⟩
        refine ⟨by grind (ematch := 12) (splits := 16) [ix_int, q_zz, q_za, q_zga, q_fza, q_fx, q_fga, q_gza, q_gfa, q_gx, ti_link, in1000], ?_⟩
        intro S8 eS8
        refine ⟨by grind (ematch := 12) (splits := 16) [ix_int, q_zz, q_za, q_zga, q_fza, q_fx, q_fga, q_gza, q_gfa, q_gx, ti_link, in1000], ?_⟩
        intro z9 ez9
        refine ⟨by grind (ematch := 12) (splits := 16) [ix_int, q_zz, q_za, q_zga, q_fza, q_fx, q_fga, q_gza, q_gfa, q_gx, ti_link, in1000], ?_⟩
        intro z10 ez10
        exact hk11 _ (by grind (ematch := 12) (splits := 16) [ix_int, q_zz, q_za, q_zga, q_fza, q_fx, q_fga, q_gza, q_gfa, q_gx, ti_link, in1000]) (by grind (ematch := 12) (splits := 16) [ix_int, q_zz, q_za, q_zga, q_fza, q_fx, q_fga, q_gza, q_gfa, q_gx, ti_link, in1000])
      · refine ⟨fun c4 => ?_, fun c4 => ?_⟩
        · unfold wp_marks_b_48
          refine ⟨by grind (ematch := 12) (splits := 16) [ix_int, q_zz, q_za, q_zga, q_fza, q_fx, q_fga, q_gza, q_gfa, q_gx, ti_link, in1000], ?_⟩
          refine ⟨by grind (ematch := 12) (splits := 16) [ix_int, q_zz, q_za, q_zga, q_fza, q_fx, q_fga, q_gza, q_gfa, q_gx, ti_link, in1000], ?_⟩
          intro S8 eS8
          refine ⟨by grind (ematch := 12) (splits := 16) [ix_int, q_zz, q_za, q_zga, q_fza, q_fx, q_fga, q_gza, q_gfa, q_gx, ti_link, in1000], ?_⟩
          intro z9 ez9
          refine ⟨by grind (ematch := 12) (splits := 16) [ix_int, q_zz, q_za, q_zga, q_fza, q_fx, q_fga, q_gza, q_gfa, q_gx, ti_link, in1000], ?_⟩
          intro z10 ez10
          exact hk11 _ (by grind (ematch := 12) (splits := 16) [ix_int, q_zz, q_za, q_zga, q_fza, q_fx, q_fga, q_gza, q_gfa, q_gx, ti_link, in1000]) (by grind (ematch := 12) (splits := 16) [ix_int, q_zz, q_za, q_zga, q_fza, q_fx, q_fga, q_gza, q_gfa, q_gx, ti_link, in1000])
        · unfold wp_marks_b_43
          unfold wp_marks_b_48
          refine ⟨by grind (ematch := 12) (splits := 16) [ix_int, q_zz, q_za, q_zga, q_fza, q_fx, q_fga, q_gza, q_gfa, q_gx, ti_link, in1000], ?_⟩
          refine ⟨by grind (ematch := 12) (splits := 16) [ix_int, q_zz, q_za, q_zga, q_fza, q_fx, q_fga, q_gza, q_gfa, q_gx, ti_link, in1000], ?_⟩
          intro S8 eS8
          refine ⟨by grind (ematch := 12) (splits := 16) [ix_int, q_zz, q_za, q_zga, q_fza, q_fx, q_fga, q_gza, q_gfa, q_gx, ti_link, in1000], ?_⟩
          intro z9 ez9
          refine ⟨by grind (ematch := 12) (splits := 16) [ix_int, q_zz, q_za, q_zga, q_fza, q_fx, q_fga, q_gza, q_gfa, q_gx, ti_link, in1000], ?_⟩
          intro z10 ez10
          exact hk11 _ (by grind (ematch := 12) (splits := 16) [ix_int, q_zz, q_za, q_zga, q_fza, q_fx, q_fga, q_gza, q_gfa, q_gx, ti_link, in1000]) (by grind (ematch := 12) (splits := 16) [ix_int, q_zz, q_za, q_zga, q_fza, q_fx, q_fga, q_gza, q_gfa, q_gx, ti_link, in1000])
    · refine ⟨by grind (ematch := 12) (splits := 16) [ix_int, q_zz, q_za, q_zga, q_fza, q_fx, q_fga, q_gza, q_gfa, q_gx, ti_link, in1000], ?_⟩
      intro z3 ez3
      refine ⟨fun c5 => ?_, fun c5 => ?_⟩
      · grind (ematch := 12) (splits := 16) [ix_int, q_zz, q_za, q_zga, q_fza, q_fx, q_fga, q_gza, q_gfa, q_gx, ti_link, in1000]
      · unfold wp_marks_b_29
        refine ⟨by grind (ematch := 12) (splits := 16) [ix_int, q_zz, q_za, q_zga, q_fza, q_fx, q_fga, q_gza, q_gfa, q_gx, ti_link, in1000], ?_⟩
        intro z5 ez5
        refine ⟨fun c6 => ?_, fun c6 => ?_⟩
        · unfold wp_marks_b_43
          unfold wp_marks_b_48
          refine ⟨by grind (ematch := 12) (splits := 16) [ix_int, q_zz, q_za, q_zga, q_fza, q_fx, q_fga, q_gza, q_gfa, q_gx, ti_link, in1000], ?_⟩
          refine ⟨by grind (ematch := 12) (splits := 16) [ix_int, q_zz, q_za, q_zga, q_fza, q_fx, q_fga, q_gza, q_gfa, q_gx, ti_link, in1000], ?_⟩
          intro S8 eS8
          refine ⟨by grind (ematch := 12) (splits := 16) [ix_int, q_zz, q_za, q_zga, q_fza, q_fx, q_fga, q_gza, q_gfa, q_gx, ti_link, in1000], ?_⟩
          intro z9 ez9
          refine ⟨by grind (ematch := 12) (splits := 16) [ix_int, q_zz, q_za, q_zga, q_fza, q_fx, q_fga, q_gza, q_gfa, q_gx, ti_link, in1000], ?_⟩
          intro z10 ez10
          exact hk11 _ (by grind (ematch := 12) (splits := 16) [ix_int, q_zz, q_za, q_zga, q_fza, q_fx, q_fga, q_gza, q_gfa, q_gx, ti_link, in1000]) (by grind (ematch := 12) (splits := 16) [ix_int, q_zz, q_za, q_zga, q_fza, q_fx, q_fga, q_gza, q_gfa, q_gx, ti_link, in1000])
        · refine ⟨fun c7 => ?_, fun c7 => ?_⟩
          · unfold wp_marks_b_48
            refine ⟨by grind (ematch := 12) (splits := 16) [ix_int, q_zz, q_za, q_zga, q_fza, q_fx, q_fga, q_gza, q_gfa, q_gx, ti_link, in1000], ?_⟩
            refine ⟨by grind (ematch := 12) (splits := 16) [ix_int, q_zz, q_za, q_zga, q_fza, q_fx, q_fga, q_gza, q_gfa, q_gx, ti_link, in1000], ?_⟩
            intro S8 eS8
            refine ⟨by grind (ematch := 12) (splits := 16) [ix_int, q_zz, q_za, q_zga, q_fza, q_fx, q_fga, q_gza, q_gfa, q_gx, ti_link, in1000], ?_⟩
            intro z9 ez9
            refine ⟨by grind (ematch := 12) (splits := 16) [ix_int, q_zz, q_za, q_zga, q_fza, q_fx, q_fga, q_gza, q_gfa, q_gx, ti_link, in1000], ?_⟩
            intro z10 ez10
            exact hk11 _ (by grind (ematch := 12) (splits := 16) [ix_int, q_zz, q_za, q_zga, q_fza, q_fx, q_fga, q_gza, q_gfa, q_gx, ti_link, in1000]) (by grind (ematch := 12) (splits := 16) [ix_int, q_zz, q_za, q_zga, q_fza, q_fx, q_fga, q_gza, q_gfa, q_gx, ti_link, in1000])
          · unfold wp_marks_b_43
            unfold wp_marks_b_48
            refine ⟨by grind (ematch := 12) (splits := 16) [ix_int, q_zz, q_za, q_zga, q_fza, q_fx, q_fga, q_gza, q_gfa, q_gx, ti_link, in1000], ?_⟩
            refine ⟨by grind (ematch := 12) (splits := 16) [ix_int, q_zz, q_za, q_zga, q_fza, q_fx, q_fga, q_gza, q_gfa, q_gx, ti_link, in1000], ?_⟩
            intro S8 eS8
            refine ⟨by grind (ematch := 12) (splits := 16) [ix_int, q_zz, q_za, q_zga, q_fza, q_fx, q_fga, q_gza, q_gfa, q_gx, ti_link, in1000], ?_⟩
            intro z9 ez9
            refine ⟨by grind (ematch := 12) (splits := 16) [ix_int, q_zz, q_za, q_zga, q_fza, q_fx, q_fga, q_gza, q_gfa, q_gx, ti_link, in1000], ?_⟩
            intro z10 ez10
            exact hk11 _ (by grind (ematch := 12) (splits := 16) [ix_int, q_zz, q_za, q_zga, q_fza, q_fx, q_fga, q_gza, q_gfa, q_gx, ti_link, in1000]) (by grind (ematch := 12) (splits := 16) [ix_int, q_zz, q_za, q_zga, q_fza, q_fx, q_fga, q_gza, q_gfa, q_gx, ti_link, in1000])
set_option maxHeartbeats 4000000 in
theorem sg_marks_c {nx : Nat} (a1 : Int32) {S : mS} (h1 : nx ≤ 1 ∧ (S.1 9).toInt ≤ 500 * nx + 500 ∧ ((S.1 13).toInt = -1 ∨ (500 * nx ≤ (S.1 13).toInt ∧ (S.1 13).toInt < (S.1 9).toInt))) (h2 : ∀ t : Nat, 500 * nx ≤ t → (t : Int) < (S.1 9).toInt → (((S.2.1 25) t).toInt = -1 ∨ (500 * nx ≤ ((S.2.1 25) t).toInt ∧ ((S.2.1 25) t).toInt < t))) (ha : a1.toInt = -1 ∨ (0 ≤ a1.toInt ∧ a1.toInt < 1000)) : wp_marks_c a1 S (fun S1 => (∀ k i, ¬ (k = 38 ∧ 500 * nx ≤ i ∧ (i : Int) < (S.1 9).toInt) → S1.2.1 k i = S.2.1 k i)) := by
  unfold wp_marks_c
  refine it_rule (fun u : Int32 × Int32 × Int32 × mS => u.1 = a1 ∧ (u.2.1.toInt = -1 ∨ (500 * nx ≤ u.2.1.toInt ∧ u.2.1.toInt < (S.1 9).toInt)) ∧ (∀ k i, ¬ (k = 38 ∧ 500 * nx ≤ i ∧ (i : Int) < (S.1 9).toInt) → u.2.2.2.2.1 k i = S.2.1 k i)) (fun u => (u.2.1.toInt + 1).toNat) ?_ (by grind (ematch := 12) (splits := 16) [ix_int, q_zz, q_za, q_zga, q_fza, q_fx, q_fga, q_gza, q_gfa, q_gx, ti_link, in1000])
  rintro ⟨x2, x3, x4, Sl11⟩ k11 hI11 hk11
  replace hI11 : x2 = a1 ∧ (x3.toInt = -1 ∨ (500 * nx ≤ x3.toInt ∧ x3.toInt < (S.1 9).toInt)) ∧ (∀ k i, ¬ (k = 38 ∧ 500 * nx ≤ i ∧ (i : Int) < (S.1 9).toInt) → Sl11.2.1 k i = S.2.1 k i) := hI11
  replace hk11 : ∀ v : Int32 × Int32 × Int32 × mS, v.1 = a1 ∧ (v.2.1.toInt = -1 ∨ (500 * nx ≤ v.2.1.toInt ∧ v.2.1.toInt < (S.1 9).toInt)) ∧ (∀ k i, ¬ (k = 38 ∧ 500 * nx ≤ i ∧ (i : Int) < (S.1 9).toInt) → v.2.2.2.2.1 k i = S.2.1 k i) → (v.2.1.toInt + 1).toNat < (x3.toInt + 1).toNat → k11 v := hk11
  show wp_marks_c_11 _ k11 x2 x3 x4 Sl11
  unfold wp_marks_c_11
  refine ⟨fun c1 => ?_, fun c1 => ?_⟩
  · grind (ematch := 12) (splits := 16) [ix_int, q_zz, q_za, q_zga, q_fza, q_fx, q_fga, q_gza, q_gfa, q_gx, ti_link, in1000]
  · refine ⟨fun c2 => ?_, fun c2 => ?_⟩
    · unfold wp_marks_c_29
      refine ⟨by grind (ematch := 12) (splits := 16) [ix_int, q_zz, q_za, q_zga, q_fza, q_fx, q_fga, q_gza, q_gfa, q_gx, ti_link, in1000], ?_⟩
      intro z5 ez5
      refine ⟨fun c3 => ?_, fun c3 => ?_⟩
      · unfold wp_marks_c_43
        unfold wp_marks_c_48
        refine ⟨by grind (ematch := 12) (splits := 16) [ix_int, q_zz, q_za, q_zga, q_fza, q_fx, q_fga, q_gza, q_gfa, q_gx, ti_link, in1000], ?_⟩
        refine ⟨by grind (ematch := 12) (splits := 16) [ix_int, q_zz, q_za, q_zga, q_fza, q_fx, q_fga, q_gza, q_gfa, q_gx, ti_link, in1000], ?_⟩
        intro S8 eS8
        refine ⟨by grind (ematch := 12) (splits := 16) [ix_int, q_zz, q_za, q_zga, q_fza, q_fx, q_fga, q_gza, q_gfa, q_gx, ti_link, in1000], ?_⟩
        intro z9 ez9
        refine ⟨by grind (ematch := 12) (splits := 16) [ix_int, q_zz, q_za, q_zga, q_fza, q_fx, q_fga, q_gza, q_gfa, q_gx, ti_link, in1000], ?_⟩
        intro z10 ez10
        exact hk11 _ (by grind (ematch := 12) (splits := 16) [ix_int, q_zz, q_za, q_zga, q_fza, q_fx, q_fga, q_gza, q_gfa, q_gx, ti_link, in1000]) (by grind (ematch := 12) (splits := 16) [ix_int, q_zz, q_za, q_zga, q_fza, q_fx, q_fga, q_gza, q_gfa, q_gx, ti_link, in1000])
      · refine ⟨fun c4 => ?_, fun c4 => ?_⟩
        · unfold wp_marks_c_48
          refine ⟨by grind (ematch := 12) (splits := 16) [ix_int, q_zz, q_za, q_zga, q_fza, q_fx, q_fga, q_gza, q_gfa, q_gx, ti_link, in1000], ?_⟩
          refine ⟨by grind (ematch := 12) (splits := 16) [ix_int, q_zz, q_za, q_zga, q_fza, q_fx, q_fga, q_gza, q_gfa, q_gx, ti_link, in1000], ?_⟩
          intro S8 eS8
          refine ⟨by grind (ematch := 12) (splits := 16) [ix_int, q_zz, q_za, q_zga, q_fza, q_fx, q_fga, q_gza, q_gfa, q_gx, ti_link, in1000], ?_⟩
          intro z9 ez9
          refine ⟨by grind (ematch := 12) (splits := 16) [ix_int, q_zz, q_za, q_zga, q_fza, q_fx, q_fga, q_gza, q_gfa, q_gx, ti_link, in1000], ?_⟩
          intro z10 ez10
          exact hk11 _ (by grind (ematch := 12) (splits := 16) [ix_int, q_zz, q_za, q_zga, q_fza, q_fx, q_fga, q_gza, q_gfa, q_gx, ti_link, in1000]) (by grind (ematch := 12) (splits := 16) [ix_int, q_zz, q_za, q_zga, q_fza, q_fx, q_fga, q_gza, q_gfa, q_gx, ti_link, in1000])
        · unfold wp_marks_c_43
          unfold wp_marks_c_48
          refine ⟨by grind (ematch := 12) (splits := 16) [ix_int, q_zz, q_za, q_zga, q_fza, q_fx, q_fga, q_gza, q_gfa, q_gx, ti_link, in1000], ?_⟩
          refine ⟨by grind (ematch := 12) (splits := 16) [ix_int, q_zz, q_za, q_zga, q_fza, q_fx, q_fga, q_gza, q_gfa, q_gx, ti_link, in1000], ?_⟩
          intro S8 eS8
          refine ⟨by grind (ematch := 12) (splits := 16) [ix_int, q_zz, q_za, q_zga, q_fza, q_fx, q_fga, q_gza, q_gfa, q_gx, ti_link, in1000], ?_⟩
          intro z9 ez9
          refine ⟨by grind (ematch := 12) (splits := 16) [ix_int, q_zz, q_za, q_zga, q_fza, q_fx, q_fga, q_gza, q_gfa, q_gx, ti_link, in1000], ?_⟩
          intro z10 ez10
          exact hk11 _ (by grind (ematch := 12) (splits := 16) [ix_int, q_zz, q_za, q_zga, q_fza, q_fx, q_fga, q_gza, q_gfa, q_gx, ti_link, in1000]) (by grind (ematch := 12) (splits := 16) [ix_int, q_zz, q_za, q_zga, q_fza, q_fx, q_fga, q_gza, q_gfa, q_gx, ti_link, in1000])
    · refine ⟨by grind (ematch := 12) (splits := 16) [ix_int, q_zz, q_za, q_zga, q_fza, q_fx, q_fga, q_gza, q_gfa, q_gx, ti_link, in1000], ?_⟩
      intro z3 ez3
      refine ⟨fun c5 => ?_, fun c5 => ?_⟩
      · grind (ematch := 12) (splits := 16) [ix_int, q_zz, q_za, q_zga, q_fza, q_fx, q_fga, q_gza, q_gfa, q_gx, ti_link, in1000]
      · unfold wp_marks_c_29
        refine ⟨by grind (ematch := 12) (splits := 16) [ix_int, q_zz, q_za, q_zga, q_fza, q_fx, q_fga, q_gza, q_gfa, q_gx, ti_link, in1000], ?_⟩
        intro z5 ez5
        refine ⟨fun c6 => ?_, fun c6 => ?_⟩
        · unfold wp_marks_c_43
          unfold wp_marks_c_48
          refine ⟨by grind (ematch := 12) (splits := 16) [ix_int, q_zz, q_za, q_zga, q_fza, q_fx, q_fga, q_gza, q_gfa, q_gx, ti_link, in1000], ?_⟩
          refine ⟨by grind (ematch := 12) (splits := 16) [ix_int, q_zz, q_za, q_zga, q_fza, q_fx, q_fga, q_gza, q_gfa, q_gx, ti_link, in1000], ?_⟩
          intro S8 eS8
          refine ⟨by grind (ematch := 12) (splits := 16) [ix_int, q_zz, q_za, q_zga, q_fza, q_fx, q_fga, q_gza, q_gfa, q_gx, ti_link, in1000], ?_⟩
          intro z9 ez9
          refine ⟨by grind (ematch := 12) (splits := 16) [ix_int, q_zz, q_za, q_zga, q_fza, q_fx, q_fga, q_gza, q_gfa, q_gx, ti_link, in1000], ?_⟩
          intro z10 ez10
          exact hk11 _ (by grind (ematch := 12) (splits := 16) [ix_int, q_zz, q_za, q_zga, q_fza, q_fx, q_fga, q_gza, q_gfa, q_gx, ti_link, in1000]) (by grind (ematch := 12) (splits := 16) [ix_int, q_zz, q_za, q_zga, q_fza, q_fx, q_fga, q_gza, q_gfa, q_gx, ti_link, in1000])
        · refine ⟨fun c7 => ?_, fun c7 => ?_⟩
          · unfold wp_marks_c_48
            refine ⟨by grind (ematch := 12) (splits := 16) [ix_int, q_zz, q_za, q_zga, q_fza, q_fx, q_fga, q_gza, q_gfa, q_gx, ti_link, in1000], ?_⟩
            refine ⟨by grind (ematch := 12) (splits := 16) [ix_int, q_zz, q_za, q_zga, q_fza, q_fx, q_fga, q_gza, q_gfa, q_gx, ti_link, in1000], ?_⟩
            intro S8 eS8
            refine ⟨by grind (ematch := 12) (splits := 16) [ix_int, q_zz, q_za, q_zga, q_fza, q_fx, q_fga, q_gza, q_gfa, q_gx, ti_link, in1000], ?_⟩
            intro z9 ez9
            refine ⟨by grind (ematch := 12) (splits := 16) [ix_int, q_zz, q_za, q_zga, q_fza, q_fx, q_fga, q_gza, q_gfa, q_gx, ti_link, in1000], ?_⟩
            intro z10 ez10
            exact hk11 _ (by grind (ematch := 12) (splits := 16) [ix_int, q_zz, q_za, q_zga, q_fza, q_fx, q_fga, q_gza, q_gfa, q_gx, ti_link, in1000]) (by grind (ematch := 12) (splits := 16) [ix_int, q_zz, q_za, q_zga, q_fza, q_fx, q_fga, q_gza, q_gfa, q_gx, ti_link, in1000])
          · unfold wp_marks_c_43
            unfold wp_marks_c_48
            refine ⟨by grind (ematch := 12) (splits := 16) [ix_int, q_zz, q_za, q_zga, q_fza, q_fx, q_fga, q_gza, q_gfa, q_gx, ti_link, in1000], ?_⟩
            refine ⟨by grind (ematch := 12) (splits := 16) [ix_int, q_zz, q_za, q_zga, q_fza, q_fx, q_fga, q_gza, q_gfa, q_gx, ti_link, in1000], ?_⟩
            intro S8 eS8
            refine ⟨by grind (ematch := 12) (splits := 16) [ix_int, q_zz, q_za, q_zga, q_fza, q_fx, q_fga, q_gza, q_gfa, q_gx, ti_link, in1000], ?_⟩
            intro z9 ez9
            refine ⟨by grind (ematch := 12) (splits := 16) [ix_int, q_zz, q_za, q_zga, q_fza, q_fx, q_fga, q_gza, q_gfa, q_gx, ti_link, in1000], ?_⟩
            intro z10 ez10
            exact hk11 _ (by grind (ematch := 12) (splits := 16) [ix_int, q_zz, q_za, q_zga, q_fza, q_fx, q_fga, q_gza, q_gfa, q_gx, ti_link, in1000]) (by grind (ematch := 12) (splits := 16) [ix_int, q_zz, q_za, q_zga, q_fza, q_fx, q_fga, q_gza, q_gfa, q_gx, ti_link, in1000])
set_option maxHeartbeats 4000000 in
theorem sg_marks_r {nx : Nat} (a1 : Int32) {S : mS} (h1 : nx ≤ 1 ∧ (S.1 9).toInt ≤ 500 * nx + 500 ∧ ((S.1 13).toInt = -1 ∨ (500 * nx ≤ (S.1 13).toInt ∧ (S.1 13).toInt < (S.1 9).toInt))) (h2 : ∀ t : Nat, 500 * nx ≤ t → (t : Int) < (S.1 9).toInt → (((S.2.1 25) t).toInt = -1 ∨ (500 * nx ≤ ((S.2.1 25) t).toInt ∧ ((S.2.1 25) t).toInt < t))) (ha : a1.toInt = -1 ∨ (0 ≤ a1.toInt ∧ a1.toInt < 1000)) : wp_marks_r a1 S (fun S1 => (∀ k i, ¬ (k = 39 ∧ 500 * nx ≤ i ∧ (i : Int) < (S.1 9).toInt) → S1.2.1 k i = S.2.1 k i)) := by
  unfold wp_marks_r
  refine it_rule (fun u : Int32 × Int32 × Int32 × mS => u.1 = a1 ∧ (u.2.1.toInt = -1 ∨ (500 * nx ≤ u.2.1.toInt ∧ u.2.1.toInt < (S.1 9).toInt)) ∧ (∀ k i, ¬ (k = 39 ∧ 500 * nx ≤ i ∧ (i : Int) < (S.1 9).toInt) → u.2.2.2.2.1 k i = S.2.1 k i)) (fun u => (u.2.1.toInt + 1).toNat) ?_ (by grind (ematch := 12) (splits := 16) [ix_int, q_zz, q_za, q_zga, q_fza, q_fx, q_fga, q_gza, q_gfa, q_gx, ti_link, in1000])
  rintro ⟨x2, x3, x4, Sl11⟩ k11 hI11 hk11
  replace hI11 : x2 = a1 ∧ (x3.toInt = -1 ∨ (500 * nx ≤ x3.toInt ∧ x3.toInt < (S.1 9).toInt)) ∧ (∀ k i, ¬ (k = 39 ∧ 500 * nx ≤ i ∧ (i : Int) < (S.1 9).toInt) → Sl11.2.1 k i = S.2.1 k i) := hI11
  replace hk11 : ∀ v : Int32 × Int32 × Int32 × mS, v.1 = a1 ∧ (v.2.1.toInt = -1 ∨ (500 * nx ≤ v.2.1.toInt ∧ v.2.1.toInt < (S.1 9).toInt)) ∧ (∀ k i, ¬ (k = 39 ∧ 500 * nx ≤ i ∧ (i : Int) < (S.1 9).toInt) → v.2.2.2.2.1 k i = S.2.1 k i) → (v.2.1.toInt + 1).toNat < (x3.toInt + 1).toNat → k11 v := hk11
  show wp_marks_r_11 _ k11 x2 x3 x4 Sl11
  unfold wp_marks_r_11
  refine ⟨fun c1 => ?_, fun c1 => ?_⟩
  · grind (ematch := 12) (splits := 16) [ix_int, q_zz, q_za, q_zga, q_fza, q_fx, q_fga, q_gza, q_gfa, q_gx, ti_link, in1000]
  · refine ⟨fun c2 => ?_, fun c2 => ?_⟩
    · unfold wp_marks_r_29
      refine ⟨by grind (ematch := 12) (splits := 16) [ix_int, q_zz, q_za, q_zga, q_fza, q_fx, q_fga, q_gza, q_gfa, q_gx, ti_link, in1000], ?_⟩
      intro z5 ez5
      refine ⟨fun c3 => ?_, fun c3 => ?_⟩
      · unfold wp_marks_r_43
        unfold wp_marks_r_48
        refine ⟨by grind (ematch := 12) (splits := 16) [ix_int, q_zz, q_za, q_zga, q_fza, q_fx, q_fga, q_gza, q_gfa, q_gx, ti_link, in1000], ?_⟩
        refine ⟨by grind (ematch := 12) (splits := 16) [ix_int, q_zz, q_za, q_zga, q_fza, q_fx, q_fga, q_gza, q_gfa, q_gx, ti_link, in1000], ?_⟩
        intro S8 eS8
        refine ⟨by grind (ematch := 12) (splits := 16) [ix_int, q_zz, q_za, q_zga, q_fza, q_fx, q_fga, q_gza, q_gfa, q_gx, ti_link, in1000], ?_⟩
        intro z9 ez9
        refine ⟨by grind (ematch := 12) (splits := 16) [ix_int, q_zz, q_za, q_zga, q_fza, q_fx, q_fga, q_gza, q_gfa, q_gx, ti_link, in1000], ?_⟩
        intro z10 ez10
        exact hk11 _ (by grind (ematch := 12) (splits := 16) [ix_int, q_zz, q_za, q_zga, q_fza, q_fx, q_fga, q_gza, q_gfa, q_gx, ti_link, in1000]) (by grind (ematch := 12) (splits := 16) [ix_int, q_zz, q_za, q_zga, q_fza, q_fx, q_fga, q_gza, q_gfa, q_gx, ti_link, in1000])
      · refine ⟨fun c4 => ?_, fun c4 => ?_⟩
        · unfold wp_marks_r_48
          refine ⟨by grind (ematch := 12) (splits := 16) [ix_int, q_zz, q_za, q_zga, q_fza, q_fx, q_fga, q_gza, q_gfa, q_gx, ti_link, in1000], ?_⟩
          refine ⟨by grind (ematch := 12) (splits := 16) [ix_int, q_zz, q_za, q_zga, q_fza, q_fx, q_fga, q_gza, q_gfa, q_gx, ti_link, in1000], ?_⟩
          intro S8 eS8
          refine ⟨by grind (ematch := 12) (splits := 16) [ix_int, q_zz, q_za, q_zga, q_fza, q_fx, q_fga, q_gza, q_gfa, q_gx, ti_link, in1000], ?_⟩
          intro z9 ez9
          refine ⟨by grind (ematch := 12) (splits := 16) [ix_int, q_zz, q_za, q_zga, q_fza, q_fx, q_fga, q_gza, q_gfa, q_gx, ti_link, in1000], ?_⟩
          intro z10 ez10
          exact hk11 _ (by grind (ematch := 12) (splits := 16) [ix_int, q_zz, q_za, q_zga, q_fza, q_fx, q_fga, q_gza, q_gfa, q_gx, ti_link, in1000]) (by grind (ematch := 12) (splits := 16) [ix_int, q_zz, q_za, q_zga, q_fza, q_fx, q_fga, q_gza, q_gfa, q_gx, ti_link, in1000])
        · unfold wp_marks_r_43
          unfold wp_marks_r_48
          refine ⟨by grind (ematch := 12) (splits := 16) [ix_int, q_zz, q_za, q_zga, q_fza, q_fx, q_fga, q_gza, q_gfa, q_gx, ti_link, in1000], ?_⟩
          refine ⟨by grind (ematch := 12) (splits := 16) [ix_int, q_zz, q_za, q_zga, q_fza, q_fx, q_fga, q_gza, q_gfa, q_gx, ti_link, in1000], ?_⟩
          intro S8 eS8
          refine ⟨by grind (ematch := 12) (splits := 16) [ix_int, q_zz, q_za, q_zga, q_fza, q_fx, q_fga, q_gza, q_gfa, q_gx, ti_link, in1000], ?_⟩
          intro z9 ez9
          refine ⟨by grind (ematch := 12) (splits := 16) [ix_int, q_zz, q_za, q_zga, q_fza, q_fx, q_fga, q_gza, q_gfa, q_gx, ti_link, in1000], ?_⟩
          intro z10 ez10
          exact hk11 _ (by grind (ematch := 12) (splits := 16) [ix_int, q_zz, q_za, q_zga, q_fza, q_fx, q_fga, q_gza, q_gfa, q_gx, ti_link, in1000]) (by grind (ematch := 12) (splits := 16) [ix_int, q_zz, q_za, q_zga, q_fza, q_fx, q_fga, q_gza, q_gfa, q_gx, ti_link, in1000])
    · refine ⟨by grind (ematch := 12) (splits := 16) [ix_int, q_zz, q_za, q_zga, q_fza, q_fx, q_fga, q_gza, q_gfa, q_gx, ti_link, in1000], ?_⟩
      intro z3 ez3
      refine ⟨fun c5 => ?_, fun c5 => ?_⟩
      · grind (ematch := 12) (splits := 16) [ix_int, q_zz, q_za, q_zga, q_fza, q_fx, q_fga, q_gza, q_gfa, q_gx, ti_link, in1000]
      · unfold wp_marks_r_29
        refine ⟨by grind (ematch := 12) (splits := 16) [ix_int, q_zz, q_za, q_zga, q_fza, q_fx, q_fga, q_gza, q_gfa, q_gx, ti_link, in1000], ?_⟩
        intro z5 ez5
        refine ⟨fun c6 => ?_, fun c6 => ?_⟩
        · unfold wp_marks_r_43
          unfold wp_marks_r_48
          refine ⟨by grind (ematch := 12) (splits := 16) [ix_int, q_zz, q_za, q_zga, q_fza, q_fx, q_fga, q_gza, q_gfa, q_gx, ti_link, in1000], ?_⟩
          refine ⟨by grind (ematch := 12) (splits := 16) [ix_int, q_zz, q_za, q_zga, q_fza, q_fx, q_fga, q_gza, q_gfa, q_gx, ti_link, in1000], ?_⟩
          intro S8 eS8
          refine ⟨by grind (ematch := 12) (splits := 16) [ix_int, q_zz, q_za, q_zga, q_fza, q_fx, q_fga, q_gza, q_gfa, q_gx, ti_link, in1000], ?_⟩
          intro z9 ez9
          refine ⟨by grind (ematch := 12) (splits := 16) [ix_int, q_zz, q_za, q_zga, q_fza, q_fx, q_fga, q_gza, q_gfa, q_gx, ti_link, in1000], ?_⟩
          intro z10 ez10
          exact hk11 _ (by grind (ematch := 12) (splits := 16) [ix_int, q_zz, q_za, q_zga, q_fza, q_fx, q_fga, q_gza, q_gfa, q_gx, ti_link, in1000]) (by grind (ematch := 12) (splits := 16) [ix_int, q_zz, q_za, q_zga, q_fza, q_fx, q_fga, q_gza, q_gfa, q_gx, ti_link, in1000])
        · refine ⟨fun c7 => ?_, fun c7 => ?_⟩
          · unfold wp_marks_r_48
            refine ⟨by grind (ematch := 12) (splits := 16) [ix_int, q_zz, q_za, q_zga, q_fza, q_fx, q_fga, q_gza, q_gfa, q_gx, ti_link, in1000], ?_⟩
            refine ⟨by grind (ematch := 12) (splits := 16) [ix_int, q_zz, q_za, q_zga, q_fza, q_fx, q_fga, q_gza, q_gfa, q_gx, ti_link, in1000], ?_⟩
            intro S8 eS8
            refine ⟨by grind (ematch := 12) (splits := 16) [ix_int, q_zz, q_za, q_zga, q_fza, q_fx, q_fga, q_gza, q_gfa, q_gx, ti_link, in1000], ?_⟩
            intro z9 ez9
            refine ⟨by grind (ematch := 12) (splits := 16) [ix_int, q_zz, q_za, q_zga, q_fza, q_fx, q_fga, q_gza, q_gfa, q_gx, ti_link, in1000], ?_⟩
            intro z10 ez10
            exact hk11 _ (by grind (ematch := 12) (splits := 16) [ix_int, q_zz, q_za, q_zga, q_fza, q_fx, q_fga, q_gza, q_gfa, q_gx, ti_link, in1000]) (by grind (ematch := 12) (splits := 16) [ix_int, q_zz, q_za, q_zga, q_fza, q_fx, q_fga, q_gza, q_gfa, q_gx, ti_link, in1000])
          · unfold wp_marks_r_43
            unfold wp_marks_r_48
            refine ⟨by grind (ematch := 12) (splits := 16) [ix_int, q_zz, q_za, q_zga, q_fza, q_fx, q_fga, q_gza, q_gfa, q_gx, ti_link, in1000], ?_⟩
            refine ⟨by grind (ematch := 12) (splits := 16) [ix_int, q_zz, q_za, q_zga, q_fza, q_fx, q_fga, q_gza, q_gfa, q_gx, ti_link, in1000], ?_⟩
            intro S8 eS8
            refine ⟨by grind (ematch := 12) (splits := 16) [ix_int, q_zz, q_za, q_zga, q_fza, q_fx, q_fga, q_gza, q_gfa, q_gx, ti_link, in1000], ?_⟩
            intro z9 ez9
            refine ⟨by grind (ematch := 12) (splits := 16) [ix_int, q_zz, q_za, q_zga, q_fza, q_fx, q_fga, q_gza, q_gfa, q_gx, ti_link, in1000], ?_⟩
            intro z10 ez10
            exact hk11 _ (by grind (ematch := 12) (splits := 16) [ix_int, q_zz, q_za, q_zga, q_fza, q_fx, q_fga, q_gza, q_gfa, q_gx, ti_link, in1000]) (by grind (ematch := 12) (splits := 16) [ix_int, q_zz, q_za, q_zga, q_fza, q_fx, q_fga, q_gza, q_gfa, q_gx, ti_link, in1000])
set_option maxHeartbeats 4000000 in
theorem sg_leaves {nx n : Nat} {so pl : Nat → Int32} {wo ws : Nat → Int64} {S0 : mS} {d : Nat} {G GA X Y GW GT : Int} (a0 : Int32) {S : mS} (hL : LV d G GA X Y) (h : SI nx n so pl wo ws S0 d G GA X Y GW GT S) (hf : (S.1 4) = 0 ∧ (S.1 3).toInt < n) : wp_leaves a0 S (fun S1 => SI nx n so pl wo ws S0 d G GA (X + 4) (Y + 2) GW GT S1 ∧ ((S1.1 4) = 0 → (S.1 4) = 0 ∧ (S.1 3).toInt < (S1.1 3).toInt)) := by
  unfold wp_leaves
  refine ⟨fun c1 => ?_, fun c1 => ?_⟩
  · refine fm_wrong _ _ _ _ (fun S2 hF2 p3 => ?_) (sg_wrong (nx := nx) (n := n) (so := so) (pl := pl) (wo := wo) (ws := ws) _ (by grind (ematch := 12) (splits := 16) [SI, PT, WB, PLM, XI, PI, PJ, BU, LV, LG, OH, HH, HL, ix_int, q_zz, q_za, q_zga, q_fza, q_fx, q_fga, q_gza, q_gfa, q_gx, ti_link]) (by grind (ematch := 12) (splits := 16) [SI, PT, WB, PLM, XI, PI, PJ, BU, LV, LG, OH, HH, HL, ix_int, q_zz, q_za, q_zga, q_fza, q_fx, q_fga, q_gza, q_gfa, q_gx, ti_link]))
    have fa_S2 := Fr_faa hF2
    have ga_S2 := Fr_gaa hF2
    have z3_S2 := hF2.1 3 (by decide)
    have z6_S2 := hF2.1 6 (by decide)
    have z7_S2 := hF2.1 7 (by decide)
    have z8_S2 := hF2.1 8 (by decide)
    have z9_S2 := hF2.1 9 (by decide)
    have z10_S2 := hF2.1 10 (by decide)
    have z11_S2 := hF2.1 11 (by decide)
    have z12_S2 := hF2.1 12 (by decide)
    have z13_S2 := hF2.1 13 (by decide)
    have z15_S2 := hF2.1 15 (by decide)
    have z17_S2 := hF2.1 17 (by decide)
    have z18_S2 := hF2.1 18 (by decide)
    have z19_S2 := hF2.1 19 (by decide)
    have z20_S2 := hF2.1 20 (by decide)
    have f1_S2 := Fr_fa hF2 1 (by decide)
    have f2_S2 := Fr_fa hF2 2 (by decide)
    have f8_S2 := Fr_fa hF2 8 (by decide)
    have f10_S2 := Fr_fa hF2 10 (by decide)
    have f25_S2 := Fr_fa hF2 25 (by decide)
    have f28_S2 := Fr_fa hF2 28 (by decide)
    have f35_S2 := Fr_fa hF2 35 (by decide)
    have f36_S2 := Fr_fa hF2 36 (by decide)
    have f45_S2 := Fr_fa hF2 45 (by decide)
    have f46_S2 := Fr_fa hF2 46 (by decide)
    have f48_S2 := Fr_fa hF2 48 (by decide)
    have g3_S2 := Fr_ga hF2 3 (by decide)
    have g4_S2 := Fr_ga hF2 4 (by decide)
    clear hF2
    grind (ematch := 12) (splits := 16) [SI, PT, WB, PLM, XI, PI, PJ, BU, LV, LG, OH, HH, HL, ix_int, q_zz, q_za, q_zga, q_fza, q_fx, q_fga, q_gza, q_gfa, q_gx, ti_link]
  · refine ⟨fun c4 => ?_, fun c4 => ?_⟩
    · intro z4 ez4
      intro S5 eS5
      refine ⟨fun c5 => ?_, fun c5 => ?_⟩
      · refine fm_emit _ _ _ _ _ _ (fun S7 r7 hF6 p7 => ?_) (sg_emit _ _ _ (by grind (ematch := 12) (splits := 16) [SI, PT, WB, PLM, XI, PI, PJ, BU, LV, LG, OH, HH, HL, ix_int, q_zz, q_za, q_zga, q_fza, q_fx, q_fga, q_gza, q_gfa, q_gx, ti_link]))
        have ga_S7 := Fr_gaa hF6
        have z3_S7 := hF6.1 3 (by decide)
        have z4_S7 := hF6.1 4 (by decide)
        have z6_S7 := hF6.1 6 (by decide)
        have z8_S7 := hF6.1 8 (by decide)
        have z9_S7 := hF6.1 9 (by decide)
        have z10_S7 := hF6.1 10 (by decide)
        have z11_S7 := hF6.1 11 (by decide)
        have z12_S7 := hF6.1 12 (by decide)
        have z13_S7 := hF6.1 13 (by decide)
        have z15_S7 := hF6.1 15 (by decide)
        have z17_S7 := hF6.1 17 (by decide)
        have z18_S7 := hF6.1 18 (by decide)
        have z19_S7 := hF6.1 19 (by decide)
        have z20_S7 := hF6.1 20 (by decide)
        have f1_S7 := Fr_fa hF6 1 (by decide)
        have f2_S7 := Fr_fa hF6 2 (by decide)
        have f8_S7 := Fr_fa hF6 8 (by decide)
        have f10_S7 := Fr_fa hF6 10 (by decide)
        have f25_S7 := Fr_fa hF6 25 (by decide)
        have f28_S7 := Fr_fa hF6 28 (by decide)
        have f35_S7 := Fr_fa hF6 35 (by decide)
        have f36_S7 := Fr_fa hF6 36 (by decide)
        have f45_S7 := Fr_fa hF6 45 (by decide)
        have f46_S7 := Fr_fa hF6 46 (by decide)
        have f48_S7 := Fr_fa hF6 48 (by decide)
        have g3_S7 := Fr_ga hF6 3 (by decide)
        have g4_S7 := Fr_ga hF6 4 (by decide)
        clear hF6
        refine ⟨fun c8 => ?_, fun c8 => ?_⟩
        · refine fm_then _ _ _ _ _ (fun S9 r9 hF9 p10 => ?_) (sg_then _ _ (by grind (ematch := 12) (splits := 16) [SI, PT, WB, PLM, XI, PI, PJ, BU, LV, LG, OH, HH, HL, ix_int, q_zz, q_za, q_zga, q_fza, q_fx, q_fga, q_gza, q_gfa, q_gx, ti_link]))
          have ga_S9 := Fr_gaa hF9
          have z3_S9 := hF9.1 3 (by decide)
          have z4_S9 := hF9.1 4 (by decide)
          have z6_S9 := hF9.1 6 (by decide)
          have z7_S9 := hF9.1 7 (by decide)
          have z9_S9 := hF9.1 9 (by decide)
          have z10_S9 := hF9.1 10 (by decide)
          have z11_S9 := hF9.1 11 (by decide)
          have z12_S9 := hF9.1 12 (by decide)
          have z13_S9 := hF9.1 13 (by decide)
          have z15_S9 := hF9.1 15 (by decide)
          have z17_S9 := hF9.1 17 (by decide)
          have z18_S9 := hF9.1 18 (by decide)
          have z20_S9 := hF9.1 20 (by decide)
          have f1_S9 := Fr_fa hF9 1 (by decide)
          have f2_S9 := Fr_fa hF9 2 (by decide)
          have f8_S9 := Fr_fa hF9 8 (by decide)
          have f10_S9 := Fr_fa hF9 10 (by decide)
          have f25_S9 := Fr_fa hF9 25 (by decide)
          have f28_S9 := Fr_fa hF9 28 (by decide)
          have f35_S9 := Fr_fa hF9 35 (by decide)
          have f36_S9 := Fr_fa hF9 36 (by decide)
          have f45_S9 := Fr_fa hF9 45 (by decide)
          have f46_S9 := Fr_fa hF9 46 (by decide)
          have f48_S9 := Fr_fa hF9 48 (by decide)
          have g3_S9 := Fr_ga hF9 3 (by decide)
          have g4_S9 := Fr_ga hF9 4 (by decide)
          clear hF9
          refine ⟨fun c11 => ?_, fun c11 => ?_⟩
          · refine fm_marks_c _ _ _ _ (fun S11 hF12 p13 => ?_) (sg_marks_c (nx := nx) _ (by grind (ematch := 12) (splits := 16) [SI, PT, WB, PLM, XI, PI, PJ, BU, LV, LG, OH, HH, HL, ix_int, q_zz, q_za, q_zga, q_fza, q_fx, q_fga, q_gza, q_gfa, q_gx, ti_link]) (by grind (ematch := 12) (splits := 16) [SI, PT, WB, PLM, XI, PI, PJ, BU, LV, LG, OH, HH, HL, ix_int, q_zz, q_za, q_zga, q_fza, q_fx, q_fga, q_gza, q_gfa, q_gx, ti_link]) (by grind (ematch := 12) (splits := 16) [SI, PT, WB, PLM, XI, PI, PJ, BU, LV, LG, OH, HH, HL, ix_int, q_zz, q_za, q_zga, q_fza, q_fx, q_fga, q_gza, q_gfa, q_gx, ti_link]))
            have ga_S11 := Fr_gaa hF12
            have z3_S11 := hF12.1 3 (by decide)
            have z4_S11 := hF12.1 4 (by decide)
            have z6_S11 := hF12.1 6 (by decide)
            have z7_S11 := hF12.1 7 (by decide)
            have z8_S11 := hF12.1 8 (by decide)
            have z9_S11 := hF12.1 9 (by decide)
            have z10_S11 := hF12.1 10 (by decide)
            have z11_S11 := hF12.1 11 (by decide)
            have z12_S11 := hF12.1 12 (by decide)
            have z13_S11 := hF12.1 13 (by decide)
            have z15_S11 := hF12.1 15 (by decide)
            have z17_S11 := hF12.1 17 (by decide)
            have z18_S11 := hF12.1 18 (by decide)
            have z19_S11 := hF12.1 19 (by decide)
            have z20_S11 := hF12.1 20 (by decide)
            have f1_S11 := Fr_fa hF12 1 (by decide)
            have f2_S11 := Fr_fa hF12 2 (by decide)
            have f8_S11 := Fr_fa hF12 8 (by decide)
            have f10_S11 := Fr_fa hF12 10 (by decide)
            have f25_S11 := Fr_fa hF12 25 (by decide)
            have f28_S11 := Fr_fa hF12 28 (by decide)
            have f35_S11 := Fr_fa hF12 35 (by decide)
            have f36_S11 := Fr_fa hF12 36 (by decide)
            have f45_S11 := Fr_fa hF12 45 (by decide)
            have f46_S11 := Fr_fa hF12 46 (by decide)
            have f48_S11 := Fr_fa hF12 48 (by decide)
            have g3_S11 := Fr_ga hF12 3 (by decide)
            have g4_S11 := Fr_ga hF12 4 (by decide)
            clear hF12
            intro S12 eS12
            grind (ematch := 12) (splits := 16) [SI, PT, WB, PLM, XI, PI, PJ, BU, LV, LG, OH, HH, HL, ix_int, q_zz, q_za, q_zga, q_fza, q_fx, q_fga, q_gza, q_gfa, q_gx, ti_link]
          · refine fm_marks_b _ _ _ _ (fun S13 hF14 p15 => ?_) (sg_marks_b (nx := nx) _ (by grind (ematch := 12) (splits := 16) [SI, PT, WB, PLM, XI, PI, PJ, BU, LV, LG, OH, HH, HL, ix_int, q_zz, q_za, q_zga, q_fza, q_fx, q_fga, q_gza, q_gfa, q_gx, ti_link]) (by grind (ematch := 12) (splits := 16) [SI, PT, WB, PLM, XI, PI, PJ, BU, LV, LG, OH, HH, HL, ix_int, q_zz, q_za, q_zga, q_fza, q_fx, q_fga, q_gza, q_gfa, q_gx, ti_link]) (by grind (ematch := 12) (splits := 16) [SI, PT, WB, PLM, XI, PI, PJ, BU, LV, LG, OH, HH, HL, ix_int, q_zz, q_za, q_zga, q_fza, q_fx, q_fga, q_gza, q_gfa, q_gx, ti_link]))
            have ga_S13 := Fr_gaa hF14
            have z3_S13 := hF14.1 3 (by decide)
            have z4_S13 := hF14.1 4 (by decide)
            have z6_S13 := hF14.1 6 (by decide)
            have z7_S13 := hF14.1 7 (by decide)
            have z8_S13 := hF14.1 8 (by decide)
            have z9_S13 := hF14.1 9 (by decide)
            have z10_S13 := hF14.1 10 (by decide)
            have z11_S13 := hF14.1 11 (by decide)
            have z12_S13 := hF14.1 12 (by decide)
            have z13_S13 := hF14.1 13 (by decide)
            have z15_S13 := hF14.1 15 (by decide)
            have z17_S13 := hF14.1 17 (by decide)
            have z18_S13 := hF14.1 18 (by decide)
            have z19_S13 := hF14.1 19 (by decide)
            have z20_S13 := hF14.1 20 (by decide)
            have f1_S13 := Fr_fa hF14 1 (by decide)
            have f2_S13 := Fr_fa hF14 2 (by decide)
            have f8_S13 := Fr_fa hF14 8 (by decide)
            have f10_S13 := Fr_fa hF14 10 (by decide)
            have f25_S13 := Fr_fa hF14 25 (by decide)
            have f28_S13 := Fr_fa hF14 28 (by decide)
            have f35_S13 := Fr_fa hF14 35 (by decide)
            have f36_S13 := Fr_fa hF14 36 (by decide)
            have f45_S13 := Fr_fa hF14 45 (by decide)
            have f46_S13 := Fr_fa hF14 46 (by decide)
            have f48_S13 := Fr_fa hF14 48 (by decide)
            have g3_S13 := Fr_ga hF14 3 (by decide)
            have g4_S13 := Fr_ga hF14 4 (by decide)
            clear hF14
            intro S14 eS14
            grind (ematch := 12) (splits := 16) [SI, PT, WB, PLM, XI, PI, PJ, BU, LV, LG, OH, HH, HL, ix_int, q_zz, q_za, q_zga, q_fza, q_fx, q_fga, q_gza, q_gfa, q_gx, ti_link]
        · refine fm_then _ _ _ _ _ (fun S15 r15 hF16 p17 => ?_) (sg_then _ _ (by grind (ematch := 12) (splits := 16) [SI, PT, WB, PLM, XI, PI, PJ, BU, LV, LG, OH, HH, HL, ix_int, q_zz, q_za, q_zga, q_fza, q_fx, q_fga, q_gza, q_gfa, q_gx, ti_link]))
          have ga_S15 := Fr_gaa hF16
          have z3_S15 := hF16.1 3 (by decide)
          have z4_S15 := hF16.1 4 (by decide)
          have z6_S15 := hF16.1 6 (by decide)
          have z7_S15 := hF16.1 7 (by decide)
          have z9_S15 := hF16.1 9 (by decide)
          have z10_S15 := hF16.1 10 (by decide)
          have z11_S15 := hF16.1 11 (by decide)
          have z12_S15 := hF16.1 12 (by decide)
          have z13_S15 := hF16.1 13 (by decide)
          have z15_S15 := hF16.1 15 (by decide)
          have z17_S15 := hF16.1 17 (by decide)
          have z18_S15 := hF16.1 18 (by decide)
          have z20_S15 := hF16.1 20 (by decide)
          have f1_S15 := Fr_fa hF16 1 (by decide)
          have f2_S15 := Fr_fa hF16 2 (by decide)
          have f8_S15 := Fr_fa hF16 8 (by decide)
          have f10_S15 := Fr_fa hF16 10 (by decide)
          have f25_S15 := Fr_fa hF16 25 (by decide)
          have f28_S15 := Fr_fa hF16 28 (by decide)
          have f35_S15 := Fr_fa hF16 35 (by decide)
          have f36_S15 := Fr_fa hF16 36 (by decide)
          have f45_S15 := Fr_fa hF16 45 (by decide)
          have f46_S15 := Fr_fa hF16 46 (by decide)
          have f48_S15 := Fr_fa hF16 48 (by decide)
          have g3_S15 := Fr_ga hF16 3 (by decide)
          have g4_S15 := Fr_ga hF16 4 (by decide)
          clear hF16
          refine ⟨fun c18 => ?_, fun c18 => ?_⟩
          · refine fm_marks_c _ _ _ _ (fun S17 hF19 p20 => ?_) (sg_marks_c (nx := nx) _ (by grind (ematch := 12) (splits := 16) [SI, PT, WB, PLM, XI, PI, PJ, BU, LV, LG, OH, HH, HL, ix_int, q_zz, q_za, q_zga, q_fza, q_fx, q_fga, q_gza, q_gfa, q_gx, ti_link]) (by grind (ematch := 12) (splits := 16) [SI, PT, WB, PLM, XI, PI, PJ, BU, LV, LG, OH, HH, HL, ix_int, q_zz, q_za, q_zga, q_fza, q_fx, q_fga, q_gza, q_gfa, q_gx, ti_link]) (by grind (ematch := 12) (splits := 16) [SI, PT, WB, PLM, XI, PI, PJ, BU, LV, LG, OH, HH, HL, ix_int, q_zz, q_za, q_zga, q_fza, q_fx, q_fga, q_gza, q_gfa, q_gx, ti_link]))
            have ga_S17 := Fr_gaa hF19
            have z3_S17 := hF19.1 3 (by decide)
            have z4_S17 := hF19.1 4 (by decide)
            have z6_S17 := hF19.1 6 (by decide)
            have z7_S17 := hF19.1 7 (by decide)
            have z8_S17 := hF19.1 8 (by decide)
            have z9_S17 := hF19.1 9 (by decide)
            have z10_S17 := hF19.1 10 (by decide)
            have z11_S17 := hF19.1 11 (by decide)
            have z12_S17 := hF19.1 12 (by decide)
            have z13_S17 := hF19.1 13 (by decide)
            have z15_S17 := hF19.1 15 (by decide)
            have z17_S17 := hF19.1 17 (by decide)
            have z18_S17 := hF19.1 18 (by decide)
            have z19_S17 := hF19.1 19 (by decide)
            have z20_S17 := hF19.1 20 (by decide)
            have f1_S17 := Fr_fa hF19 1 (by decide)
            have f2_S17 := Fr_fa hF19 2 (by decide)
            have f8_S17 := Fr_fa hF19 8 (by decide)
            have f10_S17 := Fr_fa hF19 10 (by decide)
            have f25_S17 := Fr_fa hF19 25 (by decide)
            have f28_S17 := Fr_fa hF19 28 (by decide)
            have f35_S17 := Fr_fa hF19 35 (by decide)
            have f36_S17 := Fr_fa hF19 36 (by decide)
            have f45_S17 := Fr_fa hF19 45 (by decide)
            have f46_S17 := Fr_fa hF19 46 (by decide)
            have f48_S17 := Fr_fa hF19 48 (by decide)
            have g3_S17 := Fr_ga hF19 3 (by decide)
            have g4_S17 := Fr_ga hF19 4 (by decide)
            clear hF19
            intro S18 eS18
            grind (ematch := 12) (splits := 16) [SI, PT, WB, PLM, XI, PI, PJ, BU, LV, LG, OH, HH, HL, ix_int, q_zz, q_za, q_zga, q_fza, q_fx, q_fga, q_gza, q_gfa, q_gx, ti_link]
          · refine fm_marks_b _ _ _ _ (fun S19 hF21 p22 => ?_) (sg_marks_b (nx := nx) _ (by grind (ematch := 12) (splits := 16) [SI, PT, WB, PLM, XI, PI, PJ, BU, LV, LG, OH, HH, HL, ix_int, q_zz, q_za, q_zga, q_fza, q_fx, q_fga, q_gza, q_gfa, q_gx, ti_link]) (by grind (ematch := 12) (splits := 16) [SI, PT, WB, PLM, XI, PI, PJ, BU, LV, LG, OH, HH, HL, ix_int, q_zz, q_za, q_zga, q_fza, q_fx, q_fga, q_gza, q_gfa, q_gx, ti_link]) (by grind (ematch := 12) (splits := 16) [SI, PT, WB, PLM, XI, PI, PJ, BU, LV, LG, OH, HH, HL, ix_int, q_zz, q_za, q_zga, q_fza, q_fx, q_fga, q_gza, q_gfa, q_gx, ti_link]))
            have ga_S19 := Fr_gaa hF21
            have z3_S19 := hF21.1 3 (by decide)
            have z4_S19 := hF21.1 4 (by decide)
            have z6_S19 := hF21.1 6 (by decide)
            have z7_S19 := hF21.1 7 (by decide)
            have z8_S19 := hF21.1 8 (by decide)
            have z9_S19 := hF21.1 9 (by decide)
            have z10_S19 := hF21.1 10 (by decide)
            have z11_S19 := hF21.1 11 (by decide)
            have z12_S19 := hF21.1 12 (by decide)
            have z13_S19 := hF21.1 13 (by decide)
            have z15_S19 := hF21.1 15 (by decide)
            have z17_S19 := hF21.1 17 (by decide)
            have z18_S19 := hF21.1 18 (by decide)
            have z19_S19 := hF21.1 19 (by decide)
            have z20_S19 := hF21.1 20 (by decide)
            have f1_S19 := Fr_fa hF21 1 (by decide)
            have f2_S19 := Fr_fa hF21 2 (by decide)
            have f8_S19 := Fr_fa hF21 8 (by decide)
            have f10_S19 := Fr_fa hF21 10 (by decide)
            have f25_S19 := Fr_fa hF21 25 (by decide)
            have f28_S19 := Fr_fa hF21 28 (by decide)
            have f35_S19 := Fr_fa hF21 35 (by decide)
            have f36_S19 := Fr_fa hF21 36 (by decide)
            have f45_S19 := Fr_fa hF21 45 (by decide)
            have f46_S19 := Fr_fa hF21 46 (by decide)
            have f48_S19 := Fr_fa hF21 48 (by decide)
            have g3_S19 := Fr_ga hF21 3 (by decide)
            have g4_S19 := Fr_ga hF21 4 (by decide)
            clear hF21
            intro S20 eS20
            grind (ematch := 12) (splits := 16) [SI, PT, WB, PLM, XI, PI, PJ, BU, LV, LG, OH, HH, HL, ix_int, q_zz, q_za, q_zga, q_fza, q_fx, q_fga, q_gza, q_gfa, q_gx, ti_link]
      · refine fm_emit _ _ _ _ _ _ (fun S21 r21 hF23 p24 => ?_) (sg_emit _ _ _ (by grind (ematch := 12) (splits := 16) [SI, PT, WB, PLM, XI, PI, PJ, BU, LV, LG, OH, HH, HL, ix_int, q_zz, q_za, q_zga, q_fza, q_fx, q_fga, q_gza, q_gfa, q_gx, ti_link]))
        have ga_S21 := Fr_gaa hF23
        have z3_S21 := hF23.1 3 (by decide)
        have z4_S21 := hF23.1 4 (by decide)
        have z6_S21 := hF23.1 6 (by decide)
        have z8_S21 := hF23.1 8 (by decide)
        have z9_S21 := hF23.1 9 (by decide)
        have z10_S21 := hF23.1 10 (by decide)
        have z11_S21 := hF23.1 11 (by decide)
        have z12_S21 := hF23.1 12 (by decide)
        have z13_S21 := hF23.1 13 (by decide)
        have z15_S21 := hF23.1 15 (by decide)
        have z17_S21 := hF23.1 17 (by decide)
        have z18_S21 := hF23.1 18 (by decide)
        have z19_S21 := hF23.1 19 (by decide)
        have z20_S21 := hF23.1 20 (by decide)
        have f1_S21 := Fr_fa hF23 1 (by decide)
        have f2_S21 := Fr_fa hF23 2 (by decide)
        have f8_S21 := Fr_fa hF23 8 (by decide)
        have f10_S21 := Fr_fa hF23 10 (by decide)
        have f25_S21 := Fr_fa hF23 25 (by decide)
        have f28_S21 := Fr_fa hF23 28 (by decide)
        have f35_S21 := Fr_fa hF23 35 (by decide)
        have f36_S21 := Fr_fa hF23 36 (by decide)
        have f45_S21 := Fr_fa hF23 45 (by decide)
        have f46_S21 := Fr_fa hF23 46 (by decide)
        have f48_S21 := Fr_fa hF23 48 (by decide)
        have g3_S21 := Fr_ga hF23 3 (by decide)
        have g4_S21 := Fr_ga hF23 4 (by decide)
        clear hF23
        refine ⟨fun c25 => ?_, fun c25 => ?_⟩
        · refine fm_then _ _ _ _ _ (fun S23 r23 hF26 p27 => ?_) (sg_then _ _ (by grind (ematch := 12) (splits := 16) [SI, PT, WB, PLM, XI, PI, PJ, BU, LV, LG, OH, HH, HL, ix_int, q_zz, q_za, q_zga, q_fza, q_fx, q_fga, q_gza, q_gfa, q_gx, ti_link]))
          have ga_S23 := Fr_gaa hF26
          have z3_S23 := hF26.1 3 (by decide)
          have z4_S23 := hF26.1 4 (by decide)
          have z6_S23 := hF26.1 6 (by decide)
          have z7_S23 := hF26.1 7 (by decide)
          have z9_S23 := hF26.1 9 (by decide)
          have z10_S23 := hF26.1 10 (by decide)
          have z11_S23 := hF26.1 11 (by decide)
          have z12_S23 := hF26.1 12 (by decide)
          have z13_S23 := hF26.1 13 (by decide)
          have z15_S23 := hF26.1 15 (by decide)
          have z17_S23 := hF26.1 17 (by decide)
          have z18_S23 := hF26.1 18 (by decide)
          have z20_S23 := hF26.1 20 (by decide)
          have f1_S23 := Fr_fa hF26 1 (by decide)
          have f2_S23 := Fr_fa hF26 2 (by decide)
          have f8_S23 := Fr_fa hF26 8 (by decide)
          have f10_S23 := Fr_fa hF26 10 (by decide)
          have f25_S23 := Fr_fa hF26 25 (by decide)
          have f28_S23 := Fr_fa hF26 28 (by decide)
          have f35_S23 := Fr_fa hF26 35 (by decide)
          have f36_S23 := Fr_fa hF26 36 (by decide)
          have f45_S23 := Fr_fa hF26 45 (by decide)
          have f46_S23 := Fr_fa hF26 46 (by decide)
          have f48_S23 := Fr_fa hF26 48 (by decide)
          have g3_S23 := Fr_ga hF26 3 (by decide)
          have g4_S23 := Fr_ga hF26 4 (by decide)
          clear hF26
          refine ⟨fun c28 => ?_, fun c28 => ?_⟩
          · refine fm_marks_c _ _ _ _ (fun S25 hF29 p30 => ?_) (sg_marks_c (nx := nx) _ (by grind (ematch := 12) (splits := 16) [SI, PT, WB, PLM, XI, PI, PJ, BU, LV, LG, OH, HH, HL, ix_int, q_zz, q_za, q_zga, q_fza, q_fx, q_fga, q_gza, q_gfa, q_gx, ti_link]) (by grind (ematch := 12) (splits := 16) [SI, PT, WB, PLM, XI, PI, PJ, BU, LV, LG, OH, HH, HL, ix_int, q_zz, q_za, q_zga, q_fza, q_fx, q_fga, q_gza, q_gfa, q_gx, ti_link]) (by grind (ematch := 12) (splits := 16) [SI, PT, WB, PLM, XI, PI, PJ, BU, LV, LG, OH, HH, HL, ix_int, q_zz, q_za, q_zga, q_fza, q_fx, q_fga, q_gza, q_gfa, q_gx, ti_link]))
            have ga_S25 := Fr_gaa hF29
            have z3_S25 := hF29.1 3 (by decide)
            have z4_S25 := hF29.1 4 (by decide)
            have z6_S25 := hF29.1 6 (by decide)
            have z7_S25 := hF29.1 7 (by decide)
            have z8_S25 := hF29.1 8 (by decide)
            have z9_S25 := hF29.1 9 (by decide)
            have z10_S25 := hF29.1 10 (by decide)
            have z11_S25 := hF29.1 11 (by decide)
            have z12_S25 := hF29.1 12 (by decide)
            have z13_S25 := hF29.1 13 (by decide)
            have z15_S25 := hF29.1 15 (by decide)
            have z17_S25 := hF29.1 17 (by decide)
            have z18_S25 := hF29.1 18 (by decide)
            have z19_S25 := hF29.1 19 (by decide)
            have z20_S25 := hF29.1 20 (by decide)
            have f1_S25 := Fr_fa hF29 1 (by decide)
            have f2_S25 := Fr_fa hF29 2 (by decide)
            have f8_S25 := Fr_fa hF29 8 (by decide)
            have f10_S25 := Fr_fa hF29 10 (by decide)
            have f25_S25 := Fr_fa hF29 25 (by decide)
            have f28_S25 := Fr_fa hF29 28 (by decide)
            have f35_S25 := Fr_fa hF29 35 (by decide)
            have f36_S25 := Fr_fa hF29 36 (by decide)
            have f45_S25 := Fr_fa hF29 45 (by decide)
            have f46_S25 := Fr_fa hF29 46 (by decide)
            have f48_S25 := Fr_fa hF29 48 (by decide)
            have g3_S25 := Fr_ga hF29 3 (by decide)
            have g4_S25 := Fr_ga hF29 4 (by decide)
            clear hF29
            intro S26 eS26
            grind (ematch := 12) (splits := 16) [SI, PT, WB, PLM, XI, PI, PJ, BU, LV, LG, OH, HH, HL, ix_int, q_zz, q_za, q_zga, q_fza, q_fx, q_fga, q_gza, q_gfa, q_gx, ti_link]
          · refine fm_marks_b _ _ _ _ (fun S27 hF31 p32 => ?_) (sg_marks_b (nx := nx) _ (by grind (ematch := 12) (splits := 16) [SI, PT, WB, PLM, XI, PI, PJ, BU, LV, LG, OH, HH, HL, ix_int, q_zz, q_za, q_zga, q_fza, q_fx, q_fga, q_gza, q_gfa, q_gx, ti_link]) (by grind (ematch := 12) (splits := 16) [SI, PT, WB, PLM, XI, PI, PJ, BU, LV, LG, OH, HH, HL, ix_int, q_zz, q_za, q_zga, q_fza, q_fx, q_fga, q_gza, q_gfa, q_gx, ti_link]) (by grind (ematch := 12) (splits := 16) [SI, PT, WB, PLM, XI, PI, PJ, BU, LV, LG, OH, HH, HL, ix_int, q_zz, q_za, q_zga, q_fza, q_fx, q_fga, q_gza, q_gfa, q_gx, ti_link]))
            have ga_S27 := Fr_gaa hF31
            have z3_S27 := hF31.1 3 (by decide)
            have z4_S27 := hF31.1 4 (by decide)
            have z6_S27 := hF31.1 6 (by decide)
            have z7_S27 := hF31.1 7 (by decide)
            have z8_S27 := hF31.1 8 (by decide)
            have z9_S27 := hF31.1 9 (by decide)
            have z10_S27 := hF31.1 10 (by decide)
            have z11_S27 := hF31.1 11 (by decide)
            have z12_S27 := hF31.1 12 (by decide)
            have z13_S27 := hF31.1 13 (by decide)
            have z15_S27 := hF31.1 15 (by decide)
            have z17_S27 := hF31.1 17 (by decide)
            have z18_S27 := hF31.1 18 (by decide)
            have z19_S27 := hF31.1 19 (by decide)
            have z20_S27 := hF31.1 20 (by decide)
            have f1_S27 := Fr_fa hF31 1 (by decide)
            have f2_S27 := Fr_fa hF31 2 (by decide)
            have f8_S27 := Fr_fa hF31 8 (by decide)
            have f10_S27 := Fr_fa hF31 10 (by decide)
            have f25_S27 := Fr_fa hF31 25 (by decide)
            have f28_S27 := Fr_fa hF31 28 (by decide)
            have f35_S27 := Fr_fa hF31 35 (by decide)
            have f36_S27 := Fr_fa hF31 36 (by decide)
            have f45_S27 := Fr_fa hF31 45 (by decide)
            have f46_S27 := Fr_fa hF31 46 (by decide)
            have f48_S27 := Fr_fa hF31 48 (by decide)
            have g3_S27 := Fr_ga hF31 3 (by decide)
            have g4_S27 := Fr_ga hF31 4 (by decide)
            clear hF31
            intro S28 eS28
            grind (ematch := 12) (splits := 16) [SI, PT, WB, PLM, XI, PI, PJ, BU, LV, LG, OH, HH, HL, ix_int, q_zz, q_za, q_zga, q_fza, q_fx, q_fga, q_gza, q_gfa, q_gx, ti_link]
        · refine fm_then _ _ _ _ _ (fun S29 r29 hF33 p34 => ?_) (sg_then _ _ (by grind (ematch := 12) (splits := 16) [SI, PT, WB, PLM, XI, PI, PJ, BU, LV, LG, OH, HH, HL, ix_int, q_zz, q_za, q_zga, q_fza, q_fx, q_fga, q_gza, q_gfa, q_gx, ti_link]))
          have ga_S29 := Fr_gaa hF33
          have z3_S29 := hF33.1 3 (by decide)
          have z4_S29 := hF33.1 4 (by decide)
          have z6_S29 := hF33.1 6 (by decide)
          have z7_S29 := hF33.1 7 (by decide)
          have z9_S29 := hF33.1 9 (by decide)
          have z10_S29 := hF33.1 10 (by decide)
          have z11_S29 := hF33.1 11 (by decide)
          have z12_S29 := hF33.1 12 (by decide)
          have z13_S29 := hF33.1 13 (by decide)
          have z15_S29 := hF33.1 15 (by decide)
          have z17_S29 := hF33.1 17 (by decide)
          have z18_S29 := hF33.1 18 (by decide)
          have z20_S29 := hF33.1 20 (by decide)
          have f1_S29 := Fr_fa hF33 1 (by decide)
          have f2_S29 := Fr_fa hF33 2 (by decide)
          have f8_S29 := Fr_fa hF33 8 (by decide)
          have f10_S29 := Fr_fa hF33 10 (by decide)
          have f25_S29 := Fr_fa hF33 25 (by decide)
          have f28_S29 := Fr_fa hF33 28 (by decide)
          have f35_S29 := Fr_fa hF33 35 (by decide)
          have f36_S29 := Fr_fa hF33 36 (by decide)
          have f45_S29 := Fr_fa hF33 45 (by decide)
          have f46_S29 := Fr_fa hF33 46 (by decide)
          have f48_S29 := Fr_fa hF33 48 (by decide)
          have g3_S29 := Fr_ga hF33 3 (by decide)
          have g4_S29 := Fr_ga hF33 4 (by decide)
          clear hF33
          refine ⟨fun c35 => ?_, fun c35 => ?_⟩
          · refine fm_marks_c _ _ _ _ (fun S31 hF36 p37 => ?_) (sg_marks_c (nx := nx) _ (by grind (ematch := 12) (splits := 16) [SI, PT, WB, PLM, XI, PI, PJ, BU, LV, LG, OH, HH, HL, ix_int, q_zz, q_za, q_zga, q_fza, q_fx, q_fga, q_gza, q_gfa, q_gx, ti_link]) (by grind (ematch := 12) (splits := 16) [SI, PT, WB, PLM, XI, PI, PJ, BU, LV, LG, OH, HH, HL, ix_int, q_zz, q_za, q_zga, q_fza, q_fx, q_fga, q_gza, q_gfa, q_gx, ti_link]) (by grind (ematch := 12) (splits := 16) [SI, PT, WB, PLM, XI, PI, PJ, BU, LV, LG, OH, HH, HL, ix_int, q_zz, q_za, q_zga, q_fza, q_fx, q_fga, q_gza, q_gfa, q_gx, ti_link]))
            have ga_S31 := Fr_gaa hF36
            have z3_S31 := hF36.1 3 (by decide)
            have z4_S31 := hF36.1 4 (by decide)
            have z6_S31 := hF36.1 6 (by decide)
            have z7_S31 := hF36.1 7 (by decide)
            have z8_S31 := hF36.1 8 (by decide)
            have z9_S31 := hF36.1 9 (by decide)
            have z10_S31 := hF36.1 10 (by decide)
            have z11_S31 := hF36.1 11 (by decide)
            have z12_S31 := hF36.1 12 (by decide)
            have z13_S31 := hF36.1 13 (by decide)
            have z15_S31 := hF36.1 15 (by decide)
            have z17_S31 := hF36.1 17 (by decide)
            have z18_S31 := hF36.1 18 (by decide)
            have z19_S31 := hF36.1 19 (by decide)
            have z20_S31 := hF36.1 20 (by decide)
            have f1_S31 := Fr_fa hF36 1 (by decide)
            have f2_S31 := Fr_fa hF36 2 (by decide)
            have f8_S31 := Fr_fa hF36 8 (by decide)
            have f10_S31 := Fr_fa hF36 10 (by decide)
            have f25_S31 := Fr_fa hF36 25 (by decide)
            have f28_S31 := Fr_fa hF36 28 (by decide)
            have f35_S31 := Fr_fa hF36 35 (by decide)
            have f36_S31 := Fr_fa hF36 36 (by decide)
            have f45_S31 := Fr_fa hF36 45 (by decide)
            have f46_S31 := Fr_fa hF36 46 (by decide)
            have f48_S31 := Fr_fa hF36 48 (by decide)
            have g3_S31 := Fr_ga hF36 3 (by decide)
            have g4_S31 := Fr_ga hF36 4 (by decide)
            clear hF36
            intro S32 eS32
            grind (ematch := 12) (splits := 16) [SI, PT, WB, PLM, XI, PI, PJ, BU, LV, LG, OH, HH, HL, ix_int, q_zz, q_za, q_zga, q_fza, q_fx, q_fga, q_gza, q_gfa, q_gx, ti_link]
          · refine fm_marks_b _ _ _ _ (fun S33 hF38 p39 => ?_) (sg_marks_b (nx := nx) _ (by grind (ematch := 12) (splits := 16) [SI, PT, WB, PLM, XI, PI, PJ, BU, LV, LG, OH, HH, HL, ix_int, q_zz, q_za, q_zga, q_fza, q_fx, q_fga, q_gza, q_gfa, q_gx, ti_link]) (by grind (ematch := 12) (splits := 16) [SI, PT, WB, PLM, XI, PI, PJ, BU, LV, LG, OH, HH, HL, ix_int, q_zz, q_za, q_zga, q_fza, q_fx, q_fga, q_gza, q_gfa, q_gx, ti_link]) (by grind (ematch := 12) (splits := 16) [SI, PT, WB, PLM, XI, PI, PJ, BU, LV, LG, OH, HH, HL, ix_int, q_zz, q_za, q_zga, q_fza, q_fx, q_fga, q_gza, q_gfa, q_gx, ti_link]))
            have ga_S33 := Fr_gaa hF38
            have z3_S33 := hF38.1 3 (by decide)
            have z4_S33 := hF38.1 4 (by decide)
            have z6_S33 := hF38.1 6 (by decide)
            have z7_S33 := hF38.1 7 (by decide)
            have z8_S33 := hF38.1 8 (by decide)
            have z9_S33 := hF38.1 9 (by decide)
            have z10_S33 := hF38.1 10 (by decide)
            have z11_S33 := hF38.1 11 (by decide)
            have z12_S33 := hF38.1 12 (by decide)
            have z13_S33 := hF38.1 13 (by decide)
            have z15_S33 := hF38.1 15 (by decide)
            have z17_S33 := hF38.1 17 (by decide)
            have z18_S33 := hF38.1 18 (by decide)
            have z19_S33 := hF38.1 19 (by decide)
            have z20_S33 := hF38.1 20 (by decide)
            have f1_S33 := Fr_fa hF38 1 (by decide)
            have f2_S33 := Fr_fa hF38 2 (by decide)
            have f8_S33 := Fr_fa hF38 8 (by decide)
            have f10_S33 := Fr_fa hF38 10 (by decide)
            have f25_S33 := Fr_fa hF38 25 (by decide)
            have f28_S33 := Fr_fa hF38 28 (by decide)
            have f35_S33 := Fr_fa hF38 35 (by decide)
            have f36_S33 := Fr_fa hF38 36 (by decide)
            have f45_S33 := Fr_fa hF38 45 (by decide)
            have f46_S33 := Fr_fa hF38 46 (by decide)
            have f48_S33 := Fr_fa hF38 48 (by decide)
            have g3_S33 := Fr_ga hF38 3 (by decide)
            have g4_S33 := Fr_ga hF38 4 (by decide)
            clear hF38
            intro S34 eS34
            grind (ematch := 12) (splits := 16) [SI, PT, WB, PLM, XI, PI, PJ, BU, LV, LG, OH, HH, HL, ix_int, q_zz, q_za, q_zga, q_fza, q_fx, q_fga, q_gza, q_gfa, q_gx, ti_link]
    · refine fm_wrong _ _ _ _ (fun S35 hF40 p41 => ?_) (sg_wrong (nx := nx) (n := n) (so := so) (pl := pl) (wo := wo) (ws := ws) _ (by grind (ematch := 12) (splits := 16) [SI, PT, WB, PLM, XI, PI, PJ, BU, LV, LG, OH, HH, HL, ix_int, q_zz, q_za, q_zga, q_fza, q_fx, q_fga, q_gza, q_gfa, q_gx, ti_link]) (by grind (ematch := 12) (splits := 16) [SI, PT, WB, PLM, XI, PI, PJ, BU, LV, LG, OH, HH, HL, ix_int, q_zz, q_za, q_zga, q_fza, q_fx, q_fga, q_gza, q_gfa, q_gx, ti_link]))
      have fa_S35 := Fr_faa hF40
      have ga_S35 := Fr_gaa hF40
      have z3_S35 := hF40.1 3 (by decide)
      have z6_S35 := hF40.1 6 (by decide)
      have z7_S35 := hF40.1 7 (by decide)
      have z8_S35 := hF40.1 8 (by decide)
      have z9_S35 := hF40.1 9 (by decide)
      have z10_S35 := hF40.1 10 (by decide)
      have z11_S35 := hF40.1 11 (by decide)
      have z12_S35 := hF40.1 12 (by decide)
      have z13_S35 := hF40.1 13 (by decide)
      have z15_S35 := hF40.1 15 (by decide)
      have z17_S35 := hF40.1 17 (by decide)
      have z18_S35 := hF40.1 18 (by decide)
      have z19_S35 := hF40.1 19 (by decide)
      have z20_S35 := hF40.1 20 (by decide)
      have f1_S35 := Fr_fa hF40 1 (by decide)
      have f2_S35 := Fr_fa hF40 2 (by decide)
      have f8_S35 := Fr_fa hF40 8 (by decide)
      have f10_S35 := Fr_fa hF40 10 (by decide)
      have f25_S35 := Fr_fa hF40 25 (by decide)
      have f28_S35 := Fr_fa hF40 28 (by decide)
      have f35_S35 := Fr_fa hF40 35 (by decide)
      have f36_S35 := Fr_fa hF40 36 (by decide)
      have f45_S35 := Fr_fa hF40 45 (by decide)
      have f46_S35 := Fr_fa hF40 46 (by decide)
      have f48_S35 := Fr_fa hF40 48 (by decide)
      have g3_S35 := Fr_ga hF40 3 (by decide)
      have g4_S35 := Fr_ga hF40 4 (by decide)
      clear hF40
      grind (ematch := 12) (splits := 16) [SI, PT, WB, PLM, XI, PI, PJ, BU, LV, LG, OH, HH, HL, ix_int, q_zz, q_za, q_zga, q_fza, q_fx, q_fga, q_gza, q_gfa, q_gx, ti_link]
set_option maxHeartbeats 4000000 in
theorem sg_sets {nx n : Nat} {so pl : Nat → Int32} {wo ws : Nat → Int64} {S0 : mS} {d : Nat} {G GA X Y GW GT : Int} {S : mS} (hL : LV d G GA X Y) (h : SI nx n so pl wo ws S0 d G GA X Y GW GT S) : wp_sets S (fun S1 => SI nx n so pl wo ws S0 d G GA (X + 12) (Y + 4) GW GT S1 ∧ ((S1.1 4) = 0 → (S.1 4) = 0 ∧ (S.1 3).toInt < (S1.1 3).toInt)) := by
  unfold wp_sets
  refine fm_isName _ _ _ (fun S1 r1 hF1 p2 => ?_) (sg_isName (nx := nx) (n := n) (so := so) (pl := pl) (wo := wo) (ws := ws) (by grind (ematch := 12) (splits := 16) [SI, PT, WB, PLM, XI, PI, PJ, BU, LV, LG, OH, HH, HL, ix_int, q_zz, q_za, q_zga, q_fza, q_fx, q_fga, q_gza, q_gfa, q_gx, ti_link]))
  have fa_S1 := Fr_faa hF1
  have ga_S1 := Fr_gaa hF1
  have z3_S1 := hF1.1 3 (by decide)
  have z4_S1 := hF1.1 4 (by decide)
  have z6_S1 := hF1.1 6 (by decide)
  have z7_S1 := hF1.1 7 (by decide)
  have z8_S1 := hF1.1 8 (by decide)
  have z9_S1 := hF1.1 9 (by decide)
  have z10_S1 := hF1.1 10 (by decide)
  have z11_S1 := hF1.1 11 (by decide)
  have z12_S1 := hF1.1 12 (by decide)
  have z13_S1 := hF1.1 13 (by decide)
  have z15_S1 := hF1.1 15 (by decide)
  have z17_S1 := hF1.1 17 (by decide)
  have z18_S1 := hF1.1 18 (by decide)
  have z19_S1 := hF1.1 19 (by decide)
  have z20_S1 := hF1.1 20 (by decide)
  have f1_S1 := Fr_fa hF1 1 (by decide)
  have f2_S1 := Fr_fa hF1 2 (by decide)
  have f8_S1 := Fr_fa hF1 8 (by decide)
  have f10_S1 := Fr_fa hF1 10 (by decide)
  have f25_S1 := Fr_fa hF1 25 (by decide)
  have f28_S1 := Fr_fa hF1 28 (by decide)
  have f35_S1 := Fr_fa hF1 35 (by decide)
  have f36_S1 := Fr_fa hF1 36 (by decide)
  have f45_S1 := Fr_fa hF1 45 (by decide)
  have f46_S1 := Fr_fa hF1 46 (by decide)
  have f48_S1 := Fr_fa hF1 48 (by decide)
  have g3_S1 := Fr_ga hF1 3 (by decide)
  have g4_S1 := Fr_ga hF1 4 (by decide)
  clear hF1
  refine ⟨fun c3 => ?_, fun c3 => ?_⟩
  · refine fm_takeCell _ _ _ (fun S3 r3 hF4 p5 => ?_) (sg_takeCell (nx := nx) (n := n) (so := so) (pl := pl) (wo := wo) (ws := ws) (by grind (ematch := 12) (splits := 16) [SI, PT, WB, PLM, XI, PI, PJ, BU, LV, LG, OH, HH, HL, ix_int, q_zz, q_za, q_zga, q_fza, q_fx, q_fga, q_gza, q_gfa, q_gx, ti_link]) (by grind (ematch := 12) (splits := 16) [SI, PT, WB, PLM, XI, PI, PJ, BU, LV, LG, OH, HH, HL, ix_int, q_zz, q_za, q_zga, q_fza, q_fx, q_fga, q_gza, q_gfa, q_gx, ti_link]) (by grind (ematch := 12) (splits := 16) [SI, PT, WB, PLM, XI, PI, PJ, BU, LV, LG, OH, HH, HL, ix_int, q_zz, q_za, q_zga, q_fza, q_fx, q_fga, q_gza, q_gfa, q_gx, ti_link]))
    have z6_S3 := hF4.1 6 (by decide)
    have z7_S3 := hF4.1 7 (by decide)
    have z8_S3 := hF4.1 8 (by decide)
    have z9_S3 := hF4.1 9 (by decide)
    have z10_S3 := hF4.1 10 (by decide)
    have z11_S3 := hF4.1 11 (by decide)
    have z12_S3 := hF4.1 12 (by decide)
    have z13_S3 := hF4.1 13 (by decide)
    have z15_S3 := hF4.1 15 (by decide)
    have z17_S3 := hF4.1 17 (by decide)
    have z18_S3 := hF4.1 18 (by decide)
    have z19_S3 := hF4.1 19 (by decide)
    have z20_S3 := hF4.1 20 (by decide)
    have f1_S3 := Fr_fa hF4 1 (by decide)
    have f2_S3 := Fr_fa hF4 2 (by decide)
    have f10_S3 := Fr_fa hF4 10 (by decide)
    have f25_S3 := Fr_fa hF4 25 (by decide)
    have f28_S3 := Fr_fa hF4 28 (by decide)
    have f35_S3 := Fr_fa hF4 35 (by decide)
    have f36_S3 := Fr_fa hF4 36 (by decide)
    have f45_S3 := Fr_fa hF4 45 (by decide)
    have f46_S3 := Fr_fa hF4 46 (by decide)
    have f48_S3 := Fr_fa hF4 48 (by decide)
    have g3_S3 := Fr_ga hF4 3 (by decide)
    have g4_S3 := Fr_ga hF4 4 (by decide)
    clear hF4
    refine fm_takeSign _ _ _ _ (fun S4 hF6 p7 => ?_) (sg_takeSign (nx := nx) (n := n) (so := so) (pl := pl) (wo := wo) (ws := ws) _ (by grind (ematch := 12) (splits := 16) [SI, PT, WB, PLM, XI, PI, PJ, BU, LV, LG, OH, HH, HL, ix_int, q_zz, q_za, q_zga, q_fza, q_fx, q_fga, q_gza, q_gfa, q_gx, ti_link]))
    have fa_S4 := Fr_faa hF6
    have ga_S4 := Fr_gaa hF6
    have z6_S4 := hF6.1 6 (by decide)
    have z7_S4 := hF6.1 7 (by decide)
    have z8_S4 := hF6.1 8 (by decide)
    have z9_S4 := hF6.1 9 (by decide)
    have z10_S4 := hF6.1 10 (by decide)
    have z11_S4 := hF6.1 11 (by decide)
    have z12_S4 := hF6.1 12 (by decide)
    have z13_S4 := hF6.1 13 (by decide)
    have z15_S4 := hF6.1 15 (by decide)
    have z17_S4 := hF6.1 17 (by decide)
    have z18_S4 := hF6.1 18 (by decide)
    have z19_S4 := hF6.1 19 (by decide)
    have z20_S4 := hF6.1 20 (by decide)
    have f1_S4 := Fr_fa hF6 1 (by decide)
    have f2_S4 := Fr_fa hF6 2 (by decide)
    have f8_S4 := Fr_fa hF6 8 (by decide)
    have f10_S4 := Fr_fa hF6 10 (by decide)
    have f25_S4 := Fr_fa hF6 25 (by decide)
    have f28_S4 := Fr_fa hF6 28 (by decide)
    have f35_S4 := Fr_fa hF6 35 (by decide)
    have f36_S4 := Fr_fa hF6 36 (by decide)
    have f45_S4 := Fr_fa hF6 45 (by decide)
    have f46_S4 := Fr_fa hF6 46 (by decide)
    have f48_S4 := Fr_fa hF6 48 (by decide)
    have g3_S4 := Fr_ga hF6 3 (by decide)
    have g4_S4 := Fr_ga hF6 4 (by decide)
    clear hF6
    refine fm_isWord _ _ _ _ (fun S5 r5 hF8 p9 => ?_) (sg_isWord (nx := nx) (n := n) (so := so) (pl := pl) (wo := wo) (ws := ws) _ (by grind (ematch := 12) (splits := 16) [SI, PT, WB, PLM, XI, PI, PJ, BU, LV, LG, OH, HH, HL, ix_int, q_zz, q_za, q_zga, q_fza, q_fx, q_fga, q_gza, q_gfa, q_gx, ti_link]) (by grind (ematch := 12) (splits := 16) [SI, PT, WB, PLM, XI, PI, PJ, BU, LV, LG, OH, HH, HL, ix_int, q_zz, q_za, q_zga, q_fza, q_fx, q_fga, q_gza, q_gfa, q_gx, ti_link]))
    have fa_S5 := Fr_faa hF8
    have ga_S5 := Fr_gaa hF8
    have z3_S5 := hF8.1 3 (by decide)
    have z4_S5 := hF8.1 4 (by decide)
    have z6_S5 := hF8.1 6 (by decide)
    have z7_S5 := hF8.1 7 (by decide)
    have z8_S5 := hF8.1 8 (by decide)
    have z9_S5 := hF8.1 9 (by decide)
    have z10_S5 := hF8.1 10 (by decide)
    have z11_S5 := hF8.1 11 (by decide)
    have z12_S5 := hF8.1 12 (by decide)
    have z13_S5 := hF8.1 13 (by decide)
    have z15_S5 := hF8.1 15 (by decide)
    have z17_S5 := hF8.1 17 (by decide)
    have z18_S5 := hF8.1 18 (by decide)
    have z19_S5 := hF8.1 19 (by decide)
    have z20_S5 := hF8.1 20 (by decide)
    have f1_S5 := Fr_fa hF8 1 (by decide)
    have f2_S5 := Fr_fa hF8 2 (by decide)
    have f8_S5 := Fr_fa hF8 8 (by decide)
    have f10_S5 := Fr_fa hF8 10 (by decide)
    have f25_S5 := Fr_fa hF8 25 (by decide)
    have f28_S5 := Fr_fa hF8 28 (by decide)
    have f35_S5 := Fr_fa hF8 35 (by decide)
    have f36_S5 := Fr_fa hF8 36 (by decide)
    have f45_S5 := Fr_fa hF8 45 (by decide)
    have f46_S5 := Fr_fa hF8 46 (by decide)
    have f48_S5 := Fr_fa hF8 48 (by decide)
    have g3_S5 := Fr_ga hF8 3 (by decide)
    have g4_S5 := Fr_ga hF8 4 (by decide)
    clear hF8
    refine ⟨fun c10 => ?_, fun c10 => ?_⟩
    · refine fq_expression _ _ _ (fun S7 hF11 p12 => ?_) (sq_expression (nx := nx) (n := n) (so := so) (pl := pl) (wo := wo) (ws := ws) (S0 := S0) (d := d) (G := (G - 10)) (GA := GA) (X := X) (Y := Y) (by grind (ematch := 12) (splits := 16) [SI, PT, WB, PLM, XI, PI, PJ, BU, LV, LG, OH, HH, HL, ix_int, q_zz, q_za, q_zga, q_fza, q_fx, q_fga, q_gza, q_gfa, q_gx, ti_link]) (by grind (ematch := 12) (splits := 16) [SI, PT, WB, PLM, XI, PI, PJ, BU, LV, LG, OH, HH, HL, ix_int, q_zz, q_za, q_zga, q_fza, q_fx, q_fga, q_gza, q_gfa, q_gx, ti_link]))
      have z6_S7 := hF11.1 6 (by decide)
      have z9_S7 := hF11.1 9 (by decide)
      have z10_S7 := hF11.1 10 (by decide)
      have z11_S7 := hF11.1 11 (by decide)
      have z12_S7 := hF11.1 12 (by decide)
      have z13_S7 := hF11.1 13 (by decide)
      have z15_S7 := hF11.1 15 (by decide)
      have z17_S7 := hF11.1 17 (by decide)
      have z20_S7 := hF11.1 20 (by decide)
      have f1_S7 := Fr_fa hF11 1 (by decide)
      have f2_S7 := Fr_fa hF11 2 (by decide)
      have f10_S7 := Fr_fa hF11 10 (by decide)
      have f25_S7 := Fr_fa hF11 25 (by decide)
      have f28_S7 := Fr_fa hF11 28 (by decide)
      have f35_S7 := Fr_fa hF11 35 (by decide)
      have f36_S7 := Fr_fa hF11 36 (by decide)
      have f45_S7 := Fr_fa hF11 45 (by decide)
      have f46_S7 := Fr_fa hF11 46 (by decide)
      have f48_S7 := Fr_fa hF11 48 (by decide)
      have g3_S7 := Fr_ga hF11 3 (by decide)
      have g4_S7 := Fr_ga hF11 4 (by decide)
      clear hF11
      refine fm_emit _ _ _ _ _ _ (fun S8 r8 hF13 p14 => ?_) (sg_emit _ _ _ (by grind (ematch := 12) (splits := 16) [SI, PT, WB, PLM, XI, PI, PJ, BU, LV, LG, OH, HH, HL, ix_int, q_zz, q_za, q_zga, q_fza, q_fx, q_fga, q_gza, q_gfa, q_gx, ti_link]))
      have ga_S8 := Fr_gaa hF13
      have z3_S8 := hF13.1 3 (by decide)
      have z4_S8 := hF13.1 4 (by decide)
      have z6_S8 := hF13.1 6 (by decide)
      have z8_S8 := hF13.1 8 (by decide)
      have z9_S8 := hF13.1 9 (by decide)
      have z10_S8 := hF13.1 10 (by decide)
      have z11_S8 := hF13.1 11 (by decide)
      have z12_S8 := hF13.1 12 (by decide)
      have z13_S8 := hF13.1 13 (by decide)
      have z15_S8 := hF13.1 15 (by decide)
      have z17_S8 := hF13.1 17 (by decide)
      have z18_S8 := hF13.1 18 (by decide)
      have z19_S8 := hF13.1 19 (by decide)
      have z20_S8 := hF13.1 20 (by decide)
      have f1_S8 := Fr_fa hF13 1 (by decide)
      have f2_S8 := Fr_fa hF13 2 (by decide)
      have f8_S8 := Fr_fa hF13 8 (by decide)
      have f10_S8 := Fr_fa hF13 10 (by decide)
      have f25_S8 := Fr_fa hF13 25 (by decide)
      have f28_S8 := Fr_fa hF13 28 (by decide)
      have f35_S8 := Fr_fa hF13 35 (by decide)
      have f36_S8 := Fr_fa hF13 36 (by decide)
      have f45_S8 := Fr_fa hF13 45 (by decide)
      have f46_S8 := Fr_fa hF13 46 (by decide)
      have f48_S8 := Fr_fa hF13 48 (by decide)
      have g3_S8 := Fr_ga hF13 3 (by decide)
      have g4_S8 := Fr_ga hF13 4 (by decide)
      clear hF13
      refine fm_then _ _ _ _ _ (fun S9 r9 hF15 p16 => ?_) (sg_then _ _ (by grind (ematch := 12) (splits := 16) [SI, PT, WB, PLM, XI, PI, PJ, BU, LV, LG, OH, HH, HL, ix_int, q_zz, q_za, q_zga, q_fza, q_fx, q_fga, q_gza, q_gfa, q_gx, ti_link]))
      have ga_S9 := Fr_gaa hF15
      have z3_S9 := hF15.1 3 (by decide)
      have z4_S9 := hF15.1 4 (by decide)
      have z6_S9 := hF15.1 6 (by decide)
      have z7_S9 := hF15.1 7 (by decide)
      have z9_S9 := hF15.1 9 (by decide)
      have z10_S9 := hF15.1 10 (by decide)
      have z11_S9 := hF15.1 11 (by decide)
      have z12_S9 := hF15.1 12 (by decide)
      have z13_S9 := hF15.1 13 (by decide)
      have z15_S9 := hF15.1 15 (by decide)
      have z17_S9 := hF15.1 17 (by decide)
      have z18_S9 := hF15.1 18 (by decide)
      have z20_S9 := hF15.1 20 (by decide)
      have f1_S9 := Fr_fa hF15 1 (by decide)
      have f2_S9 := Fr_fa hF15 2 (by decide)
      have f8_S9 := Fr_fa hF15 8 (by decide)
      have f10_S9 := Fr_fa hF15 10 (by decide)
      have f25_S9 := Fr_fa hF15 25 (by decide)
      have f28_S9 := Fr_fa hF15 28 (by decide)
      have f35_S9 := Fr_fa hF15 35 (by decide)
      have f36_S9 := Fr_fa hF15 36 (by decide)
      have f45_S9 := Fr_fa hF15 45 (by decide)
      have f46_S9 := Fr_fa hF15 46 (by decide)
      have f48_S9 := Fr_fa hF15 48 (by decide)
      have g3_S9 := Fr_ga hF15 3 (by decide)
      have g4_S9 := Fr_ga hF15 4 (by decide)
      clear hF15
      grind (ematch := 12) (splits := 16) [SI, PT, WB, PLM, XI, PI, PJ, BU, LV, LG, OH, HH, HL, ix_int, q_zz, q_za, q_zga, q_fza, q_fx, q_fga, q_gza, q_gfa, q_gx, ti_link]
    · refine fm_wait _ _ _ _ (fun S10 hF17 p18 => ?_) (sg_wait (nx := nx) (n := n) (so := so) (pl := pl) (wo := wo) (ws := ws) (S0 := S0) (d := d) (G := (G - 10)) (GA := GA) (X := X) (Y := Y) _ (by grind (ematch := 12) (splits := 16) [SI, PT, WB, PLM, XI, PI, PJ, BU, LV, LG, OH, HH, HL, ix_int, q_zz, q_za, q_zga, q_fza, q_fx, q_fga, q_gza, q_gfa, q_gx, ti_link]) (by grind (ematch := 12) (splits := 16) [SI, PT, WB, PLM, XI, PI, PJ, BU, LV, LG, OH, HH, HL, ix_int, q_zz, q_za, q_zga, q_fza, q_fx, q_fga, q_gza, q_gfa, q_gx, ti_link]) (by grind (ematch := 12) (splits := 16) [SI, PT, WB, PLM, XI, PI, PJ, BU, LV, LG, OH, HH, HL, ix_int, q_zz, q_za, q_zga, q_fza, q_fx, q_fga, q_gza, q_gfa, q_gx, ti_link]) (by grind (ematch := 12) (splits := 16) [SI, PT, WB, PLM, XI, PI, PJ, BU, LV, LG, OH, HH, HL, ix_int, q_zz, q_za, q_zga, q_fza, q_fx, q_fga, q_gza, q_gfa, q_gx, ti_link]))
      have z6_S10 := hF17.1 6 (by decide)
      have z9_S10 := hF17.1 9 (by decide)
      have z10_S10 := hF17.1 10 (by decide)
      have z12_S10 := hF17.1 12 (by decide)
      have z13_S10 := hF17.1 13 (by decide)
      have z15_S10 := hF17.1 15 (by decide)
      have z17_S10 := hF17.1 17 (by decide)
      have z20_S10 := hF17.1 20 (by decide)
      have f1_S10 := Fr_fa hF17 1 (by decide)
      have f2_S10 := Fr_fa hF17 2 (by decide)
      have f25_S10 := Fr_fa hF17 25 (by decide)
      have f28_S10 := Fr_fa hF17 28 (by decide)
      have f35_S10 := Fr_fa hF17 35 (by decide)
      have f36_S10 := Fr_fa hF17 36 (by decide)
      have f45_S10 := Fr_fa hF17 45 (by decide)
      have g3_S10 := Fr_ga hF17 3 (by decide)
      have g4_S10 := Fr_ga hF17 4 (by decide)
      clear hF17
      grind (ematch := 12) (splits := 16) [SI, PT, WB, PLM, XI, PI, PJ, BU, LV, LG, OH, HH, HL, ix_int, q_zz, q_za, q_zga, q_fza, q_fx, q_fga, q_gza, q_gfa, q_gx, ti_link]
  · refine fm_wrong _ _ _ _ (fun S11 hF19 p20 => ?_) (sg_wrong (nx := nx) (n := n) (so := so) (pl := pl) (wo := wo) (ws := ws) _ (by grind (ematch := 12) (splits := 16) [SI, PT, WB, PLM, XI, PI, PJ, BU, LV, LG, OH, HH, HL, ix_int, q_zz, q_za, q_zga, q_fza, q_fx, q_fga, q_gza, q_gfa, q_gx, ti_link]) (by grind (ematch := 12) (splits := 16) [SI, PT, WB, PLM, XI, PI, PJ, BU, LV, LG, OH, HH, HL, ix_int, q_zz, q_za, q_zga, q_fza, q_fx, q_fga, q_gza, q_gfa, q_gx, ti_link]))
    have fa_S11 := Fr_faa hF19
    have ga_S11 := Fr_gaa hF19
    have z3_S11 := hF19.1 3 (by decide)
    have z6_S11 := hF19.1 6 (by decide)
    have z7_S11 := hF19.1 7 (by decide)
    have z8_S11 := hF19.1 8 (by decide)
    have z9_S11 := hF19.1 9 (by decide)
    have z10_S11 := hF19.1 10 (by decide)
    have z11_S11 := hF19.1 11 (by decide)
    have z12_S11 := hF19.1 12 (by decide)
    have z13_S11 := hF19.1 13 (by decide)
    have z15_S11 := hF19.1 15 (by decide)
    have z17_S11 := hF19.1 17 (by decide)
    have z18_S11 := hF19.1 18 (by decide)
    have z19_S11 := hF19.1 19 (by decide)
    have z20_S11 := hF19.1 20 (by decide)
    have f1_S11 := Fr_fa hF19 1 (by decide)
    have f2_S11 := Fr_fa hF19 2 (by decide)
    have f8_S11 := Fr_fa hF19 8 (by decide)
    have f10_S11 := Fr_fa hF19 10 (by decide)
    have f25_S11 := Fr_fa hF19 25 (by decide)
    have f28_S11 := Fr_fa hF19 28 (by decide)
    have f35_S11 := Fr_fa hF19 35 (by decide)
    have f36_S11 := Fr_fa hF19 36 (by decide)
    have f45_S11 := Fr_fa hF19 45 (by decide)
    have f46_S11 := Fr_fa hF19 46 (by decide)
    have f48_S11 := Fr_fa hF19 48 (by decide)
    have g3_S11 := Fr_ga hF19 3 (by decide)
    have g4_S11 := Fr_ga hF19 4 (by decide)
    clear hF19
    grind (ematch := 12) (splits := 16) [SI, PT, WB, PLM, XI, PI, PJ, BU, LV, LG, OH, HH, HL, ix_int, q_zz, q_za, q_zga, q_fza, q_fx, q_fga, q_gza, q_gfa, q_gx, ti_link]
set_option maxHeartbeats 4000000 in
theorem sg_plain {nx n : Nat} {so pl : Nat → Int32} {wo ws : Nat → Int64} {S0 : mS} {d : Nat} {G GA X Y GW GT : Int} {S : mS} (hL : LV d G GA X Y) (h : SI nx n so pl wo ws S0 d G GA X Y GW GT S) : wp_plain S (fun S1 => SI nx n so pl wo ws S0 d G GA (X + 12) (Y + 4) GW GT S1 ∧ ((S1.1 4) = 0 → (S.1 4) = 0 ∧ (S.1 3).toInt < (S1.1 3).toInt)) := by
  unfold wp_plain
  have j115 : ∀ (Sx : mS), (SI nx n so pl wo ws S0 d G GA X Y GW GT Sx ∧ (Sx.1 3) = (S.1 3) ∧ ((Sx.1 4) = 0 → (S.1 4) = 0 ∧ (S.1 3).toInt < n)) → wp_plain_115 (fun S1 => SI nx n so pl wo ws S0 d G GA (X + 12) (Y + 4) GW GT S1 ∧ ((S1.1 4) = 0 → (S.1 4) = 0 ∧ (S.1 3).toInt < (S1.1 3).toInt)) Sx := by
    intro Sx hJ115
    unfold wp_plain_115
    intro z23 ez23
    intro S24 eS24
    refine fq_expression _ _ _ (fun S25 hF1 p2 => ?_) (sq_expression (nx := nx) (n := n) (so := so) (pl := pl) (wo := wo) (ws := ws) (S0 := S0) (d := d) (G := (G - 5)) (GA := GA) (X := X) (Y := Y) (by grind (ematch := 12) (splits := 16) [SI, PT, WB, PLM, XI, PI, PJ, BU, LV, LG, OH, HH, HL, ix_int, q_zz, q_za, q_zga, q_fza, q_fx, q_fga, q_gza, q_gfa, q_gx, ti_link]) (by grind (ematch := 12) (splits := 16) [SI, PT, WB, PLM, XI, PI, PJ, BU, LV, LG, OH, HH, HL, ix_int, q_zz, q_za, q_zga, q_fza, q_fx, q_fga, q_gza, q_gfa, q_gx, ti_link]))
    have z6_S25 := hF1.1 6 (by decide)
    have z9_S25 := hF1.1 9 (by decide)
    have z10_S25 := hF1.1 10 (by decide)
    have z11_S25 := hF1.1 11 (by decide)
    have z12_S25 := hF1.1 12 (by decide)
    have z13_S25 := hF1.1 13 (by decide)
    have z15_S25 := hF1.1 15 (by decide)
    have z17_S25 := hF1.1 17 (by decide)
    have z20_S25 := hF1.1 20 (by decide)
    have f1_S25 := Fr_fa hF1 1 (by decide)
    have f2_S25 := Fr_fa hF1 2 (by decide)
    have f10_S25 := Fr_fa hF1 10 (by decide)
    have f25_S25 := Fr_fa hF1 25 (by decide)
    have f28_S25 := Fr_fa hF1 28 (by decide)
    have f35_S25 := Fr_fa hF1 35 (by decide)
    have f36_S25 := Fr_fa hF1 36 (by decide)
    have f45_S25 := Fr_fa hF1 45 (by decide)
    have f46_S25 := Fr_fa hF1 46 (by decide)
    have f48_S25 := Fr_fa hF1 48 (by decide)
    have g3_S25 := Fr_ga hF1 3 (by decide)
    have g4_S25 := Fr_ga hF1 4 (by decide)
    clear hF1
    refine fm_emit _ _ _ _ _ _ (fun S26 r26 hF3 p4 => ?_) (sg_emit _ _ _ (by grind (ematch := 12) (splits := 16) [SI, PT, WB, PLM, XI, PI, PJ, BU, LV, LG, OH, HH, HL, ix_int, q_zz, q_za, q_zga, q_fza, q_fx, q_fga, q_gza, q_gfa, q_gx, ti_link]))
    have ga_S26 := Fr_gaa hF3
    have z3_S26 := hF3.1 3 (by decide)
    have z4_S26 := hF3.1 4 (by decide)
    have z6_S26 := hF3.1 6 (by decide)
    have z8_S26 := hF3.1 8 (by decide)
    have z9_S26 := hF3.1 9 (by decide)
    have z10_S26 := hF3.1 10 (by decide)
    have z11_S26 := hF3.1 11 (by decide)
    have z12_S26 := hF3.1 12 (by decide)
    have z13_S26 := hF3.1 13 (by decide)
    have z15_S26 := hF3.1 15 (by decide)
    have z17_S26 := hF3.1 17 (by decide)
    have z18_S26 := hF3.1 18 (by decide)
    have z19_S26 := hF3.1 19 (by decide)
    have z20_S26 := hF3.1 20 (by decide)
    have f1_S26 := Fr_fa hF3 1 (by decide)
    have f2_S26 := Fr_fa hF3 2 (by decide)
    have f8_S26 := Fr_fa hF3 8 (by decide)
    have f10_S26 := Fr_fa hF3 10 (by decide)
    have f25_S26 := Fr_fa hF3 25 (by decide)
    have f28_S26 := Fr_fa hF3 28 (by decide)
    have f35_S26 := Fr_fa hF3 35 (by decide)
    have f36_S26 := Fr_fa hF3 36 (by decide)
    have f45_S26 := Fr_fa hF3 45 (by decide)
    have f46_S26 := Fr_fa hF3 46 (by decide)
    have f48_S26 := Fr_fa hF3 48 (by decide)
    have g3_S26 := Fr_ga hF3 3 (by decide)
    have g4_S26 := Fr_ga hF3 4 (by decide)
    clear hF3
    refine fm_then _ _ _ _ _ (fun S27 r27 hF5 p6 => ?_) (sg_then _ _ (by grind (ematch := 12) (splits := 16) [SI, PT, WB, PLM, XI, PI, PJ, BU, LV, LG, OH, HH, HL, ix_int, q_zz, q_za, q_zga, q_fza, q_fx, q_fga, q_gza, q_gfa, q_gx, ti_link]))
    have ga_S27 := Fr_gaa hF5
    have z3_S27 := hF5.1 3 (by decide)
    have z4_S27 := hF5.1 4 (by decide)
    have z6_S27 := hF5.1 6 (by decide)
    have z7_S27 := hF5.1 7 (by decide)
    have z9_S27 := hF5.1 9 (by decide)
    have z10_S27 := hF5.1 10 (by decide)
    have z11_S27 := hF5.1 11 (by decide)
    have z12_S27 := hF5.1 12 (by decide)
    have z13_S27 := hF5.1 13 (by decide)
    have z15_S27 := hF5.1 15 (by decide)
    have z17_S27 := hF5.1 17 (by decide)
    have z18_S27 := hF5.1 18 (by decide)
    have z20_S27 := hF5.1 20 (by decide)
    have f1_S27 := Fr_fa hF5 1 (by decide)
    have f2_S27 := Fr_fa hF5 2 (by decide)
    have f8_S27 := Fr_fa hF5 8 (by decide)
    have f10_S27 := Fr_fa hF5 10 (by decide)
    have f25_S27 := Fr_fa hF5 25 (by decide)
    have f28_S27 := Fr_fa hF5 28 (by decide)
    have f35_S27 := Fr_fa hF5 35 (by decide)
    have f36_S27 := Fr_fa hF5 36 (by decide)
    have f45_S27 := Fr_fa hF5 45 (by decide)
    have f46_S27 := Fr_fa hF5 46 (by decide)
    have f48_S27 := Fr_fa hF5 48 (by decide)
    have g3_S27 := Fr_ga hF5 3 (by decide)
    have g4_S27 := Fr_ga hF5 4 (by decide)
    clear hF5
    refine fm_marks_r _ _ _ _ (fun S28 hF7 p8 => ?_) (sg_marks_r (nx := nx) _ (by grind (ematch := 12) (splits := 16) [SI, PT, WB, PLM, XI, PI, PJ, BU, LV, LG, OH, HH, HL, ix_int, q_zz, q_za, q_zga, q_fza, q_fx, q_fga, q_gza, q_gfa, q_gx, ti_link]) (by grind (ematch := 12) (splits := 16) [SI, PT, WB, PLM, XI, PI, PJ, BU, LV, LG, OH, HH, HL, ix_int, q_zz, q_za, q_zga, q_fza, q_fx, q_fga, q_gza, q_gfa, q_gx, ti_link]) (by grind (ematch := 12) (splits := 16) [SI, PT, WB, PLM, XI, PI, PJ, BU, LV, LG, OH, HH, HL, ix_int, q_zz, q_za, q_zga, q_fza, q_fx, q_fga, q_gza, q_gfa, q_gx, ti_link]))
    have ga_S28 := Fr_gaa hF7
    have z3_S28 := hF7.1 3 (by decide)
    have z4_S28 := hF7.1 4 (by decide)
    have z6_S28 := hF7.1 6 (by decide)
    have z7_S28 := hF7.1 7 (by decide)
    have z8_S28 := hF7.1 8 (by decide)
    have z9_S28 := hF7.1 9 (by decide)
    have z10_S28 := hF7.1 10 (by decide)
    have z11_S28 := hF7.1 11 (by decide)
    have z12_S28 := hF7.1 12 (by decide)
    have z13_S28 := hF7.1 13 (by decide)
    have z15_S28 := hF7.1 15 (by decide)
    have z17_S28 := hF7.1 17 (by decide)
    have z18_S28 := hF7.1 18 (by decide)
    have z19_S28 := hF7.1 19 (by decide)
    have z20_S28 := hF7.1 20 (by decide)
    have f1_S28 := Fr_fa hF7 1 (by decide)
    have f2_S28 := Fr_fa hF7 2 (by decide)
    have f8_S28 := Fr_fa hF7 8 (by decide)
    have f10_S28 := Fr_fa hF7 10 (by decide)
    have f25_S28 := Fr_fa hF7 25 (by decide)
    have f28_S28 := Fr_fa hF7 28 (by decide)
    have f35_S28 := Fr_fa hF7 35 (by decide)
    have f36_S28 := Fr_fa hF7 36 (by decide)
    have f45_S28 := Fr_fa hF7 45 (by decide)
    have f46_S28 := Fr_fa hF7 46 (by decide)
    have f48_S28 := Fr_fa hF7 48 (by decide)
    have g3_S28 := Fr_ga hF7 3 (by decide)
    have g4_S28 := Fr_ga hF7 4 (by decide)
    clear hF7
    intro S29 eS29
    grind (ematch := 12) (splits := 16) [SI, PT, WB, PLM, XI, PI, PJ, BU, LV, LG, OH, HH, HL, ix_int, q_zz, q_za, q_zga, q_fza, q_fx, q_fga, q_gza, q_gfa, q_gx, ti_link]
  have j81 : ∀ (Sx : mS), (Sx = S ∧ (S.1 4) = 0 ∧ (S.1 3).toInt < n) → wp_plain_81 (fun S1 => SI nx n so pl wo ws S0 d G GA (X + 12) (Y + 4) GW GT S1 ∧ ((S1.1 4) = 0 → (S.1 4) = 0 ∧ (S.1 3).toInt < (S1.1 3).toInt)) Sx := by
    intro Sx hJ81
    unfold wp_plain_81
    refine fm_isWord _ _ _ _ (fun S30 r30 hF9 p10 => ?_) (sg_isWord (nx := nx) (n := n) (so := so) (pl := pl) (wo := wo) (ws := ws) _ (by grind (ematch := 12) (splits := 16) [SI, PT, WB, PLM, XI, PI, PJ, BU, LV, LG, OH, HH, HL, ix_int, q_zz, q_za, q_zga, q_fza, q_fx, q_fga, q_gza, q_gfa, q_gx, ti_link]) (by grind (ematch := 12) (splits := 16) [SI, PT, WB, PLM, XI, PI, PJ, BU, LV, LG, OH, HH, HL, ix_int, q_zz, q_za, q_zga, q_fza, q_fx, q_fga, q_gza, q_gfa, q_gx, ti_link]))
    have fa_S30 := Fr_faa hF9
    have ga_S30 := Fr_gaa hF9
    have z3_S30 := hF9.1 3 (by decide)
    have z4_S30 := hF9.1 4 (by decide)
    have z6_S30 := hF9.1 6 (by decide)
    have z7_S30 := hF9.1 7 (by decide)
    have z8_S30 := hF9.1 8 (by decide)
    have z9_S30 := hF9.1 9 (by decide)
    have z10_S30 := hF9.1 10 (by decide)
    have z11_S30 := hF9.1 11 (by decide)
    have z12_S30 := hF9.1 12 (by decide)
    have z13_S30 := hF9.1 13 (by decide)
    have z15_S30 := hF9.1 15 (by decide)
    have z17_S30 := hF9.1 17 (by decide)
    have z18_S30 := hF9.1 18 (by decide)
    have z19_S30 := hF9.1 19 (by decide)
    have z20_S30 := hF9.1 20 (by decide)
    have f1_S30 := Fr_fa hF9 1 (by decide)
    have f2_S30 := Fr_fa hF9 2 (by decide)
    have f8_S30 := Fr_fa hF9 8 (by decide)
    have f10_S30 := Fr_fa hF9 10 (by decide)
    have f25_S30 := Fr_fa hF9 25 (by decide)
    have f28_S30 := Fr_fa hF9 28 (by decide)
    have f35_S30 := Fr_fa hF9 35 (by decide)
    have f36_S30 := Fr_fa hF9 36 (by decide)
    have f45_S30 := Fr_fa hF9 45 (by decide)
    have f46_S30 := Fr_fa hF9 46 (by decide)
    have f48_S30 := Fr_fa hF9 48 (by decide)
    have g3_S30 := Fr_ga hF9 3 (by decide)
    have g4_S30 := Fr_ga hF9 4 (by decide)
    clear hF9
    refine fm_leaves _ _ _ _ (fun S31 hF11 p12 => ?_) (sg_leaves (nx := nx) (n := n) (so := so) (pl := pl) (wo := wo) (ws := ws) (S0 := S0) (d := d) (G := G) (GA := GA) (X := X) (Y := Y) (GW := GW) (GT := GT) _ (by grind (ematch := 12) (splits := 16) [SI, PT, WB, PLM, XI, PI, PJ, BU, LV, LG, OH, HH, HL, ix_int, q_zz, q_za, q_zga, q_fza, q_fx, q_fga, q_gza, q_gfa, q_gx, ti_link]) (by grind (ematch := 12) (splits := 16) [SI, PT, WB, PLM, XI, PI, PJ, BU, LV, LG, OH, HH, HL, ix_int, q_zz, q_za, q_zga, q_fza, q_fx, q_fga, q_gza, q_gfa, q_gx, ti_link]) (by grind (ematch := 12) (splits := 16) [SI, PT, WB, PLM, XI, PI, PJ, BU, LV, LG, OH, HH, HL, ix_int, q_zz, q_za, q_zga, q_fza, q_fx, q_fga, q_gza, q_gfa, q_gx, ti_link]))
    have ga_S31 := Fr_gaa hF11
    have z6_S31 := hF11.1 6 (by decide)
    have z9_S31 := hF11.1 9 (by decide)
    have z10_S31 := hF11.1 10 (by decide)
    have z11_S31 := hF11.1 11 (by decide)
    have z12_S31 := hF11.1 12 (by decide)
    have z13_S31 := hF11.1 13 (by decide)
    have z15_S31 := hF11.1 15 (by decide)
    have z17_S31 := hF11.1 17 (by decide)
    have z18_S31 := hF11.1 18 (by decide)
    have z20_S31 := hF11.1 20 (by decide)
    have f1_S31 := Fr_fa hF11 1 (by decide)
    have f2_S31 := Fr_fa hF11 2 (by decide)
    have f8_S31 := Fr_fa hF11 8 (by decide)
    have f10_S31 := Fr_fa hF11 10 (by decide)
    have f25_S31 := Fr_fa hF11 25 (by decide)
    have f28_S31 := Fr_fa hF11 28 (by decide)
    have f35_S31 := Fr_fa hF11 35 (by decide)
    have f36_S31 := Fr_fa hF11 36 (by decide)
    have f45_S31 := Fr_fa hF11 45 (by decide)
    have f46_S31 := Fr_fa hF11 46 (by decide)
    have f48_S31 := Fr_fa hF11 48 (by decide)
    have g3_S31 := Fr_ga hF11 3 (by decide)
    have g4_S31 := Fr_ga hF11 4 (by decide)
    clear hF11
    grind (ematch := 12) (splits := 16) [SI, PT, WB, PLM, XI, PI, PJ, BU, LV, LG, OH, HH, HL, ix_int, q_zz, q_za, q_zga, q_fza, q_fx, q_fga, q_gza, q_gfa, q_gx, ti_link]
  refine fm_hasWord _ _ _ _ (fun S1 r1 hF13 p14 => ?_) (sg_hasWord (nx := nx) (n := n) (so := so) (pl := pl) (wo := wo) (ws := ws) _ (by grind (ematch := 12) (splits := 16) [SI, PT, WB, PLM, XI, PI, PJ, BU, LV, LG, OH, HH, HL, ix_int, q_zz, q_za, q_zga, q_fza, q_fx, q_fga, q_gza, q_gfa, q_gx, ti_link]) (by grind (ematch := 12) (splits := 16) [SI, PT, WB, PLM, XI, PI, PJ, BU, LV, LG, OH, HH, HL, ix_int, q_zz, q_za, q_zga, q_fza, q_fx, q_fga, q_gza, q_gfa, q_gx, ti_link]))
  have fa_S1 := Fr_faa hF13
  have ga_S1 := Fr_gaa hF13
  have z4_S1 := hF13.1 4 (by decide)
  have z6_S1 := hF13.1 6 (by decide)
  have z7_S1 := hF13.1 7 (by decide)
  have z8_S1 := hF13.1 8 (by decide)
  have z9_S1 := hF13.1 9 (by decide)
  have z10_S1 := hF13.1 10 (by decide)
  have z11_S1 := hF13.1 11 (by decide)
  have z12_S1 := hF13.1 12 (by decide)
  have z13_S1 := hF13.1 13 (by decide)
  have z15_S1 := hF13.1 15 (by decide)
  have z17_S1 := hF13.1 17 (by decide)
  have z18_S1 := hF13.1 18 (by decide)
  have z19_S1 := hF13.1 19 (by decide)
  have z20_S1 := hF13.1 20 (by decide)
  have f1_S1 := Fr_fa hF13 1 (by decide)
  have f2_S1 := Fr_fa hF13 2 (by decide)
  have f8_S1 := Fr_fa hF13 8 (by decide)
  have f10_S1 := Fr_fa hF13 10 (by decide)
  have f25_S1 := Fr_fa hF13 25 (by decide)
  have f28_S1 := Fr_fa hF13 28 (by decide)
  have f35_S1 := Fr_fa hF13 35 (by decide)
  have f36_S1 := Fr_fa hF13 36 (by decide)
  have f45_S1 := Fr_fa hF13 45 (by decide)
  have f46_S1 := Fr_fa hF13 46 (by decide)
  have f48_S1 := Fr_fa hF13 48 (by decide)
  have g3_S1 := Fr_ga hF13 3 (by decide)
  have g4_S1 := Fr_ga hF13 4 (by decide)
  clear hF13
  refine ⟨fun c15 => ?_, fun c15 => ?_⟩
  · refine fm_hasWord _ _ _ _ (fun S3 r3 hF16 p17 => ?_) (sg_hasWord (nx := nx) (n := n) (so := so) (pl := pl) (wo := wo) (ws := ws) _ (by grind (ematch := 12) (splits := 16) [SI, PT, WB, PLM, XI, PI, PJ, BU, LV, LG, OH, HH, HL, ix_int, q_zz, q_za, q_zga, q_fza, q_fx, q_fga, q_gza, q_gfa, q_gx, ti_link]) (by grind (ematch := 12) (splits := 16) [SI, PT, WB, PLM, XI, PI, PJ, BU, LV, LG, OH, HH, HL, ix_int, q_zz, q_za, q_zga, q_fza, q_fx, q_fga, q_gza, q_gfa, q_gx, ti_link]))
    have fa_S3 := Fr_faa hF16
    have ga_S3 := Fr_gaa hF16
    have z4_S3 := hF16.1 4 (by decide)
    have z6_S3 := hF16.1 6 (by decide)
    have z7_S3 := hF16.1 7 (by decide)
    have z8_S3 := hF16.1 8 (by decide)
    have z9_S3 := hF16.1 9 (by decide)
    have z10_S3 := hF16.1 10 (by decide)
    have z11_S3 := hF16.1 11 (by decide)
    have z12_S3 := hF16.1 12 (by decide)
    have z13_S3 := hF16.1 13 (by decide)
    have z15_S3 := hF16.1 15 (by decide)
    have z17_S3 := hF16.1 17 (by decide)
    have z18_S3 := hF16.1 18 (by decide)
    have z19_S3 := hF16.1 19 (by decide)
    have z20_S3 := hF16.1 20 (by decide)
    have f1_S3 := Fr_fa hF16 1 (by decide)
    have f2_S3 := Fr_fa hF16 2 (by decide)
    have f8_S3 := Fr_fa hF16 8 (by decide)
    have f10_S3 := Fr_fa hF16 10 (by decide)
    have f25_S3 := Fr_fa hF16 25 (by decide)
    have f28_S3 := Fr_fa hF16 28 (by decide)
    have f35_S3 := Fr_fa hF16 35 (by decide)
    have f36_S3 := Fr_fa hF16 36 (by decide)
    have f45_S3 := Fr_fa hF16 45 (by decide)
    have f46_S3 := Fr_fa hF16 46 (by decide)
    have f48_S3 := Fr_fa hF16 48 (by decide)
    have g3_S3 := Fr_ga hF16 3 (by decide)
    have g4_S3 := Fr_ga hF16 4 (by decide)
    clear hF16
    refine ⟨fun c18 => ?_, fun c18 => ?_⟩
    · refine fm_isWord _ _ _ _ (fun S5 r5 hF19 p20 => ?_) (sg_isWord (nx := nx) (n := n) (so := so) (pl := pl) (wo := wo) (ws := ws) _ (by grind (ematch := 12) (splits := 16) [SI, PT, WB, PLM, XI, PI, PJ, BU, LV, LG, OH, HH, HL, ix_int, q_zz, q_za, q_zga, q_fza, q_fx, q_fga, q_gza, q_gfa, q_gx, ti_link]) (by grind (ematch := 12) (splits := 16) [SI, PT, WB, PLM, XI, PI, PJ, BU, LV, LG, OH, HH, HL, ix_int, q_zz, q_za, q_zga, q_fza, q_fx, q_fga, q_gza, q_gfa, q_gx, ti_link]))
      have fa_S5 := Fr_faa hF19
      have ga_S5 := Fr_gaa hF19
      have z3_S5 := hF19.1 3 (by decide)
      have z4_S5 := hF19.1 4 (by decide)
      have z6_S5 := hF19.1 6 (by decide)
      have z7_S5 := hF19.1 7 (by decide)
      have z8_S5 := hF19.1 8 (by decide)
      have z9_S5 := hF19.1 9 (by decide)
      have z10_S5 := hF19.1 10 (by decide)
      have z11_S5 := hF19.1 11 (by decide)
      have z12_S5 := hF19.1 12 (by decide)
      have z13_S5 := hF19.1 13 (by decide)
      have z15_S5 := hF19.1 15 (by decide)
      have z17_S5 := hF19.1 17 (by decide)
      have z18_S5 := hF19.1 18 (by decide)
      have z19_S5 := hF19.1 19 (by decide)
      have z20_S5 := hF19.1 20 (by decide)
      have f1_S5 := Fr_fa hF19 1 (by decide)
      have f2_S5 := Fr_fa hF19 2 (by decide)
      have f8_S5 := Fr_fa hF19 8 (by decide)
      have f10_S5 := Fr_fa hF19 10 (by decide)
      have f25_S5 := Fr_fa hF19 25 (by decide)
      have f28_S5 := Fr_fa hF19 28 (by decide)
      have f35_S5 := Fr_fa hF19 35 (by decide)
      have f36_S5 := Fr_fa hF19 36 (by decide)
      have f45_S5 := Fr_fa hF19 45 (by decide)
      have f46_S5 := Fr_fa hF19 46 (by decide)
      have f48_S5 := Fr_fa hF19 48 (by decide)
      have g3_S5 := Fr_ga hF19 3 (by decide)
      have g4_S5 := Fr_ga hF19 4 (by decide)
      clear hF19
      refine ⟨fun c21 => ?_, fun c21 => ?_⟩
      · exact j81 _ (by grind (ematch := 12) (splits := 16) [SI, PT, WB, PLM, XI, PI, PJ, BU, LV, LG, OH, HH, HL, ix_int, q_zz, q_za, q_zga, q_fza, q_fx, q_fga, q_gza, q_gfa, q_gx, ti_link])
      · refine fm_isWord _ _ _ _ (fun S7 r7 hF22 p23 => ?_) (sg_isWord (nx := nx) (n := n) (so := so) (pl := pl) (wo := wo) (ws := ws) _ (by grind (ematch := 12) (splits := 16) [SI, PT, WB, PLM, XI, PI, PJ, BU, LV, LG, OH, HH, HL, ix_int, q_zz, q_za, q_zga, q_fza, q_fx, q_fga, q_gza, q_gfa, q_gx, ti_link]) (by grind (ematch := 12) (splits := 16) [SI, PT, WB, PLM, XI, PI, PJ, BU, LV, LG, OH, HH, HL, ix_int, q_zz, q_za, q_zga, q_fza, q_fx, q_fga, q_gza, q_gfa, q_gx, ti_link]))
        have fa_S7 := Fr_faa hF22
        have ga_S7 := Fr_gaa hF22
        have z3_S7 := hF22.1 3 (by decide)
        have z4_S7 := hF22.1 4 (by decide)
        have z6_S7 := hF22.1 6 (by decide)
        have z7_S7 := hF22.1 7 (by decide)
        have z8_S7 := hF22.1 8 (by decide)
        have z9_S7 := hF22.1 9 (by decide)
        have z10_S7 := hF22.1 10 (by decide)
        have z11_S7 := hF22.1 11 (by decide)
        have z12_S7 := hF22.1 12 (by decide)
        have z13_S7 := hF22.1 13 (by decide)
        have z15_S7 := hF22.1 15 (by decide)
        have z17_S7 := hF22.1 17 (by decide)
        have z18_S7 := hF22.1 18 (by decide)
        have z19_S7 := hF22.1 19 (by decide)
        have z20_S7 := hF22.1 20 (by decide)
        have f1_S7 := Fr_fa hF22 1 (by decide)
        have f2_S7 := Fr_fa hF22 2 (by decide)
        have f8_S7 := Fr_fa hF22 8 (by decide)
        have f10_S7 := Fr_fa hF22 10 (by decide)
        have f25_S7 := Fr_fa hF22 25 (by decide)
        have f28_S7 := Fr_fa hF22 28 (by decide)
        have f35_S7 := Fr_fa hF22 35 (by decide)
        have f36_S7 := Fr_fa hF22 36 (by decide)
        have f45_S7 := Fr_fa hF22 45 (by decide)
        have f46_S7 := Fr_fa hF22 46 (by decide)
        have f48_S7 := Fr_fa hF22 48 (by decide)
        have g3_S7 := Fr_ga hF22 3 (by decide)
        have g4_S7 := Fr_ga hF22 4 (by decide)
        clear hF22
        refine ⟨fun c24 => ?_, fun c24 => ?_⟩
        · refine fm_isWord _ _ _ _ (fun S9 r9 hF25 p26 => ?_) (sg_isWord (nx := nx) (n := n) (so := so) (pl := pl) (wo := wo) (ws := ws) _ (by grind (ematch := 12) (splits := 16) [SI, PT, WB, PLM, XI, PI, PJ, BU, LV, LG, OH, HH, HL, ix_int, q_zz, q_za, q_zga, q_fza, q_fx, q_fga, q_gza, q_gfa, q_gx, ti_link]) (by grind (ematch := 12) (splits := 16) [SI, PT, WB, PLM, XI, PI, PJ, BU, LV, LG, OH, HH, HL, ix_int, q_zz, q_za, q_zga, q_fza, q_fx, q_fga, q_gza, q_gfa, q_gx, ti_link]))
          have fa_S9 := Fr_faa hF25
          have ga_S9 := Fr_gaa hF25
          have z3_S9 := hF25.1 3 (by decide)
          have z4_S9 := hF25.1 4 (by decide)
          have z6_S9 := hF25.1 6 (by decide)
          have z7_S9 := hF25.1 7 (by decide)
          have z8_S9 := hF25.1 8 (by decide)
          have z9_S9 := hF25.1 9 (by decide)
          have z10_S9 := hF25.1 10 (by decide)
          have z11_S9 := hF25.1 11 (by decide)
          have z12_S9 := hF25.1 12 (by decide)
          have z13_S9 := hF25.1 13 (by decide)
          have z15_S9 := hF25.1 15 (by decide)
          have z17_S9 := hF25.1 17 (by decide)
          have z18_S9 := hF25.1 18 (by decide)
          have z19_S9 := hF25.1 19 (by decide)
          have z20_S9 := hF25.1 20 (by decide)
          have f1_S9 := Fr_fa hF25 1 (by decide)
          have f2_S9 := Fr_fa hF25 2 (by decide)
          have f8_S9 := Fr_fa hF25 8 (by decide)
          have f10_S9 := Fr_fa hF25 10 (by decide)
          have f25_S9 := Fr_fa hF25 25 (by decide)
          have f28_S9 := Fr_fa hF25 28 (by decide)
          have f35_S9 := Fr_fa hF25 35 (by decide)
          have f36_S9 := Fr_fa hF25 36 (by decide)
          have f45_S9 := Fr_fa hF25 45 (by decide)
          have f46_S9 := Fr_fa hF25 46 (by decide)
          have f48_S9 := Fr_fa hF25 48 (by decide)
          have g3_S9 := Fr_ga hF25 3 (by decide)
          have g4_S9 := Fr_ga hF25 4 (by decide)
          clear hF25
          refine ⟨fun c27 => ?_, fun c27 => ?_⟩
          · refine fm_isWord _ _ _ _ (fun S11 r11 hF28 p29 => ?_) (sg_isWord (nx := nx) (n := n) (so := so) (pl := pl) (wo := wo) (ws := ws) _ (by grind (ematch := 12) (splits := 16) [SI, PT, WB, PLM, XI, PI, PJ, BU, LV, LG, OH, HH, HL, ix_int, q_zz, q_za, q_zga, q_fza, q_fx, q_fga, q_gza, q_gfa, q_gx, ti_link]) (by grind (ematch := 12) (splits := 16) [SI, PT, WB, PLM, XI, PI, PJ, BU, LV, LG, OH, HH, HL, ix_int, q_zz, q_za, q_zga, q_fza, q_fx, q_fga, q_gza, q_gfa, q_gx, ti_link]))
            have fa_S11 := Fr_faa hF28
            have ga_S11 := Fr_gaa hF28
            have z3_S11 := hF28.1 3 (by decide)
            have z4_S11 := hF28.1 4 (by decide)
            have z6_S11 := hF28.1 6 (by decide)
            have z7_S11 := hF28.1 7 (by decide)
            have z8_S11 := hF28.1 8 (by decide)
            have z9_S11 := hF28.1 9 (by decide)
            have z10_S11 := hF28.1 10 (by decide)
            have z11_S11 := hF28.1 11 (by decide)
            have z12_S11 := hF28.1 12 (by decide)
            have z13_S11 := hF28.1 13 (by decide)
            have z15_S11 := hF28.1 15 (by decide)
            have z17_S11 := hF28.1 17 (by decide)
            have z18_S11 := hF28.1 18 (by decide)
            have z19_S11 := hF28.1 19 (by decide)
            have z20_S11 := hF28.1 20 (by decide)
            have f1_S11 := Fr_fa hF28 1 (by decide)
            have f2_S11 := Fr_fa hF28 2 (by decide)
            have f8_S11 := Fr_fa hF28 8 (by decide)
            have f10_S11 := Fr_fa hF28 10 (by decide)
            have f25_S11 := Fr_fa hF28 25 (by decide)
            have f28_S11 := Fr_fa hF28 28 (by decide)
            have f35_S11 := Fr_fa hF28 35 (by decide)
            have f36_S11 := Fr_fa hF28 36 (by decide)
            have f45_S11 := Fr_fa hF28 45 (by decide)
            have f46_S11 := Fr_fa hF28 46 (by decide)
            have f48_S11 := Fr_fa hF28 48 (by decide)
            have g3_S11 := Fr_ga hF28 3 (by decide)
            have g4_S11 := Fr_ga hF28 4 (by decide)
            clear hF28
            refine ⟨fun c30 => ?_, fun c30 => ?_⟩
            · refine fm_sets _ _ _ (fun S13 hF31 p32 => ?_) (sg_sets (nx := nx) (n := n) (so := so) (pl := pl) (wo := wo) (ws := ws) (S0 := S0) (d := d) (G := G) (GA := GA) (X := X) (Y := Y) (GW := GW) (GT := GT) (by grind (ematch := 12) (splits := 16) [SI, PT, WB, PLM, XI, PI, PJ, BU, LV, LG, OH, HH, HL, ix_int, q_zz, q_za, q_zga, q_fza, q_fx, q_fga, q_gza, q_gfa, q_gx, ti_link]) (by grind (ematch := 12) (splits := 16) [SI, PT, WB, PLM, XI, PI, PJ, BU, LV, LG, OH, HH, HL, ix_int, q_zz, q_za, q_zga, q_fza, q_fx, q_fga, q_gza, q_gfa, q_gx, ti_link]))
              have z6_S13 := hF31.1 6 (by decide)
              have z9_S13 := hF31.1 9 (by decide)
              have z10_S13 := hF31.1 10 (by decide)
              have z12_S13 := hF31.1 12 (by decide)
              have z13_S13 := hF31.1 13 (by decide)
              have z15_S13 := hF31.1 15 (by decide)
              have z17_S13 := hF31.1 17 (by decide)
              have z20_S13 := hF31.1 20 (by decide)
              have f1_S13 := Fr_fa hF31 1 (by decide)
              have f2_S13 := Fr_fa hF31 2 (by decide)
              have f25_S13 := Fr_fa hF31 25 (by decide)
              have f28_S13 := Fr_fa hF31 28 (by decide)
              have f35_S13 := Fr_fa hF31 35 (by decide)
              have f36_S13 := Fr_fa hF31 36 (by decide)
              have f45_S13 := Fr_fa hF31 45 (by decide)
              have g3_S13 := Fr_ga hF31 3 (by decide)
              have g4_S13 := Fr_ga hF31 4 (by decide)
              clear hF31
              grind (ematch := 12) (splits := 16) [SI, PT, WB, PLM, XI, PI, PJ, BU, LV, LG, OH, HH, HL, ix_int, q_zz, q_za, q_zga, q_fza, q_fx, q_fga, q_gza, q_gfa, q_gx, ti_link]
            · refine fm_wait _ _ _ _ (fun S14 hF33 p34 => ?_) (sg_wait (nx := nx) (n := n) (so := so) (pl := pl) (wo := wo) (ws := ws) (S0 := S0) (d := d) (G := G) (GA := GA) (X := X) (Y := Y) _ (by grind (ematch := 12) (splits := 16) [SI, PT, WB, PLM, XI, PI, PJ, BU, LV, LG, OH, HH, HL, ix_int, q_zz, q_za, q_zga, q_fza, q_fx, q_fga, q_gza, q_gfa, q_gx, ti_link]) (by grind (ematch := 12) (splits := 16) [SI, PT, WB, PLM, XI, PI, PJ, BU, LV, LG, OH, HH, HL, ix_int, q_zz, q_za, q_zga, q_fza, q_fx, q_fga, q_gza, q_gfa, q_gx, ti_link]) (by grind (ematch := 12) (splits := 16) [SI, PT, WB, PLM, XI, PI, PJ, BU, LV, LG, OH, HH, HL, ix_int, q_zz, q_za, q_zga, q_fza, q_fx, q_fga, q_gza, q_gfa, q_gx, ti_link]) (by grind (ematch := 12) (splits := 16) [SI, PT, WB, PLM, XI, PI, PJ, BU, LV, LG, OH, HH, HL, ix_int, q_zz, q_za, q_zga, q_fza, q_fx, q_fga, q_gza, q_gfa, q_gx, ti_link]))
              have z6_S14 := hF33.1 6 (by decide)
              have z9_S14 := hF33.1 9 (by decide)
              have z10_S14 := hF33.1 10 (by decide)
              have z12_S14 := hF33.1 12 (by decide)
              have z13_S14 := hF33.1 13 (by decide)
              have z15_S14 := hF33.1 15 (by decide)
              have z17_S14 := hF33.1 17 (by decide)
              have z20_S14 := hF33.1 20 (by decide)
              have f1_S14 := Fr_fa hF33 1 (by decide)
              have f2_S14 := Fr_fa hF33 2 (by decide)
              have f25_S14 := Fr_fa hF33 25 (by decide)
              have f28_S14 := Fr_fa hF33 28 (by decide)
              have f35_S14 := Fr_fa hF33 35 (by decide)
              have f36_S14 := Fr_fa hF33 36 (by decide)
              have f45_S14 := Fr_fa hF33 45 (by decide)
              have g3_S14 := Fr_ga hF33 3 (by decide)
              have g4_S14 := Fr_ga hF33 4 (by decide)
              clear hF33
              grind (ematch := 12) (splits := 16) [SI, PT, WB, PLM, XI, PI, PJ, BU, LV, LG, OH, HH, HL, ix_int, q_zz, q_za, q_zga, q_fza, q_fx, q_fga, q_gza, q_gfa, q_gx, ti_link]
          · refine ⟨fun c35 => ?_, fun c35 => ?_⟩
            · exact j115 _ (by grind (ematch := 12) (splits := 16) [SI, PT, WB, PLM, XI, PI, PJ, BU, LV, LG, OH, HH, HL, ix_int, q_zz, q_za, q_zga, q_fza, q_fx, q_fga, q_gza, q_gfa, q_gx, ti_link])
            · refine fm_wrong _ _ _ _ (fun S16 hF36 p37 => ?_) (sg_wrong (nx := nx) (n := n) (so := so) (pl := pl) (wo := wo) (ws := ws) _ (by grind (ematch := 12) (splits := 16) [SI, PT, WB, PLM, XI, PI, PJ, BU, LV, LG, OH, HH, HL, ix_int, q_zz, q_za, q_zga, q_fza, q_fx, q_fga, q_gza, q_gfa, q_gx, ti_link]) (by grind (ematch := 12) (splits := 16) [SI, PT, WB, PLM, XI, PI, PJ, BU, LV, LG, OH, HH, HL, ix_int, q_zz, q_za, q_zga, q_fza, q_fx, q_fga, q_gza, q_gfa, q_gx, ti_link]))
              have fa_S16 := Fr_faa hF36
              have ga_S16 := Fr_gaa hF36
              have z3_S16 := hF36.1 3 (by decide)
              have z6_S16 := hF36.1 6 (by decide)
              have z7_S16 := hF36.1 7 (by decide)
              have z8_S16 := hF36.1 8 (by decide)
              have z9_S16 := hF36.1 9 (by decide)
              have z10_S16 := hF36.1 10 (by decide)
              have z11_S16 := hF36.1 11 (by decide)
              have z12_S16 := hF36.1 12 (by decide)
              have z13_S16 := hF36.1 13 (by decide)
              have z15_S16 := hF36.1 15 (by decide)
              have z17_S16 := hF36.1 17 (by decide)
              have z18_S16 := hF36.1 18 (by decide)
              have z19_S16 := hF36.1 19 (by decide)
              have z20_S16 := hF36.1 20 (by decide)
              have f1_S16 := Fr_fa hF36 1 (by decide)
              have f2_S16 := Fr_fa hF36 2 (by decide)
              have f8_S16 := Fr_fa hF36 8 (by decide)
              have f10_S16 := Fr_fa hF36 10 (by decide)
              have f25_S16 := Fr_fa hF36 25 (by decide)
              have f28_S16 := Fr_fa hF36 28 (by decide)
              have f35_S16 := Fr_fa hF36 35 (by decide)
              have f36_S16 := Fr_fa hF36 36 (by decide)
              have f45_S16 := Fr_fa hF36 45 (by decide)
              have f46_S16 := Fr_fa hF36 46 (by decide)
              have f48_S16 := Fr_fa hF36 48 (by decide)
              have g3_S16 := Fr_ga hF36 3 (by decide)
              have g4_S16 := Fr_ga hF36 4 (by decide)
              clear hF36
              exact j115 _ (by grind (ematch := 12) (splits := 16) [SI, PT, WB, PLM, XI, PI, PJ, BU, LV, LG, OH, HH, HL, ix_int, q_zz, q_za, q_zga, q_fza, q_fx, q_fga, q_gza, q_gfa, q_gx, ti_link])
        · exact j81 _ (by grind (ematch := 12) (splits := 16) [SI, PT, WB, PLM, XI, PI, PJ, BU, LV, LG, OH, HH, HL, ix_int, q_zz, q_za, q_zga, q_fza, q_fx, q_fga, q_gza, q_gfa, q_gx, ti_link])
    · refine fm_takeNumber _ _ _ _ _ (fun S17 r17 hF38 p39 => ?_) (sg_takeNumber (nx := nx) (n := n) (so := so) (pl := pl) (wo := wo) (ws := ws) _ _ (by grind (ematch := 12) (splits := 16) [SI, PT, WB, PLM, XI, PI, PJ, BU, LV, LG, OH, HH, HL, ix_int, q_zz, q_za, q_zga, q_fza, q_fx, q_fga, q_gza, q_gfa, q_gx, ti_link]))
      have fa_S17 := Fr_faa hF38
      have ga_S17 := Fr_gaa hF38
      have z6_S17 := hF38.1 6 (by decide)
      have z7_S17 := hF38.1 7 (by decide)
      have z8_S17 := hF38.1 8 (by decide)
      have z9_S17 := hF38.1 9 (by decide)
      have z10_S17 := hF38.1 10 (by decide)
      have z11_S17 := hF38.1 11 (by decide)
      have z12_S17 := hF38.1 12 (by decide)
      have z13_S17 := hF38.1 13 (by decide)
      have z15_S17 := hF38.1 15 (by decide)
      have z17_S17 := hF38.1 17 (by decide)
      have z18_S17 := hF38.1 18 (by decide)
      have z19_S17 := hF38.1 19 (by decide)
      have z20_S17 := hF38.1 20 (by decide)
      have f1_S17 := Fr_fa hF38 1 (by decide)
      have f2_S17 := Fr_fa hF38 2 (by decide)
      have f8_S17 := Fr_fa hF38 8 (by decide)
      have f10_S17 := Fr_fa hF38 10 (by decide)
      have f25_S17 := Fr_fa hF38 25 (by decide)
      have f28_S17 := Fr_fa hF38 28 (by decide)
      have f35_S17 := Fr_fa hF38 35 (by decide)
      have f36_S17 := Fr_fa hF38 36 (by decide)
      have f45_S17 := Fr_fa hF38 45 (by decide)
      have f46_S17 := Fr_fa hF38 46 (by decide)
      have f48_S17 := Fr_fa hF38 48 (by decide)
      have g3_S17 := Fr_ga hF38 3 (by decide)
      have g4_S17 := Fr_ga hF38 4 (by decide)
      clear hF38
      refine fm_emit _ _ _ _ _ _ (fun S18 r18 hF40 p41 => ?_) (sg_emit _ _ _ (by grind (ematch := 12) (splits := 16) [SI, PT, WB, PLM, XI, PI, PJ, BU, LV, LG, OH, HH, HL, ix_int, q_zz, q_za, q_zga, q_fza, q_fx, q_fga, q_gza, q_gfa, q_gx, ti_link]))
      have ga_S18 := Fr_gaa hF40
      have z3_S18 := hF40.1 3 (by decide)
      have z4_S18 := hF40.1 4 (by decide)
      have z6_S18 := hF40.1 6 (by decide)
      have z8_S18 := hF40.1 8 (by decide)
      have z9_S18 := hF40.1 9 (by decide)
      have z10_S18 := hF40.1 10 (by decide)
      have z11_S18 := hF40.1 11 (by decide)
      have z12_S18 := hF40.1 12 (by decide)
      have z13_S18 := hF40.1 13 (by decide)
      have z15_S18 := hF40.1 15 (by decide)
      have z17_S18 := hF40.1 17 (by decide)
      have z18_S18 := hF40.1 18 (by decide)
      have z19_S18 := hF40.1 19 (by decide)
      have z20_S18 := hF40.1 20 (by decide)
      have f1_S18 := Fr_fa hF40 1 (by decide)
      have f2_S18 := Fr_fa hF40 2 (by decide)
      have f8_S18 := Fr_fa hF40 8 (by decide)
      have f10_S18 := Fr_fa hF40 10 (by decide)
      have f25_S18 := Fr_fa hF40 25 (by decide)
      have f28_S18 := Fr_fa hF40 28 (by decide)
      have f35_S18 := Fr_fa hF40 35 (by decide)
      have f36_S18 := Fr_fa hF40 36 (by decide)
      have f45_S18 := Fr_fa hF40 45 (by decide)
      have f46_S18 := Fr_fa hF40 46 (by decide)
      have f48_S18 := Fr_fa hF40 48 (by decide)
      have g3_S18 := Fr_ga hF40 3 (by decide)
      have g4_S18 := Fr_ga hF40 4 (by decide)
      clear hF40
      refine fm_then _ _ _ _ _ (fun S19 r19 hF42 p43 => ?_) (sg_then _ _ (by grind (ematch := 12) (splits := 16) [SI, PT, WB, PLM, XI, PI, PJ, BU, LV, LG, OH, HH, HL, ix_int, q_zz, q_za, q_zga, q_fza, q_fx, q_fga, q_gza, q_gfa, q_gx, ti_link]))
      have ga_S19 := Fr_gaa hF42
      have z3_S19 := hF42.1 3 (by decide)
      have z4_S19 := hF42.1 4 (by decide)
      have z6_S19 := hF42.1 6 (by decide)
      have z7_S19 := hF42.1 7 (by decide)
      have z9_S19 := hF42.1 9 (by decide)
      have z10_S19 := hF42.1 10 (by decide)
      have z11_S19 := hF42.1 11 (by decide)
      have z12_S19 := hF42.1 12 (by decide)
      have z13_S19 := hF42.1 13 (by decide)
      have z15_S19 := hF42.1 15 (by decide)
      have z17_S19 := hF42.1 17 (by decide)
      have z18_S19 := hF42.1 18 (by decide)
      have z20_S19 := hF42.1 20 (by decide)
      have f1_S19 := Fr_fa hF42 1 (by decide)
      have f2_S19 := Fr_fa hF42 2 (by decide)
      have f8_S19 := Fr_fa hF42 8 (by decide)
      have f10_S19 := Fr_fa hF42 10 (by decide)
      have f25_S19 := Fr_fa hF42 25 (by decide)
      have f28_S19 := Fr_fa hF42 28 (by decide)
      have f35_S19 := Fr_fa hF42 35 (by decide)
      have f36_S19 := Fr_fa hF42 36 (by decide)
      have f45_S19 := Fr_fa hF42 45 (by decide)
      have f46_S19 := Fr_fa hF42 46 (by decide)
      have f48_S19 := Fr_fa hF42 48 (by decide)
      have g3_S19 := Fr_ga hF42 3 (by decide)
      have g4_S19 := Fr_ga hF42 4 (by decide)
      clear hF42
      intro S20 eS20
      grind (ematch := 12) (splits := 16) [SI, PT, WB, PLM, XI, PI, PJ, BU, LV, LG, OH, HH, HL, ix_int, q_zz, q_za, q_zga, q_fza, q_fx, q_fga, q_gza, q_gfa, q_gx, ti_link]
  · refine fq_expression _ _ _ (fun S21 hF44 p45 => ?_) (sq_expression (nx := nx) (n := n) (so := so) (pl := pl) (wo := wo) (ws := ws) (S0 := S0) (d := d) (G := (G - 5)) (GA := GA) (X := X) (Y := Y) (by grind (ematch := 12) (splits := 16) [SI, PT, WB, PLM, XI, PI, PJ, BU, LV, LG, OH, HH, HL, ix_int, q_zz, q_za, q_zga, q_fza, q_fx, q_fga, q_gza, q_gfa, q_gx, ti_link]) (by grind (ematch := 12) (splits := 16) [SI, PT, WB, PLM, XI, PI, PJ, BU, LV, LG, OH, HH, HL, ix_int, q_zz, q_za, q_zga, q_fza, q_fx, q_fga, q_gza, q_gfa, q_gx, ti_link]))
    have z6_S21 := hF44.1 6 (by decide)
    have z9_S21 := hF44.1 9 (by decide)
    have z10_S21 := hF44.1 10 (by decide)
    have z11_S21 := hF44.1 11 (by decide)
    have z12_S21 := hF44.1 12 (by decide)
    have z13_S21 := hF44.1 13 (by decide)
    have z15_S21 := hF44.1 15 (by decide)
    have z17_S21 := hF44.1 17 (by decide)
    have z20_S21 := hF44.1 20 (by decide)
    have f1_S21 := Fr_fa hF44 1 (by decide)
    have f2_S21 := Fr_fa hF44 2 (by decide)
    have f10_S21 := Fr_fa hF44 10 (by decide)
    have f25_S21 := Fr_fa hF44 25 (by decide)
    have f28_S21 := Fr_fa hF44 28 (by decide)
    have f35_S21 := Fr_fa hF44 35 (by decide)
    have f36_S21 := Fr_fa hF44 36 (by decide)
    have f45_S21 := Fr_fa hF44 45 (by decide)
    have f46_S21 := Fr_fa hF44 46 (by decide)
    have f48_S21 := Fr_fa hF44 48 (by decide)
    have g3_S21 := Fr_ga hF44 3 (by decide)
    have g4_S21 := Fr_ga hF44 4 (by decide)
    clear hF44
    refine fm_emit _ _ _ _ _ _ (fun S22 r22 hF46 p47 => ?_) (sg_emit _ _ _ (by grind (ematch := 12) (splits := 16) [SI, PT, WB, PLM, XI, PI, PJ, BU, LV, LG, OH, HH, HL, ix_int, q_zz, q_za, q_zga, q_fza, q_fx, q_fga, q_gza, q_gfa, q_gx, ti_link]))
    have ga_S22 := Fr_gaa hF46
    have z3_S22 := hF46.1 3 (by decide)
    have z4_S22 := hF46.1 4 (by decide)
    have z6_S22 := hF46.1 6 (by decide)
    have z8_S22 := hF46.1 8 (by decide)
    have z9_S22 := hF46.1 9 (by decide)
    have z10_S22 := hF46.1 10 (by decide)
    have z11_S22 := hF46.1 11 (by decide)
    have z12_S22 := hF46.1 12 (by decide)
    have z13_S22 := hF46.1 13 (by decide)
    have z15_S22 := hF46.1 15 (by decide)
    have z17_S22 := hF46.1 17 (by decide)
    have z18_S22 := hF46.1 18 (by decide)
    have z19_S22 := hF46.1 19 (by decide)
    have z20_S22 := hF46.1 20 (by decide)
    have f1_S22 := Fr_fa hF46 1 (by decide)
    have f2_S22 := Fr_fa hF46 2 (by decide)
    have f8_S22 := Fr_fa hF46 8 (by decide)
    have f10_S22 := Fr_fa hF46 10 (by decide)
    have f25_S22 := Fr_fa hF46 25 (by decide)
    have f28_S22 := Fr_fa hF46 28 (by decide)
    have f35_S22 := Fr_fa hF46 35 (by decide)
    have f36_S22 := Fr_fa hF46 36 (by decide)
    have f45_S22 := Fr_fa hF46 45 (by decide)
    have f46_S22 := Fr_fa hF46 46 (by decide)
    have f48_S22 := Fr_fa hF46 48 (by decide)
    have g3_S22 := Fr_ga hF46 3 (by decide)
    have g4_S22 := Fr_ga hF46 4 (by decide)
    clear hF46
    grind (ematch := 12) (splits := 16) [SI, PT, WB, PLM, XI, PI, PJ, BU, LV, LG, OH, HH, HL, ix_int, q_zz, q_za, q_zga, q_fza, q_fx, q_fga, q_gza, q_gfa, q_gx, ti_link]
