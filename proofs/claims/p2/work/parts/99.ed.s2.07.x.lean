
theorem sg_enter {hx : Nat} {cd nt nw na : Int} {ty : Nat → T6} {P : mS} {u : T6} {tr : Int32} (a0 : Int32) {S : mS} (hx1 : hx ≤ 1) (hr : 500 * hx ≤ a0.toInt ∧ a0.toInt < nt) (hF : FWt hx cd nt nw na ty P) (hW : W0 hx cd nt nw ty P S) (hR : RF hx nt nw P tr S) (hB : RB hx cd ty u S) (h0 : u.2.2.1 = 0) (hy : (P.2.1 25) (ix a0) = tr) (hd : ∃ n, n ≤ 10 ∧ dpt ((P.2.1 25)) n tr) : wp_enter a0 S (fun S1 => True ∧ (W0 hx cd nt nw ty P S1 ∧ RF hx nt nw P a0 S1 ∧ RB hx cd ty (ST a0) S1 ∧ FS S1 = FS S + 3)) := by
  have ht := RB_t hW hB
  have hb := RF_b hR
  have hf : ((S.2.1 68) (ix (S.1 33))).toInt ≤ 10 := by
    obtain ⟨n, n1, n2⟩ := hd
    have q := dpt_u _ _ _ hR.2.2.1 n2
    have a1 := ix_int ((S.2.1 68) (ix (S.1 33))) hb.1
    omega
  have it : inR (S.1 33) 200 := ⟨ht.1, by show (S.1 33).toInt < 200; omega⟩
  have q1 : (1 : Int32).toInt = 1 := rfl
  have q11 : (11 : Int32).toInt = 11 := rfl
  unfold wp_enter
  intro z1 e1
  have h1 := w_mul e1 (by rw [q11]; omega)
  rw [q11] at h1
  refine ⟨it, fun z2 e2 z3 e3 => ?_⟩
  have h2 : z2.toInt = ((S.2.1 68) (ix (S.1 33))).toInt := by rw [e2]
  have h3 := w_add e3 (by omega)
  have i3 : inR z3 2200 := ⟨by omega, by show z3.toInt < 2200; omega⟩
  refine ⟨i3, fun S4 e4 => ⟨i3, fun S5 e5 => ⟨i3, fun S6 e6 => ?_⟩⟩⟩
  have t6 : S6.1 33 = S.1 33 := by rw [e6, e5, e4]; rfl
  rw [t6]
  refine ⟨it, fun z7 e7 z8 e8 => ⟨it, fun S9 e9 => ⟨trivial, ?_⟩⟩⟩
  have h7 : z7.toInt = ((S.2.1 68) (ix (S.1 33))).toInt := by rw [e7, e6, e5, e4]; rfl
  have h8 := w_add e8 (by rw [q1]; omega)
  rw [q1] at h8
  have hs := hB.1.2.2.1
  have s4 : (S4.2.1 54) (ix (S.1 33)) = 4 := by rw [e4]; exact hs
  have s5 : (S5.2.1 54) (ix (S.1 33)) = 4 := by rw [e5]; exact s4
  have s6 : (S6.2.1 54) (ix (S.1 33)) = 4 := by rw [e6]; exact s5
  have hr3 : 11 * (S.1 33).toInt ≤ z3.toInt ∧ z3.toInt < 11 * (S.1 33).toInt + 11 := by omega
  have w4 := W0_fw (t := S.1 33) e4 (by decide) ht.1 hs hr3 hW
  have w5 := W0_fw (t := S.1 33) e5 (by decide) ht.1 s4 hr3 w4
  have w6 := W0_fw (t := S.1 33) e6 (by decide) ht.1 s5 hr3 w5
  have w9 := W0_68 (t := S.1 33) e9 ht.1 s6 w6
  have r9 := RF_push e4 e5 e6 e9 hR hf ht.1 (by omega) (by omega) hr.1 hr.2 hy
  exact ⟨w9, r9.1, RB_st _ (RB_fw e9 (by decide) (RB_fw e6 (by decide) (RB_fw e5 (by decide) (RB_fw e4 (by decide) hB)))) h0, r9.2⟩
theorem RF_pos {hx : Nat} {nt nw : Int} {P S : mS} {tr : Int32} (h : RF hx nt nw P tr S) (h0 : 0 ≤ tr.toInt) : 0 < ((S.2.1 68) (ix (S.1 33))).toInt := by
  have d := h.2.2.1
  have a := h.1
  rcases Decidable.em (0 < ((S.2.1 68) (ix (S.1 33))).toInt) with g | g
  · exact g
  · have a1 := ix_int ((S.2.1 68) (ix (S.1 33))) a
    have e : ix ((S.2.1 68) (ix (S.1 33))) = 0 := by omega
    rw [e] at d
    exact absurd (show tr.toInt < 0 from d) (by omega)
theorem RL_i {hx : Nat} {cd nt nw : Int} {ty : Nat → T6} {P S : mS} {F : Int} {b w tr : Int32} (h1 : W0 hx cd nt nw ty P S) (h2 : RF hx nt nw P tr S) (h3 : RB hx cd ty (ST tr) S) (h4 : FS S ≤ F) (h5 : b = 5 ∨ an ((P.2.1 25)) ((P.2.1 40) (ix w)) tr) : RL9 hx cd nt nw ty P F b w S := ⟨tr, h1, h2, h3, h4, h5⟩
