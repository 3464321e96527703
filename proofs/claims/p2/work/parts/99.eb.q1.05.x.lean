
theorem sg_go {hx : Nat} {na nt nw : Int} {T : mS} (a0 a1 : Int32) {S : mS} (hE : EQ T S) (hW : LW hx na nt nw T) (hI : LI hx na S) (he : 12000 * hx ≤ a1.toInt ∧ a1.toInt < na) (ha : a0.toInt < 0 ∨ (12000 * hx ≤ a0.toInt ∧ a0.toInt < na)) : wp_go a0 a1 S (fun S1 => EQ T S1 ∧ LI hx na S1 ∧ 2 * (12000 - CN ((S1.2.1 49))) + (S1.1 21).toInt ≤ 2 * (12000 - CN ((S.2.1 49))) + (S.1 21).toInt) := by
  have key : ∀ y0 : Int32, 12000 * hx ≤ y0.toInt → y0.toInt < na → wp_go_9 (fun S1 => EQ T S1 ∧ LI hx na S1 ∧ 2 * (12000 - CN ((S1.2.1 49))) + (S1.1 21).toInt ≤ 2 * (12000 - CN ((S.2.1 49))) + (S.1 21).toInt) y0 S := by
    intro y0 h1 h2
    have b := LW_b hW
    have b1 : (S.1 5).toInt = hx := by rw [hE.1]; exact b.1
    have b2 := b.2.1
    have b3 := b.2.2.1
    unfold wp_go_9
    intro z2 ez2 z3 ez3
    have t3 : 0 ≤ z3.toInt ∧ z3.toInt < 12000 := by
      clear hE hW hI he ha b
      grind [ti_link]
    refine ⟨⟨t3.1, t3.2⟩, ?_⟩
    intro z4 ez4
    refine ⟨fun _ => ⟨hE, hI, Int.le_refl _⟩, fun c => ⟨⟨t3.1, t3.2⟩, ?_⟩⟩
    intro S6 e6
    have c0 : S.2.1 49 (ix z3) = 0 := by rw [← ez4]; exact c
    have q := cn_up c0 t3.1 t3.2
    have o6 : S6.1 21 = S.1 21 := by rw [e6]; rfl
    have i1 := hI.1
    have i2 := hI.2.1
    refine ⟨⟨by rw [o6]; exact i1, by rw [o6]; show (S.1 21).toInt < 12000; omega⟩, ?_⟩
    intro S7 e7 z8 ez8 S9 e9
    have e21 : S7.1 21 = S.1 21 := by rw [e7, e6]; rfl
    have q1 : (1 : Int32).toInt = 1 := rfl
    have z := w_add (z := S.1 21 + 1) rfl (by rw [q1]; omega)
    rw [q1, ← e21, ← ez8, e21] at z
    have s9 : S9.2.1 49 = upd (S.2.1 49) (ix z3) 1 := by rw [e9, e7, e6]; rfl
    have p9 : S9.2.1 50 = upd (S.2.1 50) (ix (S.1 21)) y0 := by rw [e9, e7, e6]; rfl
    have o9 : S9.1 21 = z8 := by rw [e9]; rfl
    refine ⟨?_, ⟨?_, ?_, ?_, ?_⟩, ?_⟩
    · rw [e9, e7, e6]; exact EQ_z (EQ_f (EQ_f hE (by decide)) (by decide)) (by decide)
    · rw [o9]; omega
    · rw [o9, s9, q.1]; omega
    · rw [s9, q.1]; exact q.2
    · rw [o9, p9]; exact SK_up hI.2.2.2 i1 z h1 h2
    · rw [s9, q.1, o9]; omega
  unfold wp_go
  refine ⟨fun c => ?_, fun c => key a1 he.1 he.2⟩
  rcases ha with g | g
  · exact absurd (w_le c) (by show ¬ 0 ≤ a0.toInt; omega)
  · exact key a0 g.1 g.2
