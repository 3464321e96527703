
/-- what newTask does -/
def NTK (a0 a1 a2 z : Int32) (S S1 : mS) : Prop := S1.1 22 = S.1 22 + 1 ∧ (S1.1 23).toInt = (S.1 23).toInt + 1 ∧ S1.2.1 51 = upd (S.2.1 51) (ix (S.1 22)) a0 ∧ S1.2.1 52 = upd (S.2.1 52) (ix (S.1 22)) a1 ∧ S1.2.1 53 = upd (S.2.1 53) (ix (S.1 22)) a2 ∧ S1.2.1 54 = upd (S.2.1 54) (ix (S.1 22)) 0 ∧ S1.2.1 57 = upd (S.2.1 57) (ix (S.1 22)) z ∧ S1.2.1 60 = upd (S.2.1 60) (ix (S.1 22)) 0 ∧ S1.2.1 61 = upd (S.2.1 61) (ix (S.1 22)) 0 ∧ S1.2.1 68 = upd (S.2.1 68) (ix (S.1 22)) 0 ∧ S1.2.1 73 = upd (S.2.1 73) (ix (S.1 23)) (S.1 22)
theorem sg_newTask (a0 a1 a2 : Int32) {S : mS} (ht : 0 ≤ (S.1 22).toInt ∧ (S.1 22).toInt < 200) (hm : 0 ≤ (S.1 23).toInt ∧ (S.1 23).toInt ≤ (S.1 22).toInt) (hr : 0 ≤ a0.toInt ∧ a0.toInt < 12) (hx : 0 ≤ (S.1 5).toInt ∧ (S.1 5).toInt ≤ 1) : wp_newTask a0 a1 a2 S (fun S1 r => (r = (S.1 22) ∧ (S1.1 22).toInt = (S.1 22).toInt + 1) ∧ (∃ c : Int32, c.toInt = 12 * (S.1 5).toInt + a0.toInt ∧ NTK a0 a1 a2 ((S.2.1 11) (ix c)) S S1)) := by
  have it : inR (S.1 22) 200 := ⟨ht.1, by show (S.1 22).toInt < 200; omega⟩
  have q1 : (1 : Int32).toInt = 1 := rfl
  have q12 : (12 : Int32).toInt = 12 := rfl
  have hz := w_add (z := S.1 22 + 1) rfl (by rw [q1]; omega)
  rw [q1] at hz
  have hz2 := w_add (z := S.1 23 + 1) rfl (by rw [q1]; omega)
  rw [q1] at hz2
  unfold wp_newTask
  intro z1 e1 S2 e2
  refine ⟨it, fun S3 e3 => ⟨it, fun S4 e4 => ⟨it, fun S5 e5 => ⟨it, fun S6 e6 => ⟨it, fun S7 e7 z8 e8 z9 e9 => ?_⟩⟩⟩⟩⟩
  have n7 : S7.1 5 = S.1 5 := by rw [e7, e6, e5, e4, e3, e2]; rfl
  rw [n7] at e8
  have h8 := w_mul e8 (by rw [q12]; omega)
  rw [q12] at h8
  have h9 := w_add e9 (by omega)
  refine ⟨⟨by omega, by show z9.toInt < 24; omega⟩, fun z10 e10 => ⟨it, fun S11 e11 => ⟨it, fun S12 e12 => ⟨it, fun S13 e13 => ⟨it, fun S14 e14 => ⟨it, fun S15 e15 => ⟨it, fun S16 e16 => ⟨it, fun S17 e17 => ?_⟩⟩⟩⟩⟩⟩⟩⟩
  have c10 : z10 = S.2.1 11 (ix z9) := by rw [e10, e7, e6, e5, e4, e3, e2]; rfl
  refine it_rule (fun w : Int32 × Int32 × mS => w.1 = S.1 22 ∧ 0 ≤ w.2.1.toInt ∧ w.2.1.toInt ≤ 12 ∧ w.2.2.1 = S17.1 ∧ (∀ k, k ≠ 58 → w.2.2.2.1 k = S17.2.1 k)) (fun w => (12 - w.2.1.toInt).toNat) ?_ ⟨rfl, (show (0 : Int) ≤ (0 : Int32).toInt by decide), (show (0 : Int32).toInt ≤ (12 : Int) by decide), rfl, fun _ _ => rfl⟩
  rintro ⟨x4, x5, S9⟩ k hI hk
  obtain ⟨i1, i2, i3, i4, i5⟩ := hI
  have i1 : x4 = S.1 22 := i1
  have i2 : 0 ≤ x5.toInt := i2
  have i3 : x5.toInt ≤ 12 := i3
  have i4 : S9.1 = S17.1 := i4
  have i5 : ∀ k, k ≠ 58 → S9.2.1 k = S17.2.1 k := i5
  show wp_newTask_128 _ k x4 x5 S9
  unfold wp_newTask_128
  refine ⟨fun c => ?_, fun c z20 e20 z21 e21 => ?_⟩
  · rw [i1]
    unfold wp_toRow
    have m9 : S9.1 23 = S.1 23 := by rw [i4, e17, e16, e15, e14, e13, e12, e11, e7, e6, e5, e4, e3, e2]; rfl
    rw [m9]
    refine ⟨⟨hm.1, by show (S.1 23).toInt < 200; omega⟩, fun A1 f1 z2 f2 A3 f3 => ⟨it, fun A4 f4 => ⟨⟨rfl, ?_⟩, z9, by omega, ?_⟩⟩⟩
    · rw [f4, f3, f1]
      show (S9.1 22).toInt = _
      rw [i4, e17, e16, e15, e14, e13, e12, e11, e7, e6, e5, e4, e3, e2]
      show z1.toInt = _
      rw [e1]; exact hz
    · have g : ∀ k, k ≠ 54 → k ≠ 73 → A4.2.1 k = S9.2.1 k := fun k h1 h2 => by
        rw [f4, q_ff, if_neg h1, f3]
        show (A1.2.1) k = _
        rw [f1, q_ff, if_neg h2]
      refine ⟨?_, ?_, ?_, ?_, ?_, ?_, ?_, ?_, ?_, ?_, ?_⟩
      · rw [f4, f3, f1]
        show S9.1 22 = _
        rw [i4, e17, e16, e15, e14, e13, e12, e11, e7, e6, e5, e4, e3, e2]
        show z1 = _
        exact e1
      · have e : A4.1 23 = S.1 23 + 1 := by rw [f4, f3]; show z2 = _; rw [f2, f1]; show S9.1 23 + 1 = _; rw [m9]
        rw [e]; exact hz2
      · rw [g 51 (by decide) (by decide), i5 51 (by decide), e17, e16, e15, e14, e13, e12, e11, e7, e6, e5, e4, e3, e2]; rfl
      · rw [g 52 (by decide) (by decide), i5 52 (by decide), e17, e16, e15, e14, e13, e12, e11, e7, e6, e5, e4, e3, e2]; rfl
      · rw [g 53 (by decide) (by decide), i5 53 (by decide), e17, e16, e15, e14, e13, e12, e11, e7, e6, e5, e4, e3, e2]; rfl
      · have e : A4.2.1 54 = upd (S9.2.1 54) (ix (S.1 22)) 0 := by rw [f4, f3, f1]; rfl
        rw [e, i5 54 (by decide), e17, e16, e15, e14, e13, e12, e11, e7, e6, e5, e4, e3, e2]; rfl
      · rw [g 57 (by decide) (by decide), i5 57 (by decide), e17, e16, e15, e14, e13, e12, e11, c10, e7, e6, e5, e4, e3, e2]; rfl
      · rw [g 60 (by decide) (by decide), i5 60 (by decide), e17, e16, e15, e14, e13, e12, e11, e7, e6, e5, e4, e3, e2]; rfl
      · rw [g 61 (by decide) (by decide), i5 61 (by decide), e17, e16, e15, e14, e13, e12, e11, e7, e6, e5, e4, e3, e2]; rfl
      · rw [g 68 (by decide) (by decide), i5 68 (by decide), e17, e16, e15, e14, e13, e12, e11, e7, e6, e5, e4, e3, e2]; rfl
      · have e : A4.2.1 73 = upd (S9.2.1 73) (ix (S.1 23)) (S.1 22) := by rw [f4, f3, f1]; rfl
        rw [e, i5 73 (by decide), e17, e16, e15, e14, e13, e12, e11, e7, e6, e5, e4, e3, e2]; rfl
  · rw [i1] at e20
    have h5 : x5.toInt < 12 := by
      rcases Int.lt_or_le x5.toInt 12 with g | g
      · exact g
      · exact absurd (Int32.le_iff_toInt_le.mpr (by rw [q12]; exact g)) c
    have h20 := w_mul e20 (by rw [q12]; omega)
    rw [q12] at h20
    have h21 := w_add e21 (by omega)
    refine ⟨⟨by omega, by show z21.toInt < 2400; omega⟩, fun S22 e22 z23 e23 => ?_⟩
    have h23 := w_add e23 (by rw [q1]; omega)
    rw [q1] at h23
    refine hk _ ⟨i1, by show 0 ≤ z23.toInt; omega, by show z23.toInt ≤ 12; omega, by show S22.1 = _; rw [e22]; exact i4, fun k hk9 => ?_⟩ ?_
    · show S22.2.1 k = _
      rw [e22, q_ff, if_neg hk9]
      exact i5 k hk9
    · show (12 - z23.toInt).toNat < (12 - x5.toInt).toNat
      omega
