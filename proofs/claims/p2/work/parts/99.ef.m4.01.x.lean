
theorem lm_task (n k : Nat) (M : mS) (a0 a1 : Int32) (hk : k < 512) (h : MI n k M) : wp_task a0 a1 M (fun M1 r => MI n (k + 1) M1) := by
  have h0 := h
  obtain ⟨a, b, hx, cd, nt, nw, na, ty, P, c1, c2, c3, c4, c5, c6⟩ := h
  have nb := c5.2.1.1
  have tkb : 0 ≤ (M.1 22).toInt ∧ (M.1 22).toInt ≤ 200 := ⟨nb.1, nb.2.1⟩
  have nwb : 0 ≤ (M.1 5).toInt ∧ (M.1 5).toInt ≤ 1 := ⟨by omega, by omega⟩
  have fb := FW_b c3
  have rof : ROF (M.1 22).toInt 12 ((M.2.1 51)) := fun t ht => ⟨(c5.2.2.2.2.2.2.1 t ht).1, by have := (c5.2.2.2.2.2.2.1 t ht).2; omega⟩
  have rwb : (M.1 23).toInt ≤ 200 := by
    have := RWX_200 c5.2.2.1.2.1 nb.1
    omega
  have rob : ((M.2.1 5) (ix (M.1 5))).toInt ≤ 12 := by
    have e : ix (M.1 5) = hx := by unfold ix; omega
    rw [e, show (M.2.1 5) = (P.2.1 5) from c5.1.2 5 (by decide) (by decide)]
    omega
  exact fm_task _ _ _ _ _ (fun M1 r f p => MI_fr f (by decide) (by decide) (by decide) h0) (sg_task a0 a1 tkb)
theorem lm_cell (n k : Nat) (M : mS) (a0 a1 : Int32) (hk : k < 512) (h : MI n k M) : wp_cell a0 a1 M (fun M1 r => MI n (k + 1) M1) := by
  have h0 := h
  obtain ⟨a, b, hx, cd, nt, nw, na, ty, P, c1, c2, c3, c4, c5, c6⟩ := h
  have nb := c5.2.1.1
  have tkb : 0 ≤ (M.1 22).toInt ∧ (M.1 22).toInt ≤ 200 := ⟨nb.1, nb.2.1⟩
  have nwb : 0 ≤ (M.1 5).toInt ∧ (M.1 5).toInt ≤ 1 := ⟨by omega, by omega⟩
  have fb := FW_b c3
  have rof : ROF (M.1 22).toInt 12 ((M.2.1 51)) := fun t ht => ⟨(c5.2.2.2.2.2.2.1 t ht).1, by have := (c5.2.2.2.2.2.2.1 t ht).2; omega⟩
  have rwb : (M.1 23).toInt ≤ 200 := by
    have := RWX_200 c5.2.2.1.2.1 nb.1
    omega
  have rob : ((M.2.1 5) (ix (M.1 5))).toInt ≤ 12 := by
    have e : ix (M.1 5) = hx := by unfold ix; omega
    rw [e, show (M.2.1 5) = (P.2.1 5) from c5.1.2 5 (by decide) (by decide)]
    omega
  exact fm_cell _ _ _ _ _ (fun M1 r f p => MI_fr f (by decide) (by decide) (by decide) h0) (sg_cell a0 a1 tkb nwb rof b.2.1)
theorem lm_row (n k : Nat) (M : mS) (a0 : Int32) (hk : k < 512) (h : MI n k M) : wp_row a0 M (fun M1 r => MI n (k + 1) M1) := by
  have h0 := h
  obtain ⟨a, b, hx, cd, nt, nw, na, ty, P, c1, c2, c3, c4, c5, c6⟩ := h
  have nb := c5.2.1.1
  have tkb : 0 ≤ (M.1 22).toInt ∧ (M.1 22).toInt ≤ 200 := ⟨nb.1, nb.2.1⟩
  have nwb : 0 ≤ (M.1 5).toInt ∧ (M.1 5).toInt ≤ 1 := ⟨by omega, by omega⟩
  have fb := FW_b c3
  have rof : ROF (M.1 22).toInt 12 ((M.2.1 51)) := fun t ht => ⟨(c5.2.2.2.2.2.2.1 t ht).1, by have := (c5.2.2.2.2.2.2.1 t ht).2; omega⟩
  have rwb : (M.1 23).toInt ≤ 200 := by
    have := RWX_200 c5.2.2.1.2.1 nb.1
    omega
  have rob : ((M.2.1 5) (ix (M.1 5))).toInt ≤ 12 := by
    have e : ix (M.1 5) = hx := by unfold ix; omega
    rw [e, show (M.2.1 5) = (P.2.1 5) from c5.1.2 5 (by decide) (by decide)]
    omega
  exact fm_row _ _ _ _ (fun M1 r f p => MI_fr f (by decide) (by decide) (by decide) h0) (sg_row a0 rwb)
theorem lm_put (n k : Nat) (M : mS) (a0 a1 : Int32) (hk : k < 512) (h : MI n k M) : wp_put a0 a1 M (fun M1 r => MI n (k + 1) M1) := by
  have h0 := h
  obtain ⟨a, b, hx, cd, nt, nw, na, ty, P, c1, c2, c3, c4, c5, c6⟩ := h
  have nb := c5.2.1.1
  have tkb : 0 ≤ (M.1 22).toInt ∧ (M.1 22).toInt ≤ 200 := ⟨nb.1, nb.2.1⟩
  have nwb : 0 ≤ (M.1 5).toInt ∧ (M.1 5).toInt ≤ 1 := ⟨by omega, by omega⟩
  have fb := FW_b c3
  have rof : ROF (M.1 22).toInt 12 ((M.2.1 51)) := fun t ht => ⟨(c5.2.2.2.2.2.2.1 t ht).1, by have := (c5.2.2.2.2.2.2.1 t ht).2; omega⟩
  have rwb : (M.1 23).toInt ≤ 200 := by
    have := RWX_200 c5.2.2.1.2.1 nb.1
    omega
  have rob : ((M.2.1 5) (ix (M.1 5))).toInt ≤ 12 := by
    have e : ix (M.1 5) = hx := by unfold ix; omega
    rw [e, show (M.2.1 5) = (P.2.1 5) from c5.1.2 5 (by decide) (by decide)]
    omega
  exact fm_put _ _ _ _ _ (fun M1 r f p => MI_fr f (by decide) (by decide) (by decide) h0) (sg_put a0 a1 )
theorem lm_lost (n k : Nat) (M : mS) (a0 a1 : Int32) (hk : k < 512) (h : MI n k M) : wp_lost a0 a1 M (fun M1 r => MI n (k + 1) M1) := by
  have h0 := h
  obtain ⟨a, b, hx, cd, nt, nw, na, ty, P, c1, c2, c3, c4, c5, c6⟩ := h
  have nb := c5.2.1.1
  have tkb : 0 ≤ (M.1 22).toInt ∧ (M.1 22).toInt ≤ 200 := ⟨nb.1, nb.2.1⟩
  have nwb : 0 ≤ (M.1 5).toInt ∧ (M.1 5).toInt ≤ 1 := ⟨by omega, by omega⟩
  have fb := FW_b c3
  have rof : ROF (M.1 22).toInt 12 ((M.2.1 51)) := fun t ht => ⟨(c5.2.2.2.2.2.2.1 t ht).1, by have := (c5.2.2.2.2.2.2.1 t ht).2; omega⟩
  have rwb : (M.1 23).toInt ≤ 200 := by
    have := RWX_200 c5.2.2.1.2.1 nb.1
    omega
  have rob : ((M.2.1 5) (ix (M.1 5))).toInt ≤ 12 := by
    have e : ix (M.1 5) = hx := by unfold ix; omega
    rw [e, show (M.2.1 5) = (P.2.1 5) from c5.1.2 5 (by decide) (by decide)]
    omega
  exact fm_lost _ _ _ _ _ (fun M1 r f p => MI_fr f (by decide) (by decide) (by decide) h0) (sg_lost a0 a1 )
theorem lm_box (n k : Nat) (M : mS) (a0 a1 : Int32) (hk : k < 512) (h : MI n k M) : wp_box a0 a1 M (fun M1 r => MI n (k + 1) M1) := by
  have h0 := h
  obtain ⟨a, b, hx, cd, nt, nw, na, ty, P, c1, c2, c3, c4, c5, c6⟩ := h
  have nb := c5.2.1.1
  have tkb : 0 ≤ (M.1 22).toInt ∧ (M.1 22).toInt ≤ 200 := ⟨nb.1, nb.2.1⟩
  have nwb : 0 ≤ (M.1 5).toInt ∧ (M.1 5).toInt ≤ 1 := ⟨by omega, by omega⟩
  have fb := FW_b c3
  have rof : ROF (M.1 22).toInt 12 ((M.2.1 51)) := fun t ht => ⟨(c5.2.2.2.2.2.2.1 t ht).1, by have := (c5.2.2.2.2.2.2.1 t ht).2; omega⟩
  have rwb : (M.1 23).toInt ≤ 200 := by
    have := RWX_200 c5.2.2.1.2.1 nb.1
    omega
  have rob : ((M.2.1 5) (ix (M.1 5))).toInt ≤ 12 := by
    have e : ix (M.1 5) = hx := by unfold ix; omega
    rw [e, show (M.2.1 5) = (P.2.1 5) from c5.1.2 5 (by decide) (by decide)]
    omega
  exact fm_box _ _ _ _ _ (fun M1 r f p => MI_fr f (by decide) (by decide) (by decide) h0) (sg_box a0 a1 c5.2.2.2.2.2.1)
theorem lm_stands (n k : Nat) (M : mS) (a0 a1 : Int32) (hk : k < 512) (h : MI n k M) : wp_stands a0 a1 M (fun M1 r => MI n (k + 1) M1) := by
  have h0 := h
  obtain ⟨a, b, hx, cd, nt, nw, na, ty, P, c1, c2, c3, c4, c5, c6⟩ := h
  have nb := c5.2.1.1
  have tkb : 0 ≤ (M.1 22).toInt ∧ (M.1 22).toInt ≤ 200 := ⟨nb.1, nb.2.1⟩
  have nwb : 0 ≤ (M.1 5).toInt ∧ (M.1 5).toInt ≤ 1 := ⟨by omega, by omega⟩
  have fb := FW_b c3
  have rof : ROF (M.1 22).toInt 12 ((M.2.1 51)) := fun t ht => ⟨(c5.2.2.2.2.2.2.1 t ht).1, by have := (c5.2.2.2.2.2.2.1 t ht).2; omega⟩
  have rwb : (M.1 23).toInt ≤ 200 := by
    have := RWX_200 c5.2.2.1.2.1 nb.1
    omega
  have rob : ((M.2.1 5) (ix (M.1 5))).toInt ≤ 12 := by
    have e : ix (M.1 5) = hx := by unfold ix; omega
    rw [e, show (M.2.1 5) = (P.2.1 5) from c5.1.2 5 (by decide) (by decide)]
    omega
  exact fm_stands _ _ _ _ _ (fun M1 r f p => MI_fr f (by decide) (by decide) (by decide) h0) (sg_stands (nd := (M.1 29).toInt) (so := (M.2.1 80)) (da := M.2.2 86) a0 a1 c5.2.2.1.2.2.2.2.2.2 ⟨nb.2.2.1, nb.2.2.2⟩)
theorem lm_count (n k : Nat) (M : mS) (a0 : Int32) (hk : k < 512) (h : MI n k M) : wp_count a0 M (fun M1 r => MI n (k + 1) M1) := by
  have h0 := h
  obtain ⟨a, b, hx, cd, nt, nw, na, ty, P, c1, c2, c3, c4, c5, c6⟩ := h
  have nb := c5.2.1.1
  have tkb : 0 ≤ (M.1 22).toInt ∧ (M.1 22).toInt ≤ 200 := ⟨nb.1, nb.2.1⟩
  have nwb : 0 ≤ (M.1 5).toInt ∧ (M.1 5).toInt ≤ 1 := ⟨by omega, by omega⟩
  have fb := FW_b c3
  have rof : ROF (M.1 22).toInt 12 ((M.2.1 51)) := fun t ht => ⟨(c5.2.2.2.2.2.2.1 t ht).1, by have := (c5.2.2.2.2.2.2.1 t ht).2; omega⟩
  have rwb : (M.1 23).toInt ≤ 200 := by
    have := RWX_200 c5.2.2.1.2.1 nb.1
    omega
  have rob : ((M.2.1 5) (ix (M.1 5))).toInt ≤ 12 := by
    have e : ix (M.1 5) = hx := by unfold ix; omega
    rw [e, show (M.2.1 5) = (P.2.1 5) from c5.1.2 5 (by decide) (by decide)]
    omega
  exact fm_count _ _ _ _ (fun M1 r f p => MI_fr f (by decide) (by decide) (by decide) h0) (sg_count a0 tkb nwb)
theorem lm_routine (n k : Nat) (M : mS) (a0 a1 : Int32) (hk : k < 512) (h : MI n k M) : wp_routine a0 a1 M (fun M1 r => MI n (k + 1) M1) := by
  have h0 := h
  obtain ⟨a, b, hx, cd, nt, nw, na, ty, P, c1, c2, c3, c4, c5, c6⟩ := h
  have nb := c5.2.1.1
  have tkb : 0 ≤ (M.1 22).toInt ∧ (M.1 22).toInt ≤ 200 := ⟨nb.1, nb.2.1⟩
  have nwb : 0 ≤ (M.1 5).toInt ∧ (M.1 5).toInt ≤ 1 := ⟨by omega, by omega⟩
  have fb := FW_b c3
  have rof : ROF (M.1 22).toInt 12 ((M.2.1 51)) := fun t ht => ⟨(c5.2.2.2.2.2.2.1 t ht).1, by have := (c5.2.2.2.2.2.2.1 t ht).2; omega⟩
  have rwb : (M.1 23).toInt ≤ 200 := by
    have := RWX_200 c5.2.2.1.2.1 nb.1
    omega
  have rob : ((M.2.1 5) (ix (M.1 5))).toInt ≤ 12 := by
    have e : ix (M.1 5) = hx := by unfold ix; omega
    rw [e, show (M.2.1 5) = (P.2.1 5) from c5.1.2 5 (by decide) (by decide)]
    omega
  exact fm_routine _ _ _ _ _ (fun M1 r f p => MI_fr f (by decide) (by decide) (by decide) h0) (sg_routine a0 a1 nwb rob)
theorem LW_of {hx : Nat} {cd nt nw na : Int} {ty : Nat → T6} {P S : mS} (hx1 : hx ≤ 1) (hF : FWt hx cd nt nw na ty P) (hn : (P.1 5).toInt = hx) : LW hx na nt nw P := ⟨hF.2.2.2.2.2.2, hn, hx1, hF.1.2.2.2.2.1, hF.1.2.2.1, hF.1.2.2.2.1, hF.1.2.2.2.2.2.1, hF.1.2.2.2.2.2.2, fun r h1 h2 => (hF.2.2.2.2.2.1 r h1 h2).2⟩
theorem lm_live (n k : Nat) (M : mS) (a0 a1 a2 : Int32) (hk : k < 512) (h : MI n k M) : wp_live a0 a1 a2 M (fun M1 r => MI n (k + 1) M1) := by
  have h0 := h
  obtain ⟨a, b, hx, cd, nt, nw, na, ty, P, c1, c2, c3, c4, c5, c6⟩ := h
  exact fm_live _ _ _ _ _ _ (fun M1 r f p => MI_fr f (by decide) (by decide) (by decide) h0) (sg_live (T := P) a0 a1 a2 c5.1 (LW_of (S := M) c1 c3 (by rw [← c5.1.1]; exact c2)))
theorem lm_next (n k : Nat) (M : mS) (a0 a1 a2 : Int32) (hk : k < 512) (h : MI n k M) : wp_next a0 a1 a2 M (fun M1 r => MI n (k + 1) M1) := by
  have h0 := h
  obtain ⟨a, b, hx, cd, nt, nw, na, ty, P, c1, c2, c3, c4, c5, c6⟩ := h
  exact fm_next _ _ _ _ _ _ (fun M1 r f p => MI_fr f (by decide) (by decide) (by decide) h0) (sg_next (T := P) a0 a1 a2 c5.1 (LW_of (S := M) c1 c3 (by rw [← c5.1.1]; exact c2)))
set_option maxHeartbeats 1000000 in
theorem lm_begin (n k : Nat) (M : mS) (a0 a1 a2 a3 a4 : Int32) (hk : k < 512) (h : MI n k M) : wp_begin a0 a1 a2 a3 a4 M (fun M1 r => MI n (k + 1) M1) := by
  have h0 := h
  obtain ⟨a, b, hx, cd, nt, nw, na, ty, P, c1, c2, c3, c4, c5, c6⟩ := h
  have q0 : (0 : Int32).toInt = 0 := rfl
  have q1 : (1 : Int32).toInt = 1 := rfl
  have q4 : (4 : Int32).toInt = 4 := rfl
  have q12 : (12 : Int32).toInt = 12 := rfl
  have fb := FW_b c3
  have key : wp_begin a0 a1 a2 a3 a4 M (fun M1 r => W0 hx cd nt nw ty P M1) := by
    unfold wp_begin
    intro S1 e1
    have w1 := W0_nw (NW_z e1 (by decide)) c5
    have n1 : (S1.1 5).toInt = hx := by rw [e1]; exact c2
    refine ⟨fun _ => w1, fun c => ⟨⟨by omega, by show (S1.1 5).toInt < 2; omega⟩, fun z3 e3 => ⟨fun _ => w1, fun c3' => ⟨fun c22 => ?_, fun _ => w1⟩⟩⟩⟩
    have ix5 : ix (S1.1 5) = hx := by unfold ix; omega
    have h00 : 0 ≤ a0.toInt := by
      rcases Int.lt_or_le a0.toInt 0 with g | g
      · exact absurd (Int32.lt_iff_toInt_lt.mpr (by rw [q0]; exact g)) c
      · exact g
    have e3' : z3 = (P.2.1 5) hx := by rw [e3, ix5, show (S1.2.1 5) = (P.2.1 5) from w1.1.2 5 (by decide) (by decide)]
    have hlt : a0.toInt < ((P.2.1 5) hx).toInt := by
      rcases Int.lt_or_le a0.toInt z3.toInt with g | g
      · rw [← e3']; exact g
      · exact absurd (Int32.le_iff_toInt_le.mpr g) c3'
    have nb := w1.2.1.1
    have rwb := RWX_200 w1.2.2.1.2.1 nb.1
    have t200 : (S1.1 22).toInt < 200 := by
      rcases Int.lt_or_le (S1.1 22).toInt 200 with g | g
      · exact g
      · exact absurd (Int32.toInt_inj.mp (show (S1.1 22).toInt = (200 : Int32).toInt by have : (200 : Int32).toInt = 200 := rfl; omega)) c22
    refine fm_newTask _ _ _ _ _ _ (fun S6 r6 f p => ?_) (sg_newTask a0 (-1) (-1) ⟨nb.1, t200⟩ rwb ⟨h00, by omega⟩ ⟨by omega, by omega⟩)
    obtain ⟨⟨p1, p2⟩, cc, p3, p4⟩ := p
    obtain ⟨k22, k23, k51, k52, k53, k54, k57, k60, k61, k68, k73⟩ := p4
    have tg : TG hx cd ty ((S1.2.1 11) (ix cc)) (-1) := by
      rw [show (S1.2.1 11) = (P.2.1 11) from w1.1.2 11 (by decide) (by decide)]
      exact (c3.2.2.2.2.2.1 (ix cc) (by unfold ix; omega) (by unfold ix; omega)).1
    have w6 : W0 hx cd nt nw ty P S6 := W0_nt (r := a0) (par := -1) (nd := -1) (pcx := (S1.2.1 11) (ix cc)) w1 t200 p2 k23 (Or.inl rfl) ⟨h00, hlt⟩ tg k51 k52 k53 k54 k57 k60 k61 k68 k73 (f.1 5 (by decide)) (f.1 28 (by decide)) (f.1 29 (by decide)) (f.1 30 (by decide)) (f.2.1 64 (by decide)) (f.2.1 65 (by decide)) (f.2.1 66 (by decide)) (f.2.1 69 (by decide)) (f.2.1 70 (by decide)) (f.2.1 71 (by decide)) (f.2.1 72 (by decide)) (f.2.1 78 (by decide)) (f.2.1 80 (by decide)) (f.2.1 81 (by decide)) (f.2.1 82 (by decide)) (f.2.1 83 (by decide)) (f.2.1 84 (by decide)) (f.2.1 85 (by decide)) (f.2.1 87 (by decide)) (f.2.2 86 (by decide)) (fun j hj => f.2.1 j (fun q => by simp at q; omega))
    intro z7 e7 z8 e8
    have n6 : S6.1 5 = S1.1 5 := f.1 5 (by decide)
    rw [n6] at e7
    have h7 := w_mul e7 (by rw [q12]; omega)
    rw [q12] at h7
    have h8 := w_add e8 (by omega)
    refine ⟨⟨by omega, by show z8.toInt < 24; omega⟩, fun z9 e9 => ?_⟩
    have hr6 : 0 ≤ r6.toInt ∧ r6.toInt < 200 := by rw [p1]; exact ⟨nb.1, t200⟩
    refine it_rule (fun w : Int32 × Int32 × Int32 × Int32 × Int32 × Int32 × Int32 × mS => w.2.2.2.2.1 = r6 ∧ 0 ≤ w.2.2.2.2.2.2.1.toInt ∧ w.2.2.2.2.2.2.1.toInt ≤ 4 ∧ W0 hx cd nt nw ty P w.2.2.2.2.2.2.2) (fun w => (4 - w.2.2.2.2.2.2.1.toInt).toNat) ?_ ⟨rfl, (show (0 : Int) ≤ (0 : Int32).toInt by decide), (show (0 : Int32).toInt ≤ (4 : Int) by decide), w6⟩
    rintro ⟨x2, x3, x4, x5, x6, x7, x8, X⟩ kk hI hk2
    obtain ⟨i1, i2, i3, i4⟩ := hI
    have i1 : x6 = r6 := i1
    have i2 : 0 ≤ x8.toInt := i2
    have i3 : x8.toInt ≤ 4 := i3
    have i4 : W0 hx cd nt nw ty P X := i4
    show wp_begin_62 _ kk x2 x3 x4 x5 x6 x7 x8 X
    unfold wp_begin_62
    refine ⟨fun _ => i4, fun _ => ⟨fun _ => i4, fun c8 z12 e12 z13 e13 => ?_⟩⟩
    have l8 : x8.toInt < 4 := by
      rcases Int.lt_or_le x8.toInt 4 with g | g
      · exact g
      · exact absurd (Int32.le_iff_toInt_le.mpr (by rw [q4]; exact g)) c8
    rw [i1] at e12
    have h12 := w_mul e12 (by rw [q12]; omega)
    rw [q12] at h12
    have h13 := w_add e13 (by omega)
    have nx : ∀ y2 : Int32, wp_begin_119 (fun M1 r => W0 hx cd nt nw ty P M1) kk x2 x3 x4 x5 x6 x7 x8 z13 y2 X := by
      intro y2
      unfold wp_begin_119
      refine ⟨⟨by omega, by show z13.toInt < 2400; omega⟩, fun S17 e17 z18 e18 => ?_⟩
      have h18 := w_add e18 (by rw [q1]; omega)
      rw [q1] at h18
      exact hk2 (x2, x3, x4, x5, x6, x7, z18, S17) ⟨i1, by show 0 ≤ z18.toInt; omega, by show z18.toInt ≤ 4; omega, W0_nw (NW_f e17 (by decide)) i4⟩ (by show (4 - z18.toInt).toNat < (4 - x8.toInt).toNat; omega)
    exact ⟨fun _ => ⟨fun _ => ⟨fun _ => nx _, fun _ => nx _⟩, fun _ => nx _⟩, fun _ => nx _⟩
  exact fm_begin _ _ _ _ _ _ _ _ (fun M1 r f p => MI_w f (by decide) (by decide) (by decide) a b c1 c2 c3 c4 p (by omega)) key
