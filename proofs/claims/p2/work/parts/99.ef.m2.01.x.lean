
/-- between two calls: the program and the tasks -/
def MIc (k : Nat) (M : mS) : Prop := ∃ (hx : Nat) (cd nt nw na : Int) (ty : Nat → T6) (P : mS), hx ≤ 1 ∧ (M.1 5).toInt = hx ∧ FWt hx cd nt nw na ty P ∧ CE ((P.2.1 7)) ∧ W0 hx cd nt nw ty P M ∧ (P.1 60).toInt ≤ 401 * k
def MIb (k : Nat) (M : mS) : Prop := WD (M.2.2 4) ∧ CE ((M.2.1 8)) ∧ CE ((M.2.1 7)) ∧ B01 (M.1 20) ∧ (0 ≤ (M.1 24).toInt ∧ (M.1 24).toInt ≤ 10000 * k) ∧ BNp M ∧ (0 ≤ (M.1 25).toInt ∧ (M.1 25).toInt ≤ 100000 ∧ (M.1 29).toInt ≤ (M.1 25).toInt)
/-- between two calls: n signs on the tape, k calls behind -/
def MI (n k : Nat) (M : mS) : Prop := ((M.1 1).toInt = n ∧ n ≤ 4000) ∧ MIb k M ∧ MIc k M
theorem MIc_up {k k1 : Nat} {M : mS} (h : MIc k M) (hk : k ≤ k1) : MIc k1 M := by
  obtain ⟨hx, cd, nt, nw, na, ty, P, a, b, c, d, e, f⟩ := h
  exact ⟨hx, cd, nt, nw, na, ty, P, a, b, c, d, e, by omega⟩
theorem MIb_up {k k1 : Nat} {M : mS} (h : MIb k M) (hk : k ≤ k1) : MIb k1 M := ⟨h.1, h.2.1, h.2.2.1, h.2.2.2.1, ⟨h.2.2.2.2.1.1, by have := h.2.2.2.2.1.2; omega⟩, h.2.2.2.2.2⟩
theorem MI_idle {n k : Nat} {M : mS} (h : MI n k M) : MI n (k + 1) M := ⟨h.1, MIb_up h.2.1 (by omega), MIc_up h.2.2 (by omega)⟩
theorem MIb_fr {zs fs gs : List Nat} {k : Nat} {M M1 : mS} (hF : Fr zs fs gs M M1) (h1 : ∀ j, j ∈ [20, 24, 25, 27, 29] → j ∉ zs) (h2 : ∀ j, j ∈ [7, 8] → j ∉ fs) (h3 : 4 ∉ gs) (h : MIb k M) : MIb k M1 := by
  obtain ⟨a, b, c, d, e, f, g⟩ := h
  refine ⟨by rw [hF.2.2 4 h3]; exact a, by rw [hF.2.1 8 (h2 8 (by decide))]; exact b, by rw [hF.2.1 7 (h2 7 (by decide))]; exact c, by rw [hF.1 20 (h1 20 (by decide))]; exact d, by rw [hF.1 24 (h1 24 (by decide))]; exact e, ?_, by rw [hF.1 25 (h1 25 (by decide)), hF.1 29 (h1 29 (by decide))]; exact g⟩
  unfold BNp at f ⊢
  rw [hF.1 25 (h1 25 (by decide)), hF.1 27 (h1 27 (by decide))]
  exact f
/-- calls that ask change nothing of it -/
theorem MI_fr {zs fs gs : List Nat} {n k : Nat} {M M1 : mS} (hF : Fr zs fs gs M M1) (h1 : ∀ j, j ∈ [1, 5, 20, 22, 23, 24, 25, 27, 28, 29, 30] → j ∉ zs) (h2 : ∀ j, j ∈ fs → 45 < j ∧ j ∉ WF9) (h3 : 4 ∉ gs ∧ 86 ∉ gs) (h : MI n k M) : MI n (k + 1) M1 := by
  obtain ⟨⟨a1, a2⟩, b, hx, cd, nt, nw, na, ty, P, c1, c2, c3, c4, c5, c6⟩ := h
  refine ⟨⟨by rw [hF.1 1 (h1 1 (by decide))]; exact a1, a2⟩, MIb_up (MIb_fr hF (fun j hj => h1 j (by revert hj; revert j; decide)) (fun j hj q => by have t9 := (h2 j q).1; clear q; revert t9; revert hj; revert j; decide) h3.1 b) (by omega), hx, cd, nt, nw, na, ty, P, c1, by rw [hF.1 5 (h1 5 (by decide))]; exact c2, c3, c4, W0_nw (NW_fr hF (fun j hj => h1 j (by revert hj; revert j; decide)) h2 h3.2) c5, by omega⟩
/-- W0 is all that a call has to keep -/
theorem MI_w {zs fs gs : List Nat} {hx n k : Nat} {cd nt nw na : Int} {ty : Nat → T6} {P M M1 : mS} (hF : Fr zs fs gs M M1) (h1 : ∀ j, j ∈ [1, 5, 20, 24, 25, 27, 29] → j ∉ zs) (h2 : ∀ j, j ∈ [7, 8] → j ∉ fs) (h3 : 4 ∉ gs) (a : (M.1 1).toInt = n ∧ n ≤ 4000) (b : MIb k M) (c1 : hx ≤ 1) (c2 : (M.1 5).toInt = hx) (c3 : FWt hx cd nt nw na ty P) (c4 : CE ((P.2.1 7))) (c5 : W0 hx cd nt nw ty P M1) (c6 : (P.1 60).toInt ≤ 401 * k + 400) : MI n (k + 1) M1 := ⟨⟨by rw [hF.1 1 (h1 1 (by decide))]; exact a.1, a.2⟩, MIb_up (MIb_fr hF (fun j hj => h1 j (by revert hj; revert j; decide)) h2 h3 b) (by omega), hx, cd, nt, nw, na, ty, P, c1, by rw [hF.1 5 (h1 5 (by decide))]; exact c2, c3, c4, c5, by omega⟩
theorem lm_letter (n k : Nat) (M : mS) (a0 a1 : Int32) (hk : k < 512) (h : MI n k M) : wp_letter a0 a1 M (fun M1 r => MI n (k + 1) M1) := by
  obtain ⟨a, b, hx, cd, nt, nw, na, ty, P, c1, c2, c3, c4, c5, c6⟩ := h
  exact fm_letter _ _ _ _ _ (fun M1 r f p => MI_w f (by decide) (by decide) (by decide) a b c1 c2 c3 c4 p (by omega)) (sg_letter a0 a1 c5)
theorem lm_cancel (n k : Nat) (M : mS) (a0 : Int32) (hk : k < 512) (h : MI n k M) : wp_cancel a0 M (fun M1 r => MI n (k + 1) M1) := by
  obtain ⟨a, b, hx, cd, nt, nw, na, ty, P, c1, c2, c3, c4, c5, c6⟩ := h
  exact fm_cancel _ _ _ _ (fun M1 r f p => MI_w f (by decide) (by decide) (by decide) a b c1 c2 c3 c4 p (by omega)) (sg_cancel a0 c5)
theorem lm_tick (n k : Nat) (M : mS) (a0 : Int32) (hk : k < 512) (h : MI n k M) : wp_tick a0 M (fun M1 r => MI n (k + 1) M1) := by
  obtain ⟨a, b, hx, cd, nt, nw, na, ty, P, c1, c2, c3, c4, c5, c6⟩ := h
  have hc := b.2.2.2.2.1
  refine fm_tick _ _ _ _ (fun M1 r f p => ?_) (sg_tick a0 ⟨hc.1, by omega⟩ c5)
  obtain ⟨b1, b2, b3, b4, b5, b6, b7⟩ := b
  refine ⟨⟨by rw [f.1 1 (by decide)]; exact a.1, a.2⟩, ⟨by rw [f.2.2 4 (by decide)]; exact b1, by rw [f.2.1 8 (by decide)]; exact b2, by rw [f.2.1 7 (by decide)]; exact b3, by rw [f.1 20 (by decide)]; exact b4, ⟨p.2.1, by omega⟩, ?_, by rw [f.1 25 (by decide), f.1 29 (by decide)]; exact b7⟩, hx, cd, nt, nw, na, ty, P, c1, by rw [f.1 5 (by decide)]; exact c2, c3, c4, p.1, by omega⟩
  unfold BNp at b6 ⊢
  rw [f.1 25 (by decide), f.1 27 (by decide)]
  exact b6
/-- a task of the row has its turn -/
theorem one_run {hx : Nat} {cd nt nw na : Int} {ty : Nat → T6} {P S : mS} (a0 b : Int32) {K : mS → Prop} (hx1 : hx ≤ 1) (hG : CE ((P.2.1 7))) (hF : FWt hx cd nt nw na ty P) (hnow : (S.1 5).toInt = hx) (hc : 0 ≤ (S.1 24).toInt) (hW : W0 hx cd nt nw ty P S) (ha : 0 ≤ a0.toInt ∧ a0.toInt < (S.1 23).toInt) (hb : b.toInt = (P.1 60).toInt + 1) (hbn : BNp S) (hst : 0 ≤ (S.1 25).toInt ∧ (S.1 25).toInt ≤ 100000 ∧ (S.1 29).toInt ≤ (S.1 25).toInt) (hK : ∀ S1 : mS, RD hx cd nt nw ty (bmp P b) S1 → S1.1 5 = S.1 5 → S1.1 24 = S.1 24 → K S1) : wp_outOfRow a0 S (fun X => wp_runs ((S.2.1 73) (ix a0)) X K) := by
  have rw9 := RWX_200 hW.2.2.1.2.1 hW.2.1.1.1
  have tk := hW.2.1.1
  have tn := hW.2.2.2.2.2.2.2
  have wb : W0 hx cd nt nw ty (bmp P b) S := W0_bmp hW ⟨by have := tn.1; omega, fun i => ⟨(tn.2 i).1, by have := (tn.2 i).2; omega⟩⟩
  have r := RWX_in hW.2.2.1.2.1 ha.1 ha.2
  refine fm_outOfRow _ _ _ _ (fun X f p => ?_) (sg_outOfRow (T := S) a0 ET_rf ⟨ha.1, ha.2, by omega⟩)
  have wx : W0x hx cd nt nw ty (bmp P b) ((S.2.1 73) (ix a0)).toInt X := W0_out (k := a0) wb p.2.2 ha.1 ha.2 rfl p.2.1 rfl (fun j hj => f.1 j (fun q => hj (List.mem_singleton.mp q))) (fun j hj => f.2.1 j (fun q => hj (List.mem_singleton.mp q))) (f.2.2 86 (by simp))
  have e60 : (X.2.1 60) = (S.2.1 60) := f.2.1 60 (by decide)
  have e54 : (X.2.1 54) = (S.2.1 54) := f.2.1 54 (by decide)
  refine fm_runs _ _ _ _ (fun S1 f2 q => hK S1 q ((f2.1 5 (by decide)).trans (f.1 5 (by decide))) ((f2.1 24 (by decide)).trans (f.1 24 (by decide)))) (sg_runs (P := bmp P b) _ hx1 hG (FWt_bmp hF) (by rw [f.1 5 (by decide)]; exact hnow) (by rw [f.1 24 (by decide)]; exact hc) wx ⟨r.1, by rw [f.1 22 (by decide)]; exact r.2.1⟩ (by rw [e54]; exact r.2.2.2) ?_ ?_ (by rw [f.1 25 (by decide), f.1 29 (by decide)]; exact hst))
  · rw [e60, bmp_60]
    have := (tn.2 (ix ((S.2.1 73) (ix a0)))).2
    omega
  · unfold BNp at hbn ⊢
    rw [f.1 25 (by decide), f.1 27 (by decide)]
    exact hbn
theorem lm_turn (n k : Nat) (M : mS) (a0 : Int32) (hk : k < 512) (h : MI n k M) : wp_turn a0 M (fun M1 r => MI n (k + 1) M1) := by
  obtain ⟨a, b, hx, cd, nt, nw, na, ty, P, c1, c2, c3, c4, c5, c6⟩ := h
  have q0 : (0 : Int32).toInt = 0 := rfl
  have tn0 := c5.2.2.2.2.2.2.2.1
  obtain ⟨b9, hb9, _⟩ := ofn ((P.1 60).toInt + 1).toNat (by omega)
  have key : wp_turn a0 M (fun M1 r => (∃ P1 : mS, FWt hx cd nt nw na ty P1 ∧ CE ((P1.2.1 7)) ∧ (P1.1 60).toInt ≤ 401 * k + 400 ∧ RD hx cd nt nw ty P1 M1) ) := by
    have rd : ∀ S1 : mS, S1 = sZ M 0 0 → RD hx cd nt nw ty P S1 := fun S1 e1 => by
      have bb := b.2.2.2.2.2
      refine ⟨W0_nw (NW_z e1 (by decide)) c5, ?_, by rw [e1]; exact bb.2⟩
      rw [e1]; exact bb.1
    unfold wp_turn
    intro S1 e1
    have r1 := rd S1 e1
    have o1 : ∃ P1 : mS, FWt hx cd nt nw na ty P1 ∧ CE ((P1.2.1 7)) ∧ (P1.1 60).toInt ≤ 401 * k + 400 ∧ RD hx cd nt nw ty P1 S1 := ⟨P, c3, c4, by omega, r1⟩
    refine ⟨fun _ => o1, fun c => ⟨fun c23 => ?_, fun _ => o1⟩⟩
    have h0 : 0 ≤ a0.toInt := by
      rcases Int.lt_or_le a0.toInt 0 with g | g
      · exact absurd (Int32.lt_iff_toInt_lt.mpr (by rw [q0]; exact g)) c
      · exact g
    have h1 := w_lt c23
    have rw9 := RWX_200 r1.1.2.2.1.2.1 r1.1.2.1.1.1
    have tk := r1.1.2.1.1
    refine ⟨⟨h0, by show a0.toInt < 200; omega⟩, fun z4 e4 => ?_⟩
    rw [e4]
    exact one_run a0 b9 c1 c4 c3 (by rw [e1]; exact c2) (by rw [e1]; exact b.2.2.2.2.1.1) r1.1 ⟨h0, h1⟩ (by omega) r1.2.1 r1.2.2 (fun S6 q _ _ => ⟨bmp P b9, c3, c4, by rw [bmp_60]; omega, q⟩)
  refine fm_turn _ _ _ _ (fun M1 r f p => ?_) key
  obtain ⟨P1, p1, p2, p3, p4⟩ := p
  obtain ⟨b1, b2, b3, b4, b5, b6, b7⟩ := b
  exact ⟨⟨by rw [f.1 1 (by decide)]; exact a.1, a.2⟩, ⟨by rw [f.2.2 4 (by decide)]; exact b1, by rw [f.2.1 8 (by decide)]; exact b2, by rw [f.2.1 7 (by decide)]; exact b3, by rw [f.1 20 (by decide)]; exact b4, by rw [f.1 24 (by decide)]; exact ⟨b5.1, by omega⟩, p4.2.1, p4.2.2⟩, hx, cd, nt, nw, na, ty, P1, c1, by rw [f.1 5 (by decide)]; exact c2, p1, p2, p4.1, by omega⟩
theorem lm_rounds (n k : Nat) (M : mS) (a0 : Int32) (hk : k < 512) (h : MI n k M) : wp_rounds a0 M (fun M1 r => MI n (k + 1) M1) := by
  obtain ⟨a, b, hx, cd, nt, nw, na, ty, P, c1, c2, c3, c4, c5, c6⟩ := h
  have q0 : (0 : Int32).toInt = 0 := rfl
  have q1 : (1 : Int32).toInt = 1 := rfl
  have q4 : (400 : Int32).toInt = 400 := rfl
  have tn0 := c5.2.2.2.2.2.2.2.1
  have key : wp_rounds a0 M (fun M1 r => (∃ P1 : mS, FWt hx cd nt nw na ty P1 ∧ CE ((P1.2.1 7)) ∧ (P1.1 60).toInt ≤ 401 * k + 400 ∧ RD hx cd nt nw ty P1 M1) ) := by
    unfold wp_rounds
    intro S1 e1
    have bb := b.2.2.2.2.2
    have r1 : RD hx cd nt nw ty P S1 := ⟨W0_nw (NW_z e1 (by decide)) c5, by rw [e1]; exact bb.1, by rw [e1]; exact bb.2⟩
    have o1 : ∃ P1 : mS, FWt hx cd nt nw na ty P1 ∧ CE ((P1.2.1 7)) ∧ (P1.1 60).toInt ≤ 401 * k + 400 ∧ RD hx cd nt nw ty P1 S1 := ⟨P, c3, c4, by omega, r1⟩
    refine ⟨fun _ => o1, fun c => ⟨fun c4' => ?_, fun _ => o1⟩⟩
    have h4 := w_le c4'
    rw [q4] at h4
    refine it_rule (fun w : Int32 × Int32 × mS => w.1 = a0 ∧ 0 ≤ w.2.1.toInt ∧ w.2.1.toInt ≤ 400 ∧ (w.2.2.1 5).toInt = hx ∧ 0 ≤ (w.2.2.1 24).toInt ∧ ∃ P1 : mS, FWt hx cd nt nw na ty P1 ∧ CE ((P1.2.1 7)) ∧ (P1.1 60).toInt ≤ 401 * k + w.2.1.toInt ∧ RD hx cd nt nw ty P1 w.2.2) (fun w => (400 - w.2.1.toInt).toNat) ?_ ⟨rfl, (show (0 : Int) ≤ (0 : Int32).toInt by decide), (show (0 : Int32).toInt ≤ (400 : Int) by decide), by show (S1.1 5).toInt = hx; rw [e1]; exact c2, by show 0 ≤ (S1.1 24).toInt; rw [e1]; exact b.2.2.2.2.1.1, P, c3, c4, by show (P.1 60).toInt ≤ 401 * k + (0 : Int32).toInt; omega, r1⟩
    rintro ⟨x1, x2, X⟩ kk hI hk2
    obtain ⟨i1, i2, i3, i4, i5, P1, i6, i7, i8, i9⟩ := hI
    have i1 : x1 = a0 := i1
    have i2 : 0 ≤ x2.toInt := i2
    have i3 : x2.toInt ≤ 400 := i3
    have i4 : (X.1 5).toInt = hx := i4
    have i5 : 0 ≤ (X.1 24).toInt := i5
    have i8 : (P1.1 60).toInt ≤ 401 * k + x2.toInt := i8
    have i9 : RD hx cd nt nw ty P1 X := i9
    show wp_rounds_20 _ kk x1 x2 X
    rw [i1]
    unfold wp_rounds_20
    have oX : ∃ P1 : mS, FWt hx cd nt nw na ty P1 ∧ CE ((P1.2.1 7)) ∧ (P1.1 60).toInt ≤ 401 * k + 400 ∧ RD hx cd nt nw ty P1 X := ⟨P1, i6, i7, by omega, i9⟩
    refine ⟨fun _ => oX, fun c2' => ⟨fun _ => oX, fun c3' => ⟨⟨by decide, by decide⟩, fun z6 e6 => ?_⟩⟩⟩
    have hx2 : x2.toInt < 400 := by
      rcases Int.lt_or_le x2.toInt a0.toInt with g | g
      · omega
      · exact absurd (Int32.le_iff_toInt_le.mpr g) c2'
    have hr : 0 < (X.1 23).toInt := by
      rcases Int.lt_or_le 0 (X.1 23).toInt with g | g
      · exact g
      · exact absurd (Int32.le_iff_toInt_le.mpr (by rw [q0]; exact g)) c3'
    have tn1 := i9.1.2.2.2.2.2.2.2.1
    obtain ⟨b9, hb9, _⟩ := ofn ((P1.1 60).toInt + 1).toNat (by omega)
    rw [e6]
    refine one_run 0 b9 c1 i7 i6 i4 i5 i9.1 ⟨by decide, by rw [q0]; exact hr⟩ (by omega) i9.2.1 i9.2.2 (fun S8 q g5 g24 z9 e9 => ?_)
    have h9 := w_add e9 (by rw [q1]; omega)
    rw [q1] at h9
    refine hk2 (a0, z9, S8) ⟨rfl, by show 0 ≤ z9.toInt; omega, by show z9.toInt ≤ 400; omega, by show (S8.1 5).toInt = hx; rw [g5]; exact i4, by show 0 ≤ (S8.1 24).toInt; rw [g24]; exact i5, bmp P1 b9, i6, i7, by show ((bmp P1 b9).1 60).toInt ≤ 401 * k + z9.toInt; rw [bmp_60]; omega, q⟩ (by show (400 - z9.toInt).toNat < (400 - x2.toInt).toNat; omega)
  refine fm_rounds _ _ _ _ (fun M1 r f p => ?_) key
  obtain ⟨P1, p1, p2, p3, p4⟩ := p
  obtain ⟨b1, b2, b3, b4, b5, b6, b7⟩ := b
  exact ⟨⟨by rw [f.1 1 (by decide)]; exact a.1, a.2⟩, ⟨by rw [f.2.2 4 (by decide)]; exact b1, by rw [f.2.1 8 (by decide)]; exact b2, by rw [f.2.1 7 (by decide)]; exact b3, by rw [f.1 20 (by decide)]; exact b4, by rw [f.1 24 (by decide)]; exact ⟨b5.1, by omega⟩, p4.2.1, p4.2.2⟩, hx, cd, nt, nw, na, ty, P1, c1, by rw [f.1 5 (by decide)]; exact c2, p1, p2, p4.1, by omega⟩
