
section LKt
variable {S S1 : kS} {x o n0 n k : Nat}
theorem lk_routine {a0 a1 : Int32} (hk : k < 512) (g : KIx x o n0 n k S) : wp_L_routine x a0 a1 o S (fun S1 _ => KIx x o n0 n (k + 1) S1 ∧ cnt S ≤ cnt S1) := by
  have g1 := KIx_k (k1 := k + 1) g (by omega)
  obtain ⟨r, h, pg, sc, tk, pr, tb, p2, s2, N, V, g⟩ := g
  have g0 := g
  obtain ⟨⟨w, hx, ho⟩, ⟨e1, e2, e3, e4, e5, e6, e7⟩, _, ⟨q1, qS⟩, ⟨q2, q3⟩, ⟨q4, q5, q6⟩, q7, b⟩ := g
  obtain ⟨_, T, U, L, D, P, W, bx⟩ := b
  have ev := ENV_v bx.1
  refine ⟨hx, ty_X11_routine (K := fun S1 _ => S = S1) hx w (fun S1 r1 hW hb => ?_) ?_⟩
  · subst hb
    cases r1 with
    | none => exact ⟨g1, Nat.le_refl _⟩
    | some v =>
      refine ⟨ho, fun S2 e2 => ?_⟩
      have f : HF [] [] [] [] S S2 := by
        rw [e2]
        exact ⟨fun _ _ => rfl, fun _ _ => rfl, fun _ _ => rfl, fun _ _ => rfl, rfl⟩
      have w2 : WT S2.2.2.2.2.2 S2 := by
        rw [e2]
        exact w
      refine ⟨⟨r, h, pg, sc, tk, pr, tb, p2, s2, N, V, KST_k (KST_q g0 w2 (HF_s f (by decide) (by decide) (by decide) (by decide)) (pv_f f (by decide) (by decide)) ⟨RGS_f q2 f (by decide), RGS_f q3 f (by decide)⟩ ⟨by rw [f.1 41 (by decide)]; exact q4, q5, by unfold TQS; rw [f.1 40 (by decide), f.2.2.1 64 (by decide), f.2.2.1 65 (by decide)]; exact q6⟩) (by omega)⟩, ?_⟩
      unfold cnt
      rw [f.2.2.2.2]
      exact Nat.le_refl _
  · have r1 : (S.1 18 pg).toInt ≤ 12 := by
      have y := q1.2.1.2
      rw [← ev] at y
      exact y
    have z0 : (0 : Int32).toInt = 0 := rfl
    unfold wT_X11_routine wT_X11_routine_20
    intro z1 e1'
    refine ⟨pg, e1'.trans e6, ?_⟩
    unfold wT_X5_has
    refine ⟨fun _ => ⟨fun _ => rfl, fun c => absurd rfl c⟩, fun c0 => ?_⟩
    intro z2 e2'
    refine ⟨fun _ => ⟨fun _ => rfl, fun c => absurd rfl c⟩, fun c1 => ⟨fun c => absurd c (by decide), fun _ => ⟨fun _ => rfl, fun c2 => ⟨fun c3 => ?_, fun _ => rfl⟩⟩⟩⟩
    have h0 : 0 ≤ a0.toInt := by
      have y := c0
      rw [Int32.lt_iff_toInt_lt] at y
      omega
    have h1 : a0.toInt < 12 := by
      have y := c1
      rw [Int32.le_iff_toInt_le, e2'] at y
      omega
    refine ⟨fun _ => ⟨fun _ => ?_, fun _ => ?_⟩, fun _ => ?_⟩
    · intro z9 e9
      refine ⟨pg, e9.trans e6, ?_⟩
      intro z11 e11 q12 e12
      exact ⟨⟨h0, h1⟩, fun z13 _ z14 _ => rfl⟩
    · intro z9 e9
      refine ⟨pg, e9.trans e6, ?_⟩
      intro z11 e11 q12 e12
      exact ⟨⟨h0, h1⟩, fun z13 _ => rfl⟩
    · intro z9 e9
      refine ⟨pg, e9.trans e6, ?_⟩
      intro z11 e11 q12 e12
      exact ⟨⟨h0, h1⟩, fun z13 _ => rfl⟩
theorem lk_task {a0 a1 : Int32} (hk : k < 512) (g : KIx x o n0 n k S) : wp_L_task x a0 a1 o S (fun S1 _ => KIx x o n0 n (k + 1) S1 ∧ cnt S ≤ cnt S1) := by
  have g1 := KIx_k (k1 := k + 1) g (by omega)
  obtain ⟨r, h, pg, sc, tk, pr, tb, p2, s2, N, V, g⟩ := g
  have g0 := g
  obtain ⟨⟨w, hx, ho⟩, ⟨e1, e2, e3, e4, e5, e6, e7⟩, _, ⟨q1, qS⟩, ⟨q2, q3⟩, ⟨q4, q5, q6⟩, q7, b⟩ := g
  obtain ⟨_, T, U, L, D, P, W, bx⟩ := b
  have ev := ENV_v bx.1
  refine ⟨hx, ty_X11_task (K := fun S1 _ => S = S1) hx w (fun S1 r1 hW hb => ?_) ?_⟩
  · subst hb
    cases r1 with
    | none => exact ⟨g1, Nat.le_refl _⟩
    | some v =>
      refine ⟨ho, fun S2 e2 => ?_⟩
      have f : HF [] [] [] [] S S2 := by
        rw [e2]
        exact ⟨fun _ _ => rfl, fun _ _ => rfl, fun _ _ => rfl, fun _ _ => rfl, rfl⟩
      have w2 : WT S2.2.2.2.2.2 S2 := by
        rw [e2]
        exact w
      refine ⟨⟨r, h, pg, sc, tk, pr, tb, p2, s2, N, V, KST_k (KST_q g0 w2 (HF_s f (by decide) (by decide) (by decide) (by decide)) (pv_f f (by decide) (by decide)) ⟨RGS_f q2 f (by decide), RGS_f q3 f (by decide)⟩ ⟨by rw [f.1 41 (by decide)]; exact q4, q5, by unfold TQS; rw [f.1 40 (by decide), f.2.2.1 64 (by decide), f.2.2.1 65 (by decide)]; exact q6⟩) (by omega)⟩, ?_⟩
      unfold cnt
      rw [f.2.2.2.2]
      exact Nat.le_refl _
  · have hi := bx.2.2.2.2.2.2.1
    have t2 := hi.1.2.1
    have z0 : (0 : Int32).toInt = 0 := rfl
    unfold wT_X11_task wT_X11_task_21
    intro z1 e1' q2' e2'
    obtain rfl : h = q2' := Option.some.inj (e4.symm.trans (e1'.symm.trans e2'))
    unfold wT_X1_has
    refine ⟨fun _ => ⟨fun _ => rfl, fun c => absurd rfl c⟩, fun c0 => ?_⟩
    intro z2 e2''
    refine ⟨fun _ => ⟨fun _ => rfl, fun c => absurd rfl c⟩, fun c1 => ⟨fun c => absurd c (by decide), fun _ => ⟨fun _ => rfl, fun c2 => ?_⟩⟩⟩
    have h0 : 0 ≤ a0.toInt := by
      have y := c0
      rw [Int32.lt_iff_toInt_lt] at y
      omega
    have h1 : a0.toInt < (S.1 1 h).toInt := by
      have y := c1
      rw [Int32.le_iff_toInt_le, e2''] at y
      omega
    obtain ⟨t9, et, lt, _⟩ := tl_i hi.1 h0 h1
    refine ⟨fun _ => ?_, fun _ => rfl⟩
    intro z7 e7' q8 e8'
    obtain rfl : h = q8 := Option.some.inj (e4.symm.trans (e7'.symm.trans e8'))
    intro z9 e9 q10 e10
    refine ⟨⟨h0, by show a0.toInt < 200; omega⟩, ?_⟩
    intro z11 e11
    refine ⟨t9, e11.trans ((qa_rd (Z := []) (S0 := S) FX_rf (by decide) (by decide) (e9.symm.trans e10)).trans et), ?_⟩
    unfold wT_X9_tell
    refine ⟨fun _ _ _ => rfl, fun _ => ⟨fun _ _ _ => rfl, fun _ => ⟨fun _ _ _ => rfl, fun _ => ⟨fun _ => ?_, fun _ => ⟨fun _ _ _ => rfl, fun _ => ⟨fun _ _ _ => rfl, fun _ => ⟨fun _ _ _ => rfl, fun _ _ _ => ⟨fun _ => rfl, fun _ => rfl⟩⟩⟩⟩⟩⟩⟩⟩
    intro z8 e8
    refine ⟨fun _ => rfl, fun q9 c9 => ?_⟩
    intro z10 e10'
    exact ⟨q9, e10'.trans (e8.symm.trans c9), fun _ _ => rfl⟩
theorem lk_cell {a0 a1 : Int32} (hk : k < 512) (g : KIx x o n0 n k S) : wp_L_cell x a0 a1 o S (fun S1 _ => KIx x o n0 n (k + 1) S1 ∧ cnt S ≤ cnt S1) := by
  have g1 := KIx_k (k1 := k + 1) g (by omega)
  obtain ⟨r, h, pg, sc, tk, pr, tb, p2, s2, N, V, g⟩ := g
  have g0 := g
  obtain ⟨⟨w, hx, ho⟩, ⟨e1, e2, e3, e4, e5, e6, e7⟩, _, ⟨q1, qS⟩, ⟨q2, q3⟩, ⟨q4, q5, q6⟩, q7, b⟩ := g
  obtain ⟨_, T, U, L, D, P, W, bx⟩ := b
  have ev := ENV_v bx.1
  refine ⟨hx, ty_X11_cell (K := fun S1 _ => S = S1) hx w (fun S1 r1 hW hb => ?_) ?_⟩
  · subst hb
    cases r1 with
    | none => exact ⟨g1, Nat.le_refl _⟩
    | some v =>
      refine ⟨ho, fun S2 e2 => ?_⟩
      have f : HF [] [] [] [] S S2 := by
        rw [e2]
        exact ⟨fun _ _ => rfl, fun _ _ => rfl, fun _ _ => rfl, fun _ _ => rfl, rfl⟩
      have w2 : WT S2.2.2.2.2.2 S2 := by
        rw [e2]
        exact w
      refine ⟨⟨r, h, pg, sc, tk, pr, tb, p2, s2, N, V, KST_k (KST_q g0 w2 (HF_s f (by decide) (by decide) (by decide) (by decide)) (pv_f f (by decide) (by decide)) ⟨RGS_f q2 f (by decide), RGS_f q3 f (by decide)⟩ ⟨by rw [f.1 41 (by decide)]; exact q4, q5, by unfold TQS; rw [f.1 40 (by decide), f.2.2.1 64 (by decide), f.2.2.1 65 (by decide)]; exact q6⟩) (by omega)⟩, ?_⟩
      unfold cnt
      rw [f.2.2.2.2]
      exact Nat.le_refl _
  · have hi := bx.2.2.2.2.2.2.1
    have t2 := hi.1.2.1
    have z0 : (0 : Int32).toInt = 0 := rfl
    unfold wT_X11_cell wT_X11_cell_39
    intro z1 e1' q2' e2'
    obtain rfl : h = q2' := Option.some.inj (e4.symm.trans (e1'.symm.trans e2'))
    unfold wT_X1_has
    refine ⟨fun _ => ⟨fun _ => rfl, fun c => absurd rfl c⟩, fun c0 => ?_⟩
    intro z2 e2''
    refine ⟨fun _ => ⟨fun _ => rfl, fun c => absurd rfl c⟩, fun c1 => ⟨fun c => absurd c (by decide), fun _ => ⟨fun _ => rfl, fun c2 => ?_⟩⟩⟩
    have h0 : 0 ≤ a0.toInt := by
      have y := c0
      rw [Int32.lt_iff_toInt_lt] at y
      omega
    have h1 : a0.toInt < (S.1 1 h).toInt := by
      have y := c1
      rw [Int32.le_iff_toInt_le, e2''] at y
      omega
    obtain ⟨t9, et, lt, _⟩ := tl_i hi.1 h0 h1
    have tr := bx.2.2.2.2.1 t9 lt
    intro z6 e6'
    refine ⟨pg, e6'.trans e6, ?_⟩
    intro z8 e8 z9 e9 q10 e10
    obtain rfl : h = q10 := Option.some.inj (e4.symm.trans (e9.symm.trans e10))
    intro z11 e11 q12 e12
    refine ⟨⟨h0, by show a0.toInt < 200; omega⟩, ?_⟩
    intro z13 e13
    refine ⟨t9, e13.trans ((qa_rd (Z := []) (S0 := S) FX_rf (by decide) (by decide) (e11.symm.trans e12)).trans et), ?_⟩
    intro z15 e15 q16 e16
    refine ⟨by rw [e15]; exact ⟨tr.2.2.1, tr.2.2.2⟩, ?_⟩
    intro z17 e17
    refine ⟨fun _ => ?_, fun _ => rfl⟩
    intro z19 e19 q20 e20
    obtain rfl : h = q20 := Option.some.inj (e4.symm.trans (e19.symm.trans e20))
    intro z21 e21 q22 e22
    refine ⟨⟨h0, by show a0.toInt < 200; omega⟩, ?_⟩
    intro z23 e23
    refine ⟨t9, e23.trans ((qa_rd (Z := []) (S0 := S) FX_rf (by decide) (by decide) (e21.symm.trans e22)).trans et), ?_⟩
    unfold wT_X9_look
    refine ⟨fun _ => rfl, fun c5 => ⟨fun _ => rfl, fun c6 => ?_⟩⟩
    intro z3 e3' q4' e4'
    refine ⟨⟨?_, ?_⟩, fun _ _ => rfl⟩
    · have y := c5
      rw [Int32.lt_iff_toInt_lt] at y
      omega
    · have y := c6
      rw [Int32.le_iff_toInt_le, show (12 : Int32).toInt = 12 from rfl] at y
      show a1.toInt < 12
      omega
end LKt
theorem LawK_KI {x o n0 : Nat} : LawK x o n0 (KIx x o n0) := ⟨fun _ _ _ g => lk_has g, fun _ _ _ g => KIx_k g (Nat.le_succ _), fun _ _ _ _ _ _ hk g => lk_feed hk g, fun _ _ _ hk g => lk_program hk g, fun _ _ _ _ hk g => lk_named hk g, fun _ _ _ _ _ hk g => lk_routine hk g, fun _ _ _ _ _ _ hk g => lk_live hk g, fun _ _ _ _ _ _ hk g => lk_next hk g, fun _ _ _ _ _ _ _ _ hk g => lk_begin hk g, fun _ _ _ _ hk g => lk_turn hk g, fun _ _ _ _ hk g => lk_rounds hk g, fun _ _ _ _ _ hk g => lk_letter hk g, fun _ _ _ _ hk g => lk_tick hk g, fun _ _ _ _ hk g => lk_cancel hk g, fun _ _ _ _ _ hk g => lk_task hk g, fun _ _ _ _ _ hk g => lk_cell hk g, fun _ _ _ _ hk g => lk_row hk g, fun _ _ _ _ _ hk g => lk_put hk g, fun _ _ _ _ _ hk g => lk_lost hk g, fun _ _ _ _ _ hk g => lk_box hk g, fun _ _ _ _ _ hk g => lk_stands hk g, fun _ _ _ _ hk g => lk_count hk g⟩
