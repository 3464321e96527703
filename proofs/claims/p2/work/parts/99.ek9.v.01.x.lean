
section LKs
variable {S S1 : kS} {x o r h pg sc tk pr tb p2 s2 n0 : Nat} {N : Nat → Prop} {V : PV} {c0 : Int} {n n1 k : Nat}
theorem KST_q (g : KST x o r h pg sc tk pr tb p2 s2 N V c0 n k S) (hw : WT S1.2.2.2.2.2 S1) (f : HF [6, 7, 8, 9, 10, 11, 17, 18, 24, 25, 26, 27, 40, 41] [15, 16, 55] [17, 18, 19, 28, 29, 30, 32, 33, 34, 35, 36, 37, 43, 44, 45, 46, 47, 48, 49, 50, 51, 52, 53, 54, 67, 64, 65] [] S S1) (hp : pv pg sc S1 = pv pg sc S) (hr : RGS pr pg sc S1 ∧ RGS pr p2 s2 S1) (ht : S1.1 41 tk = nI n1 ∧ n1 ≤ 4000 ∧ TQS tk S1) : KST x o r h pg sc tk pr tb p2 s2 N V c0 n1 k S1 := by
  obtain ⟨⟨w, hx, ho⟩, ⟨e1, e2, e3, e4, e5, e6, e7⟩, ⟨e8, e9, e10, e11⟩, q1, _, _, q7, b⟩ := g
  exact ⟨⟨hw, by rw [f.2.2.2.2]; exact hx, by rw [f.2.2.2.2]; exact ho⟩, ⟨by rw [f.2.1 69 (by decide)]; exact e1, by rw [f.2.1 70 (by decide)]; exact e2, by rw [f.2.1 71 (by decide)]; exact e3, by rw [f.2.1 72 (by decide)]; exact e4, by rw [f.2.1 73 (by decide)]; exact e5, by rw [f.2.1 74 (by decide)]; exact e6, by rw [f.2.1 75 (by decide)]; exact e7⟩, ⟨by rw [f.2.1 31 (by decide)]; exact e8, by rw [f.2.1 14 (by decide)]; exact e9, e10, e11⟩, q1, hr, ht, by rw [f.2.1 8 (by decide), f.2.2.2.1 7 (by decide)]; exact q7, BTW_p b f hp (by rw [f.2.1 31 (by decide)])⟩
theorem RGS_f {zi zr fa fq : List Nat} {a b c : Nat} (hh : RGS a b c S) (f : HF zi zr fa fq S S1) (ha : dis9 [17, 30, 35, 36, 37, 43, 44, 45] fa = true) : RGS a b c S1 := by
  unfold RGS
  rw [f.2.2.1 17 (dis9_m ha (by decide)), f.2.2.1 30 (dis9_m ha (by decide)), f.2.2.1 35 (dis9_m ha (by decide)), f.2.2.1 36 (dis9_m ha (by decide)), f.2.2.1 37 (dis9_m ha (by decide)), f.2.2.1 43 (dis9_m ha (by decide)), f.2.2.1 44 (dis9_m ha (by decide)), f.2.2.1 45 (dis9_m ha (by decide))]
  exact hh
/-- between two calls: n signs on the tape, k calls behind -/
def KIx (x o n0 n k : Nat) (S : kS) : Prop := ∃ r h pg sc tk pr tb p2 s2 N V, KST x o r h pg sc tk pr tb p2 s2 N V (n0 : Int) n k S
theorem KIx_k {k1 : Nat} (g : KIx x o n0 n k S) (hk : k ≤ k1) : KIx x o n0 n k1 S := by
  obtain ⟨r, h, pg, sc, tk, pr, tb, p2, s2, N, V, g⟩ := g
  exact ⟨r, h, pg, sc, tk, pr, tb, p2, s2, N, V, KST_k g hk⟩
theorem wt_s {d : List (Nat × cK)} (h : WT d S) : WT S.2.2.2.2.2 S := by rw [h.1]; exact h
theorem cn_e {d : List (Nat × cK)} (h : WT d S1) (e : S.2.2.2.2.2 = d) : cnt S ≤ cnt S1 := by
  unfold cnt
  rw [h.1, e]
  exact Nat.le_refl _
theorem lk_has (g : KIx x o n0 n k S) : hasO S x 11 ∧ n0 ≤ cnt S ∧ cnt S ≤ n0 + 101000 := by
  obtain ⟨r, h, pg, sc, tk, pr, tb, p2, s2, N, V, ⟨_, hx, _⟩, _, _, _, _, _, _, _, T, U, L, D, P, W, _, ⟨k9, k1, k2, _, k4⟩, b19, _⟩ := g
  have := b19.2
  exact ⟨hx, by omega, by omega⟩
theorem lk_turn {a0 : Int32} (hk : k < 512) (g : KIx x o n0 n k S) : wp_X11_turn x a0 S (fun S1 _ => KIx x o n0 n (k + 1) S1) := by
  obtain ⟨r, h, pg, sc, tk, pr, tb, p2, s2, N, V, g⟩ := g
  have g0 := g
  obtain ⟨⟨w, hx, ho⟩, ⟨e1, e2, e3, e4, e5, e6, e7⟩, _, ⟨q1, qS⟩, _, _, q7, b⟩ := g
  exact ty_X11_turn (K := fun S1 _ => BTW r h pg sc N V S (n0 : Int) (400 * (k : Int) + 1) S1) hx w (fun d1 S1 r1 _ hW hb => ⟨r, h, pg, sc, tk, pr, tb, p2, s2, N, V, KST_z g0 (wt_s hW) hb (by omega)⟩) (sk_X11_turn q1 e5 b (by omega) (fun S1 r1 hb => hb))
theorem lk_rounds {a0 : Int32} (hk : k < 512) (g : KIx x o n0 n k S) : wp_X11_rounds x a0 S (fun S1 _ => KIx x o n0 n (k + 1) S1) := by
  obtain ⟨r, h, pg, sc, tk, pr, tb, p2, s2, N, V, g⟩ := g
  have g0 := g
  obtain ⟨⟨w, hx, ho⟩, ⟨e1, e2, e3, e4, e5, e6, e7⟩, _, ⟨q1, qS⟩, _, _, q7, b⟩ := g
  exact ty_X11_rounds (K := fun S1 _ => BTW r h pg sc N V S (n0 : Int) (400 * (k : Int) + 400) S1) hx w (fun d1 S1 r1 _ hW hb => ⟨r, h, pg, sc, tk, pr, tb, p2, s2, N, V, KST_z g0 (wt_s hW) hb (by omega)⟩) (sk_X11_rounds q1 hx e5 b (by omega) (fun S1 r1 hb => hb))
theorem lk_begin {a0 a1 a2 a3 a4 : Int32} (hk : k < 512) (g : KIx x o n0 n k S) : wp_X11_begin x a0 a1 a2 a3 a4 S (fun S1 _ => KIx x o n0 n (k + 1) S1) := by
  obtain ⟨r, h, pg, sc, tk, pr, tb, p2, s2, N, V, g⟩ := g
  have g0 := g
  obtain ⟨⟨w, hx, ho⟩, ⟨e1, e2, e3, e4, e5, e6, e7⟩, _, ⟨q1, qS⟩, _, _, q7, b⟩ := g
  exact ty_X11_begin (K := fun S1 _ => BTW r h pg sc N V S (n0 : Int) (400 * (k : Int)) S1) hx w (fun d1 S1 r1 _ hW hb => ⟨r, h, pg, sc, tk, pr, tb, p2, s2, N, V, KST_z g0 (wt_s hW) hb (by omega)⟩) (sk_X11_begin q1 (by omega) hx e6 e4 b (fun S1 r1 hb => hb))
theorem lk_letter {a0 a1 : Int32} (hk : k < 512) (g : KIx x o n0 n k S) : wp_X11_letter x a0 a1 S (fun S1 _ => KIx x o n0 n (k + 1) S1 ∧ cnt S ≤ cnt S1) := by
  obtain ⟨r, h, pg, sc, tk, pr, tb, p2, s2, N, V, g⟩ := g
  have g0 := g
  obtain ⟨⟨w, hx, ho⟩, ⟨e1, e2, e3, e4, e5, e6, e7⟩, _, ⟨q1, qS⟩, _, _, q7, b⟩ := g
  exact ty_X11_letter (K := fun S1 _ => BTW r h pg sc N V S (n0 : Int) (400 * (k : Int)) S1) hx w (fun S1 r1 hW hb => ⟨⟨r, h, pg, sc, tk, pr, tb, p2, s2, N, V, KST_z g0 (wt_s hW) hb (by omega)⟩, cn_e hW rfl⟩) (sk_X11_letter e4 b (fun S1 r1 hb => hb))
theorem lk_tick {a0 : Int32} (hk : k < 512) (g : KIx x o n0 n k S) : wp_X11_tick x a0 S (fun S1 _ => KIx x o n0 n (k + 1) S1 ∧ cnt S ≤ cnt S1) := by
  obtain ⟨r, h, pg, sc, tk, pr, tb, p2, s2, N, V, g⟩ := g
  have g0 := g
  obtain ⟨⟨w, hx, ho⟩, ⟨e1, e2, e3, e4, e5, e6, e7⟩, _, ⟨q1, qS⟩, _, _, q7, b⟩ := g
  exact ty_X11_tick (K := fun S1 _ => BTW r h pg sc N V S (n0 : Int) (400 * (k : Int)) S1) hx w (fun S1 r1 hW hb => ⟨⟨r, h, pg, sc, tk, pr, tb, p2, s2, N, V, KST_z g0 (wt_s hW) hb (by omega)⟩, cn_e hW rfl⟩) (sk_X11_tick e4 b (fun S1 r1 hb => hb))
theorem lk_cancel {a0 : Int32} (hk : k < 512) (g : KIx x o n0 n k S) : wp_X11_cancel x a0 S (fun S1 _ => KIx x o n0 n (k + 1) S1 ∧ cnt S ≤ cnt S1) := by
  obtain ⟨r, h, pg, sc, tk, pr, tb, p2, s2, N, V, g⟩ := g
  have g0 := g
  obtain ⟨⟨w, hx, ho⟩, ⟨e1, e2, e3, e4, e5, e6, e7⟩, _, ⟨q1, qS⟩, _, _, q7, b⟩ := g
  exact ty_X11_cancel (K := fun S1 _ => BTW r h pg sc N V S (n0 : Int) (400 * (k : Int)) S1) hx w (fun S1 r1 hW hb => ⟨⟨r, h, pg, sc, tk, pr, tb, p2, s2, N, V, KST_z g0 (wt_s hW) hb (by omega)⟩, cn_e hW rfl⟩) (sk_X11_cancel e4 b (fun S1 r1 hb => hb))
theorem lk_feed {a0 a1 a2 : Int64} (hk : k < 512) (g : KIx x o n0 n k S) : wp_X11_feed x a0 a1 a2 S (fun S1 r1 => KIx x o n0 (min 4000 (n + (fs_n a0 8 + fs_n a1 8 + fs_n a2 8))) (k + 1) S1 ∧ r1 = nI (min 4000 (n + (fs_n a0 8 + fs_n a1 8 + fs_n a2 8))) ∧ cnt S ≤ cnt S1) := by
  obtain ⟨r, h, pg, sc, tk, pr, tb, p2, s2, N, V, g⟩ := g
  have g0 := g
  obtain ⟨⟨w, hx, ho⟩, ⟨e1, e2, e3, e4, e5, e6, e7⟩, _, _, ⟨q2, q3⟩, ⟨q4, q5, q6⟩, q7, b⟩ := g
  have I : INJ S := by
    obtain ⟨_, T, U, L, D, P, W, bx⟩ := b
    exact bx.2.2.2.2.2.2.2.2.1
  refine ty_X11_feed (K := fun S1 r1 => HF [41] [] [67] [] S S1 ∧ S1.1 41 tk = nI (min 4000 (n + (fs_n a0 8 + fs_n a1 8 + fs_n a2 8))) ∧ r1 = nI (min 4000 (n + (fs_n a0 8 + fs_n a1 8 + fs_n a2 8)))) hx w (fun S1 r1 hW hb => ⟨?_, hb.2.2, cn_e hW rfl⟩) (sk_X11_feed I e1 q5 q4 (fun S1 f h9 => ⟨f, h9, rfl⟩))
  have f := hb.1
  exact ⟨r, h, pg, sc, tk, pr, tb, p2, s2, N, V, KST_k (KST_q g0 (wt_s hW) (HF_s f (by decide) (by decide) (by decide) (by decide)) (pv_f f (by decide) (by decide)) ⟨RGS_f q2 f (by decide), RGS_f q3 f (by decide)⟩ ⟨hb.2.1, by omega, by unfold TQS; rw [f.1 40 (by decide), f.2.2.1 64 (by decide), f.2.2.1 65 (by decide)]; exact q6⟩) (by omega)⟩
theorem lk_named {a0 : Int32} (hk : k < 512) (g : KIx x o n0 n k S) : wp_X11_named x a0 S (fun S1 _ => KIx x o n0 0 (k + 1) S1 ∧ cnt S ≤ cnt S1) := by
  obtain ⟨r, h, pg, sc, tk, pr, tb, p2, s2, N, V, g⟩ := g
  have g0 := g
  obtain ⟨⟨w, hx, ho⟩, ⟨e1, e2, e3, e4, e5, e6, e7⟩, _, ⟨q1, qS⟩, ⟨q2, q3⟩, ⟨q4, q5, q6⟩, q7, b⟩ := g
  obtain ⟨_, T, U, L, D, P, W, bx⟩ := b
  have I := bx.2.2.2.2.2.2.2.2.1
  have ev := ENV_v bx.1
  have nn : (nI n).toInt = (n : Int) := nI_toInt (by omega)
  refine ty_X11_named (K := fun S1 _ => HF [40, 41] [] [64, 65] [] S S1 ∧ TQS tk S1 ∧ S1.1 41 tk = 0) hx w (fun S1 r1 hW hb => ⟨?_, cn_e hW rfl⟩) (sk_X11_named I e1 e6 q6 (by rw [q4, nn]; omega) q2.1 (by have y := q1.2.1; rw [← ev] at y; exact y) (fun S1 r1 f h1 h2 => ⟨f, h1, h2⟩))
  have f := hb.1
  exact ⟨r, h, pg, sc, tk, pr, tb, p2, s2, N, V, KST_k (KST_q g0 (wt_s hW) (HF_s f (by decide) (by decide) (by decide) (by decide)) (pv_f f (by decide) (by decide)) ⟨RGS_f q2 f (by decide), RGS_f q3 f (by decide)⟩ ⟨hb.2.2.trans rfl, Nat.zero_le _, hb.2.1⟩) (by omega)⟩
theorem lk_program (hk : k < 512) (g : KIx x o n0 n k S) : wp_X11_program x S (fun S1 _ => KIx x o n0 0 (k + 1) S1 ∧ cnt S ≤ cnt S1) := by
  obtain ⟨r, h, pg, sc, tk, pr, tb, p2, s2, N, V, g⟩ := g
  refine ty_X11_program (K := fun S1 _ => WT S1.2.2.2.2.2 S1 → (∃ V1, KST x o r h pg sc tk pr tb p2 s2 N V1 (n0 : Int) 0 k S1) ∨ ∃ V1, KST x o r h p2 s2 tk pr tb pg sc N V1 (n0 : Int) 0 k S1) g.1.2.1 g.1.1 (fun S1 r1 hW hb => ⟨?_, cn_e hW rfl⟩) (sk_X11_program g (fun S1 r1 hh => hh))
  rcases hb (wt_s hW) with ⟨V1, g1⟩ | ⟨V1, g1⟩
  · exact ⟨r, h, pg, sc, tk, pr, tb, p2, s2, N, V1, KST_k g1 (by omega)⟩
  · exact ⟨r, h, p2, s2, tk, pr, tb, pg, sc, N, V1, KST_k g1 (by omega)⟩
theorem lk_row {a0 : Int32} (hk : k < 512) (g : KIx x o n0 n k S) : wp_X11_row x a0 S (fun S1 _ => KIx x o n0 n (k + 1) S1 ∧ cnt S ≤ cnt S1) := by
  have g1 := KIx_k (k1 := k + 1) g (by omega)
  obtain ⟨r, h, pg, sc, tk, pr, tb, p2, s2, N, V, g⟩ := g
  obtain ⟨⟨w, hx, ho⟩, ⟨e1, e2, e3, e4, e5, e6, e7⟩, _, ⟨q1, qS⟩, _, _, q7, b⟩ := g
  obtain ⟨_, T, U, L, D, P, W, bx⟩ := b
  have I := bx.2.2.2.2.2.2.2.2.1
  have hi := bx.2.2.2.2.2.2.1
  refine ty_X11_row (K := fun S1 _ => S = S1) hx w (fun S1 r1 hW hb => ?_) (sk_X11_row (h := h) _ _ I e4 hi.2.2.2.2.2.1.1.2.1)
  subst hb
  exact ⟨g1, Nat.le_refl _⟩
theorem lk_put {a0 a1 : Int32} (hk : k < 512) (g : KIx x o n0 n k S) : wp_X11_put x a0 a1 S (fun S1 _ => KIx x o n0 n (k + 1) S1 ∧ cnt S ≤ cnt S1) := by
  have g1 := KIx_k (k1 := k + 1) g (by omega)
  obtain ⟨r, h, pg, sc, tk, pr, tb, p2, s2, N, V, g⟩ := g
  obtain ⟨⟨w, hx, ho⟩, ⟨e1, e2, e3, e4, e5, e6, e7⟩, _, ⟨q1, qS⟩, _, _, q7, b⟩ := g
  obtain ⟨_, T, U, L, D, P, W, bx⟩ := b
  have I := bx.2.2.2.2.2.2.2.2.1
  have hi := bx.2.2.2.2.2.2.1
  refine ty_X11_put (K := fun S1 _ => S = S1) hx w (fun S1 r1 hW hb => ?_) (sk_X11_put _ _ _ I)
  subst hb
  exact ⟨g1, Nat.le_refl _⟩
theorem lk_lost {a0 a1 : Int32} (hk : k < 512) (g : KIx x o n0 n k S) : wp_X11_lost x a0 a1 S (fun S1 _ => KIx x o n0 n (k + 1) S1 ∧ cnt S ≤ cnt S1) := by
  have g1 := KIx_k (k1 := k + 1) g (by omega)
  obtain ⟨r, h, pg, sc, tk, pr, tb, p2, s2, N, V, g⟩ := g
  obtain ⟨⟨w, hx, ho⟩, ⟨e1, e2, e3, e4, e5, e6, e7⟩, _, ⟨q1, qS⟩, _, _, q7, b⟩ := g
  obtain ⟨_, T, U, L, D, P, W, bx⟩ := b
  have I := bx.2.2.2.2.2.2.2.2.1
  have hi := bx.2.2.2.2.2.2.1
  refine ty_X11_lost (K := fun S1 _ => S = S1) hx w (fun S1 r1 hW hb => ?_) (sk_X11_lost _ _ _ I)
  subst hb
  exact ⟨g1, Nat.le_refl _⟩
theorem lk_box {a0 a1 : Int32} (hk : k < 512) (g : KIx x o n0 n k S) : wp_X11_box x a0 a1 S (fun S1 _ => KIx x o n0 n (k + 1) S1 ∧ cnt S ≤ cnt S1) := by
  have g1 := KIx_k (k1 := k + 1) g (by omega)
  obtain ⟨r, h, pg, sc, tk, pr, tb, p2, s2, N, V, g⟩ := g
  obtain ⟨⟨w, hx, ho⟩, ⟨e1, e2, e3, e4, e5, e6, e7⟩, _, ⟨q1, qS⟩, _, _, q7, b⟩ := g
  obtain ⟨_, T, U, L, D, P, W, bx⟩ := b
  have I := bx.2.2.2.2.2.2.2.2.1
  have hi := bx.2.2.2.2.2.2.1
  refine ty_X11_box (K := fun S1 _ => S = S1) hx w (fun S1 r1 hW hb => ?_) (sk_X11_box (h := h) _ _ _ I e4 hi.2.2.2.2.2.2.2.2)
  subst hb
  exact ⟨g1, Nat.le_refl _⟩
theorem lk_count {a0 : Int32} (hk : k < 512) (g : KIx x o n0 n k S) : wp_X11_count x a0 S (fun S1 _ => KIx x o n0 n (k + 1) S1 ∧ cnt S ≤ cnt S1) := by
  have g1 := KIx_k (k1 := k + 1) g (by omega)
  obtain ⟨r, h, pg, sc, tk, pr, tb, p2, s2, N, V, g⟩ := g
  obtain ⟨⟨w, hx, ho⟩, ⟨e1, e2, e3, e4, e5, e6, e7⟩, _, ⟨q1, qS⟩, _, _, q7, b⟩ := g
  obtain ⟨_, T, U, L, D, P, W, bx⟩ := b
  have I := bx.2.2.2.2.2.2.2.2.1
  have hi := bx.2.2.2.2.2.2.1
  refine ty_X11_count (K := fun S1 _ => S = S1) hx w (fun S1 r1 hW hb => ?_) (sk_X11_count (h := h) (pg := pg) _ _ I e4 e6)
  subst hb
  exact ⟨g1, Nat.le_refl _⟩
theorem lk_stands {a0 a1 : Int32} (hk : k < 512) (g : KIx x o n0 n k S) : wp_X11_stands x a0 a1 S (fun S1 _ => KIx x o n0 n (k + 1) S1 ∧ cnt S ≤ cnt S1) := by
  have g1 := KIx_k (k1 := k + 1) g (by omega)
  obtain ⟨r, h, pg, sc, tk, pr, tb, p2, s2, N, V, g⟩ := g
  obtain ⟨⟨w, hx, ho⟩, ⟨e1, e2, e3, e4, e5, e6, e7⟩, _, ⟨q1, qS⟩, _, _, q7, b⟩ := g
  obtain ⟨_, T, U, L, D, P, W, bx⟩ := b
  have I := bx.2.2.2.2.2.2.2.2.1
  have hi := bx.2.2.2.2.2.2.1
  refine ty_X11_stands (K := fun S1 _ => S = S1) hx w (fun S1 r1 hW hb => ?_) (sk_X11_stands I e4 hi bx.1.2.2.2.2.2.1 (fun _ => rfl))
  subst hb
  exact ⟨g1, Nat.le_refl _⟩
theorem lk_live {a0 a1 a2 : Int32} (hk : k < 512) (g : KIx x o n0 n k S) : wp_X11_live x a0 a1 a2 S (fun S1 _ => KIx x o n0 n (k + 1) S1 ∧ cnt S ≤ cnt S1) := by
  obtain ⟨r, h, pg, sc, tk, pr, tb, p2, s2, N, V, g⟩ := g
  have g0 := g
  obtain ⟨⟨w, hx, ho⟩, ⟨e1, e2, e3, e4, e5, e6, e7⟩, _, ⟨q1, qS⟩, ⟨q2, q3⟩, ⟨q4, q5, q6⟩, q7, b⟩ := g
  obtain ⟨_, T, U, L, D, P, W, bx⟩ := b
  have I := bx.2.2.2.2.2.2.2.2.1
  have ev := ENV_v bx.1
  have r1 : (S.1 18 pg).toInt ≤ 12 := by
    have y := q1.2.1.2
    rw [← ev] at y
    exact y
  have r2 : 0 ≤ (S.1 17 pg).toInt ∧ (S.1 17 pg).toInt ≤ 8064 := by
    have y := q1.1
    rw [← ev] at y
    exact y
  have r3 : ∀ r9 w9 : Nat, (r9 : Int) < (S.1 18 pg).toInt → (w9 : Int) < (ar S 36 pg r9).toInt → (ar S 28 pg (ar S 37 pg (16 * r9 + w9)).toInt.toNat).toInt = 35 := fun r9 w9 h1 h2 => by
    rw [← ev] at qS
    exact (qS r9 w9 h1 h2 (fun z => z)).2.2
  have r4 : ∀ i : Nat, (i : Int) < (S.1 17 pg).toInt → (ar S 28 pg i = 17 ∨ ar S 28 pg i = 18 ∨ ar S 28 pg i = 21 ∨ ar S 28 pg i = 23) → 0 ≤ (ar S 29 pg i).toInt ∧ (ar S 29 pg i).toInt < 460 := fun i h1 h2 => by
    have p := q1
    rw [← ev] at p
    have act := p.2.2.2.2.2.2.2.2.2.1 i h1
    have m24 : (pv pg sc S).1 24 ≤ 460 := p.2.2.1.2
    have m25 : (pv pg sc S).1 25 ≤ 460 := p.2.2.2.1.2
    rcases h2 with c | c | c | c
    · have y := act.2.1 (Or.inl (by show (ar S 28 pg i).toInt = 17; rw [c]; rfl))
      exact ⟨y.1, Int.lt_of_lt_of_le y.2.1 m25⟩
    · have y := act.2.1 (Or.inr (by show (ar S 28 pg i).toInt = 18; rw [c]; rfl))
      exact ⟨y.1, Int.lt_of_lt_of_le y.2.1 m25⟩
    · have y := act.2.2.1 (by show (ar S 28 pg i).toInt = 21; rw [c]; rfl)
      exact ⟨y.1, Int.lt_of_lt_of_le y.2.1 m24⟩
    · have y := act.2.2.2.1 (by show (ar S 28 pg i).toInt = 23; rw [c]; rfl)
      exact ⟨y.1, Int.lt_of_lt_of_le y.2.1 m24⟩
  refine ty_X11_live (K := fun S1 _ => HF [26, 27] [55] [53, 54] [] S S1) hx w (fun S1 r1 hW f => ⟨?_, cn_e hW rfl⟩) (kmT_X11_live _ _ _ _ _ _ _ (fun S1 r1 hF _ => HF_s (HF_k hF I (by decide) (by decide) (by decide)) (by decide) (by decide) (by decide) (by decide)) (sk_X11_live (pg := pg) (tb := tb) (sc := sc) _ _ _ _ I e6 e3 bx.1.2.2.1 r1 r2 ⟨q2.2.2.1, q2.2.2.2.1, q2.2.2.2.2.2.1⟩ q2.2.2.2.2.2.2.1 q2.2.1 r3 r4))
  exact ⟨r, h, pg, sc, tk, pr, tb, p2, s2, N, V, KST_k (KST_q g0 (wt_s hW) (HF_s f (by decide) (by decide) (by decide) (by decide)) (pv_f f (by decide) (by decide)) ⟨RGS_f q2 f (by decide), RGS_f q3 f (by decide)⟩ ⟨by rw [f.1 41 (by decide)]; exact q4, q5, by unfold TQS; rw [f.1 40 (by decide), f.2.2.1 64 (by decide), f.2.2.1 65 (by decide)]; exact q6⟩) (by omega)⟩
theorem lk_next {a0 a1 a2 : Int32} (hk : k < 512) (g : KIx x o n0 n k S) : wp_X11_next x a0 a1 a2 S (fun S1 _ => KIx x o n0 n (k + 1) S1 ∧ cnt S ≤ cnt S1) := by
  obtain ⟨r, h, pg, sc, tk, pr, tb, p2, s2, N, V, g⟩ := g
  have g0 := g
  obtain ⟨⟨w, hx, ho⟩, ⟨e1, e2, e3, e4, e5, e6, e7⟩, _, ⟨q1, qS⟩, ⟨q2, q3⟩, ⟨q4, q5, q6⟩, q7, b⟩ := g
  obtain ⟨_, T, U, L, D, P, W, bx⟩ := b
  have I := bx.2.2.2.2.2.2.2.2.1
  have ev := ENV_v bx.1
  have r1 : (S.1 18 pg).toInt ≤ 12 := by
    have y := q1.2.1.2
    rw [← ev] at y
    exact y
  have r2 : 0 ≤ (S.1 17 pg).toInt ∧ (S.1 17 pg).toInt ≤ 8064 := by
    have y := q1.1
    rw [← ev] at y
    exact y
  have r3 : ∀ r9 w9 : Nat, (r9 : Int) < (S.1 18 pg).toInt → (w9 : Int) < (ar S 36 pg r9).toInt → (ar S 28 pg (ar S 37 pg (16 * r9 + w9)).toInt.toNat).toInt = 35 := fun r9 w9 h1 h2 => by
    rw [← ev] at qS
    exact (qS r9 w9 h1 h2 (fun z => z)).2.2
  have r4 : ∀ i : Nat, (i : Int) < (S.1 17 pg).toInt → (ar S 28 pg i = 17 ∨ ar S 28 pg i = 18 ∨ ar S 28 pg i = 21 ∨ ar S 28 pg i = 23) → 0 ≤ (ar S 29 pg i).toInt ∧ (ar S 29 pg i).toInt < 460 := fun i h1 h2 => by
    have p := q1
    rw [← ev] at p
    have act := p.2.2.2.2.2.2.2.2.2.1 i h1
    have m24 : (pv pg sc S).1 24 ≤ 460 := p.2.2.1.2
    have m25 : (pv pg sc S).1 25 ≤ 460 := p.2.2.2.1.2
    rcases h2 with c | c | c | c
    · have y := act.2.1 (Or.inl (by show (ar S 28 pg i).toInt = 17; rw [c]; rfl))
      exact ⟨y.1, Int.lt_of_lt_of_le y.2.1 m25⟩
    · have y := act.2.1 (Or.inr (by show (ar S 28 pg i).toInt = 18; rw [c]; rfl))
      exact ⟨y.1, Int.lt_of_lt_of_le y.2.1 m25⟩
    · have y := act.2.2.1 (by show (ar S 28 pg i).toInt = 21; rw [c]; rfl)
      exact ⟨y.1, Int.lt_of_lt_of_le y.2.1 m24⟩
    · have y := act.2.2.2.1 (by show (ar S 28 pg i).toInt = 23; rw [c]; rfl)
      exact ⟨y.1, Int.lt_of_lt_of_le y.2.1 m24⟩
  refine ty_X11_next (K := fun S1 _ => HF [26, 27] [55] [53, 54] [] S S1) hx w (fun S1 r1 hW f => ⟨?_, cn_e hW rfl⟩) (kmT_X11_next _ _ _ _ _ _ _ (fun S1 r1 hF _ => HF_s (HF_k hF I (by decide) (by decide) (by decide)) (by decide) (by decide) (by decide) (by decide)) (sk_X11_next (pg := pg) (tb := tb) (sc := sc) _ _ _ _ I e6 e3 bx.1.2.2.1 r1 r2 ⟨q2.2.2.1, q2.2.2.2.1, q2.2.2.2.2.2.1⟩ q2.2.2.2.2.2.2.1 q2.2.1 r3 r4))
  exact ⟨r, h, pg, sc, tk, pr, tb, p2, s2, N, V, KST_k (KST_q g0 (wt_s hW) (HF_s f (by decide) (by decide) (by decide) (by decide)) (pv_f f (by decide) (by decide)) ⟨RGS_f q2 f (by decide), RGS_f q3 f (by decide)⟩ ⟨by rw [f.1 41 (by decide)]; exact q4, q5, by unfold TQS; rw [f.1 40 (by decide), f.2.2.1 64 (by decide), f.2.2.1 65 (by decide)]; exact q6⟩) (by omega)⟩
end LKs
