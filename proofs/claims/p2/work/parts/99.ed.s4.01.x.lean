
abbrev NTz : List Nat := [22, 23]
abbrev NTf : List Nat := [51, 52, 53, 54, 55, 56, 57, 58, 59, 60, 61, 62, 67, 68, 73]
theorem upd_upd {f : Nat → Int32} {i : Nat} {a b : Int32} : upd (upd f i a) i b = upd f i b := by
  funext j
  unfold upd
  split <;> rfl
/-- a child's node and the child -/
theorem W0_child {hx : Nat} {cd nt nw na : Int} {ty : Nat → T6} {P S : mS} {u v : T6} {a0 n z c : Int32} {S4 S5 : mS} (hFW : FWt hx cd nt nw na ty P) (hnow : (S.1 5).toInt = hx) (hW : W0 hx cd nt nw ty P S) (hB : RB hx cd ty u S) (h1 : u.2.2.1 = 1) (hc : 1 ≤ u.2.2.2.1) (hv : v.2.2.1 = u.2.2.1 ∧ v.2.2.2.1 ≤ u.2.2.2.1 - 1 ∧ v.2.2.2.2.1 = u.2.2.2.2.1 ∧ v.2.2.2.2.2 = u.2.2.2.2.2) (hb : NNB 6 0 ((S.1 22)) S S4) (hs : STD 6 0 S S4) (hF : Fr NDz NDf [] S S4) (hn : n = (S.1 29)) (hk : NTK a0 (S4.1 33) n z S4 S5) (hF5 : Fr NTz NTf [] S4 S5) (hz : z = (S4.2.1 11) (ix c)) (hcc : c.toInt = 12 * (S4.1 5).toInt + a0.toInt) (hr : 0 ≤ a0.toInt ∧ a0.toInt < ((P.2.1 5) hx).toInt) (ht : (S.1 22).toInt < 200) : W0 hx cd nt nw ty P S5 ∧ RB hx cd ty v S5 := by
  subst hn
  have hn2 := RB_nb2 hB h1 hc
  have hu := RB_up hW hB h1
  have hnb := hW.2.1.1.2.2.1
  have tb := hB.1
  have q1 : (1 : Int32).toInt = 1 := rfl
  obtain ⟨b1, b80, b81, b82, b83, b84, b85⟩ := hb
  obtain ⟨k22, k23, k51, k52, k53, k54, k57, k60, k61, k68, k73⟩ := hk
  have t4 : S4.1 22 = S.1 22 := hF.1 22 (by decide)
  have t33 : S4.1 33 = S.1 33 := hF.1 33 (by decide)
  rw [t4] at k22 k51 k52 k53 k54 k57 k60 k61 k68 k73
  rw [t33] at k52
  have k22' : (S5.1 22).toInt = (S.1 22).toInt + 1 := by
    have := w_add k22 (by rw [q1]; have := tb.1; omega)
    rw [q1] at this
    exact this
  -- the node as if it had come already
  obtain ⟨Sv, hSv⟩ : ∃ X, X = sF S4 83 (ix (S.1 29)) 1 := ⟨_, rfl⟩
  have v1 : Sv.1 = S4.1 := by rw [hSv]; rfl
  have vk : ∀ k, k ≠ 83 → Sv.2.1 k = S4.2.1 k := fun k h => by rw [hSv, q_ff, if_neg h]
  have v83 : Sv.2.1 83 = upd (S.2.1 83) (ix (S.1 29)) 1 := by rw [hSv, q_ff, if_pos rfl, b83, upd_upd]
  have v86 : Sv.2.2 = S4.2.2 := by rw [hSv]; rfl
  have nbv : NNB 6 1 ((S.1 22)) S Sv := by
    refine ⟨by rw [v1]; exact b1, by rw [vk 80 (by decide)]; exact b80, by rw [vk 81 (by decide)]; exact b81, by rw [vk 82 (by decide)]; exact b82, v83, by rw [vk 84 (by decide)]; exact b84, by rw [vk 85 (by decide)]; exact b85⟩
  have sdv : STD 6 1 S Sv := by
    rcases hs with g | g
    · exact absurd g.2.1 (by decide)
    · exact Or.inr ⟨fun h => absurd h.1 (by decide), by rw [vk 87 (by decide)]; exact g.2.1, by rw [v1]; exact g.2.2⟩
  have frv : Fr NDz NDf [] S Sv := ⟨fun k hk => by rw [v1]; exact hF.1 k hk, fun k hk => by rw [vk k (fun h => hk (by rw [h]; decide))]; exact hF.2.1 k hk, fun k hk => by rw [v86]; exact hF.2.2 k hk⟩
  have wv := W0_nnb hW (by omega) ⟨tb.1, tb.2.1⟩ hu.1 hu.2 nbv sdv frv (fun i _ => by rw [frv.2.2 86 (by simp)]) (fun _ => by decide) (fun q => absurd q (by decide))
  -- the child
  obtain ⟨Sw, hSw⟩ : ∃ X, X = sF S5 83 (ix (S.1 29)) 1 := ⟨_, rfl⟩
  have w1 : Sw.1 = S5.1 := by rw [hSw]; rfl
  have wk : ∀ k, k ≠ 83 → Sw.2.1 k = S5.2.1 k := fun k h => by rw [hSw, q_ff, if_neg h]
  have s583 : S5.2.1 83 = upd (S.2.1 83) (ix (S.1 29)) 0 := (hF5.2.1 83 (by decide)).trans b83
  have w83 : Sw.2.1 83 = Sv.2.1 83 := by rw [hSw, q_ff, if_pos rfl, s583, upd_upd, v83]
  have w86 : Sw.2.2 = S5.2.2 := by rw [hSw]; rfl
  have ev22 : Sv.1 22 = S.1 22 := by rw [v1, t4]
  have ev23 : Sv.1 23 = S4.1 23 := by rw [v1]
  have same : ∀ k, k ∉ NTf → Sw.2.1 k = Sv.2.1 k := fun k hk => by
    rcases Decidable.em (k = 83) with d | d
    · rw [d]; exact w83
    · rw [wk k d, vk k d]; exact hF5.2.1 k hk
  have tg : TG hx cd ty z (-1) := by
    have n4 : S4.1 5 = S.1 5 := hF.1 5 (by decide)
    have rb := hFW.1
    rw [n4] at hcc
    rw [hz, show (S4.2.1 11) = (S.2.1 11) from hF.2.1 11 (by decide), show (S.2.1 11) = (P.2.1 11) from hW.1.2 11 (by decide) (by decide)]
    exact (hFW.2.2.2.2.2.1 (ix c) (by unfold ix; omega) (by unfold ix; omega)).1
  have ww : W0 hx cd nt nw ty P Sw := W0_nt (r := a0) (par := S.1 33) (nd := (S.1 29)) (pcx := z) wv (by rw [ev22]; exact ht) (by rw [w1, ev22]; exact k22') (by rw [w1, ev23]; exact k23) (Or.inr ⟨tb.1, by rw [ev22]; exact tb.2.1, hnb, by rw [v1, b1]; omega⟩) hr tg (by rw [wk 51 (by decide), vk 51 (by decide), ev22]; exact k51) (by rw [wk 52 (by decide), vk 52 (by decide), ev22]; exact k52) (by rw [wk 53 (by decide), vk 53 (by decide), ev22]; exact k53) (by rw [wk 54 (by decide), vk 54 (by decide), ev22]; exact k54) (by rw [wk 57 (by decide), vk 57 (by decide), ev22]; exact k57) (by rw [wk 60 (by decide), vk 60 (by decide), ev22]; exact k60) (by rw [wk 61 (by decide), vk 61 (by decide), ev22]; exact k61) (by rw [wk 68 (by decide), vk 68 (by decide), ev22]; exact k68) (by rw [wk 73 (by decide), vk 73 (by decide), ev22, ev23]; exact k73) (by rw [w1, v1]; exact hF5.1 5 (by decide)) (by rw [w1, v1]; exact hF5.1 28 (by decide)) (by rw [w1, v1]; exact hF5.1 29 (by decide)) (by rw [w1, v1]; exact hF5.1 30 (by decide)) (same 64 (by decide)) (same 65 (by decide)) (same 66 (by decide)) (same 69 (by decide)) (same 70 (by decide)) (same 71 (by decide)) (same 72 (by decide)) (same 78 (by decide)) (same 80 (by decide)) (same 81 (by decide)) (same 82 (by decide)) (same 83 (by decide)) (same 84 (by decide)) (same 85 (by decide)) (same 87 (by decide)) (by rw [w86, v86]; exact hF5.2.2 86 (by simp)) (fun k hk => same k (fun q => by simp [NTf] at q; omega))
  refine ⟨?_, ?_⟩
  · refine W0_n0 (n := (S.1 29)) ww ⟨hnb, by rw [w1, show S5.1 29 = S4.1 29 from hF5.1 29 (by decide), b1]; omega⟩ (by rw [w83, v83, upd_upd]; exact s583) (fun _ => ?_) (fun k _ => by rw [w1]) (fun k hk => (wk k (by rcases hk with g | g <;> omega)).symm) (by rw [w86])
    have a85 : Sw.2.1 85 (ix (S.1 29)) = S.1 33 := by rw [wk 85 (by decide), hF5.2.1 85 (by decide), b85, upd_s]
    have a84 : Sw.2.1 84 (ix (S.1 29)) = S.1 22 := by rw [wk 84 (by decide), hF5.2.1 84 (by decide), b84, upd_s]
    have a53 : Sw.2.1 53 (ix (S.1 22)) = (S.1 29) := by rw [wk 53 (by decide), k53, upd_s]
    rw [a85, a84, a53, w1, k22']
    exact ⟨tb.2.1, by omega, rfl⟩
  · obtain ⟨en, c1, c2, c3⟩ := b82
    have ne : ¬ ix (S.1 33) = ix (S.1 22) := by unfold ix; omega
    exact RB_nn (so := 6) (en := en) hB h1 hv hc (c2 (by decide)) ((congrArg Int32.toInt (hF5.1 29 (by decide))).trans b1) ((hF5.2.1 80 (by decide)).trans b80) ((hF5.2.1 81 (by decide)).trans b81) ((hF5.2.1 82 (by decide)).trans c1) ((hF5.2.1 85 (by decide)).trans b85) (by omega) ((hF5.1 25 (by decide)).trans (hF.1 25 (by decide))) ((hF5.1 26 (by decide)).trans (hF.1 26 (by decide))) ((hF5.1 33 (by decide)).trans t33) ((hF5.1 34 (by decide)).trans (hF.1 34 (by decide))) ((hF5.1 35 (by decide)).trans (hF.1 35 (by decide))) ((hF5.1 36 (by decide)).trans (hF.1 36 (by decide))) ((hF5.1 37 (by decide)).trans (hF.1 37 (by decide))) (by rw [k54, upd_n ne, hF.2.1 54 (by decide)]) (by rw [k60, upd_n ne, hF.2.1 60 (by decide)])
theorem sr_letGo {hx : Nat} {cd nt nw : Int} {ty : Nat → T6} {P : mS} {u : T6} (a0 a1 : Int32) {S : mS} (ha : a0 = S.1 35 ∧ a1 = S.1 29) (hW : W0 hx cd nt nw ty P S) (hB : RB hx cd ty u S) (h1 : u.2.2.1 = 1) : wq_letGo a0 a1 S (fun S1 => True ∧ (W0 hx cd nt nw ty P S1 ∧ RB hx cd ty u S1)) := by
  obtain ⟨ha, hb⟩ := ha
  subst ha hb
  obtain ⟨a1, a2, a3, a4, a5, _⟩ := hB.2.2.2.1 h1
  refine fq_letGo _ _ _ _ _ (fun S1 hF p => ⟨trivial, W0_rc hF p.1 p.2.1 hW, RB_rc hF p.2.1 hB⟩) (sq_letGo (T := S) (tau := (S.1 33).toInt) hW.2.1 hW.2.2.1 ⟨a2, a3, Int.le_refl _⟩ a4 hB.1.1)
theorem sr_weighs {hx : Nat} {cd nt nw : Int} {ty : Nat → T6} {P : mS} {u : T6} (a0 : Int32) {S : mS} (hn : 0 ≤ a0.toInt ∧ a0.toInt < (S.1 29).toInt ∧ 0 < ((S.2.1 82) (ix a0)).toInt) (hW : W0 hx cd nt nw ty P S) (hB : RB hx cd ty u S) : wq_weighs a0 S (fun S1 => True ∧ (W0 hx cd nt nw ty P S1 ∧ RB hx cd ty u S1)) := by
  refine fq_weighs _ _ _ _ (fun S1 hF p => ⟨trivial, W0_rc hF p.1 p.2.1 hW, RB_rc hF p.2.1 hB⟩) (sq_weighs (T := S) hW.2.1 hW.2.2.1 hn)
theorem sg_stops {hx : Nat} {cd nt nw : Int} {ty : Nat → T6} {P : mS} {u : T6} {tr : Int32} (a0 : Int32) {S : mS} (ha : a0 = -1 ∨ (0 ≤ a0.toInt ∧ a0.toInt ≤ 100000)) (hW : W0 hx cd nt nw ty P S) (hR : RF hx nt nw P tr S) (hB : RB hx cd ty u S) (h1 : u.2.2.1 = 1) (hp : TG hx cd ty (S.1 32) tr) : wp_stops a0 S (fun S1 => True ∧ ENR hx cd nt nw ty P S1) := by
  obtain ⟨_, r2, r3, r4, _⟩ := hB.2.2.2.1 h1
  have ht := RB_t hW hB
  have tb := hB.1
  have it : inR (S.1 33) 200 := ⟨ht.1, by show (S.1 33).toInt < 200; omega⟩
  have q1 : (1 : Int32).toInt = 1 := rfl
  have hrw := hW.2.2.1.2.1
  have tk := hW.2.1.1
  have n4 : ¬ (S.2.1 54) (ix (S.1 33)) = 0 := by rw [tb.2.2.1]; decide
  have hlt := RWX_lt hrw tb.1 tb.2.1 (Or.inl n4)
  have h0m := hrw.1
  unfold wp_stops
  intro S1 e1
  have f1 : S1.1 33 = S.1 33 := by rw [e1]; rfl
  rw [f1]
  refine ⟨it, fun S2 e2 => ?_⟩
  have f2 : S2.1 33 = S.1 33 := by rw [e2]; exact f1
  rw [f2]
  refine ⟨it, fun S3 e3 => ?_⟩
  have f3 : S3.1 33 = S.1 33 := by rw [e3]; exact f2
  rw [f3]
  refine ⟨it, fun S4 e4 => ?_⟩
  have f4 : S4.1 33 = S.1 33 := by rw [e4]; exact f3
  have g57 : S4.2.1 57 = upd (S.2.1 57) (ix (S.1 33)) (S.1 32) := by rw [e4, e3, e2, e1]; rfl
  have g65 : S4.2.1 65 = upd (S.2.1 65) (ix (S.1 33)) (S.1 35) := by rw [e4, e3, e2, e1]; rfl
  have g66 : S4.2.1 66 = upd (S.2.1 66) (ix (S.1 33)) (S.1 29) := by rw [e4, e3, e2, e1]; rfl
  have gk : ∀ k, k ≠ 57 → k ≠ 65 → k ≠ 66 → S4.2.1 k = S.2.1 k := fun k h1 h2 h3 => by
    rw [e4, q_ff, if_neg h3, e3, q_ff, if_neg h2, e2, q_ff, if_neg h1, e1]; rfl
  have gz : ∀ k, k ≠ 34 → S4.1 k = S.1 k := fun k h => by
    rw [e4, e3, e2, e1]
    show upd S.1 34 0 k = _
    exact upd_n h
  have gg : S4.2.2 = S.2.2 := by rw [e4, e3, e2, e1]; rfl
  have fin : ∀ (Y : mS) (v : Int32), (v = 0 ∨ v = 1 ∨ v = 2) → Y.2.1 54 = upd (S.2.1 54) (ix (S.1 33)) v → RWX (S.1 22).toInt (Y.1 23).toInt (-1) ((Y.2.1 54)) ((Y.2.1 73)) → (∀ k, k ≠ 54 → k ≠ 62 → k ≠ 63 → k ≠ 73 → Y.2.1 k = S4.2.1 k) → (∀ k, k ≠ 34 → k ≠ 23 → Y.1 k = S.1 k) → Y.2.2 = S.2.2 → ENR hx cd nt nw ty P Y := by
    intro Y v hv y54 yr yk yz yg
    refine ⟨W0_stop (t := S.1 33) (q := S.1 32) (ro := S.1 35) (re := S.1 29) (v := v) (tr := tr) hW tb.2.2.1 ⟨tb.1, tb.2.1⟩ tb.2.2.2 hR hp ⟨r2, r3, Int.le_refl _, r4⟩ (by rw [yk 57 (by decide) (by decide) (by decide) (by decide)]; exact g57) (by rw [yk 65 (by decide) (by decide) (by decide) (by decide)]; exact g65) (by rw [yk 66 (by decide) (by decide) (by decide) (by decide)]; exact g66) y54 yr (yz 5 (by decide) (by decide)) (yz 22 (by decide) (by decide)) (yz 28 (by decide) (by decide)) (yz 29 (by decide) (by decide)) (yz 30 (by decide) (by decide)) ((yk 51 (by decide) (by decide) (by decide) (by decide)).trans (gk 51 (by decide) (by decide) (by decide))) ((yk 52 (by decide) (by decide) (by decide) (by decide)).trans (gk 52 (by decide) (by decide) (by decide))) ((yk 53 (by decide) (by decide) (by decide) (by decide)).trans (gk 53 (by decide) (by decide) (by decide))) ((yk 60 (by decide) (by decide) (by decide) (by decide)).trans (gk 60 (by decide) (by decide) (by decide))) ((yk 61 (by decide) (by decide) (by decide) (by decide)).trans (gk 61 (by decide) (by decide) (by decide))) ((yk 64 (by decide) (by decide) (by decide) (by decide)).trans (gk 64 (by decide) (by decide) (by decide))) ((yk 68 (by decide) (by decide) (by decide) (by decide)).trans (gk 68 (by decide) (by decide) (by decide))) ((yk 69 (by decide) (by decide) (by decide) (by decide)).trans (gk 69 (by decide) (by decide) (by decide))) ((yk 70 (by decide) (by decide) (by decide) (by decide)).trans (gk 70 (by decide) (by decide) (by decide))) ((yk 71 (by decide) (by decide) (by decide) (by decide)).trans (gk 71 (by decide) (by decide) (by decide))) ((yk 72 (by decide) (by decide) (by decide) (by decide)).trans (gk 72 (by decide) (by decide) (by decide))) ((yk 78 (by decide) (by decide) (by decide) (by decide)).trans (gk 78 (by decide) (by decide) (by decide))) ((yk 80 (by decide) (by decide) (by decide) (by decide)).trans (gk 80 (by decide) (by decide) (by decide))) ((yk 81 (by decide) (by decide) (by decide) (by decide)).trans (gk 81 (by decide) (by decide) (by decide))) ((yk 82 (by decide) (by decide) (by decide) (by decide)).trans (gk 82 (by decide) (by decide) (by decide))) ((yk 83 (by decide) (by decide) (by decide) (by decide)).trans (gk 83 (by decide) (by decide) (by decide))) ((yk 84 (by decide) (by decide) (by decide) (by decide)).trans (gk 84 (by decide) (by decide) (by decide))) ((yk 85 (by decide) (by decide) (by decide) (by decide)).trans (gk 85 (by decide) (by decide) (by decide))) ((yk 87 (by decide) (by decide) (by decide) (by decide)).trans (gk 87 (by decide) (by decide) (by decide))) (by rw [yg]) (fun k hk => (yk k (by omega) (by omega) (by omega) (by omega)).trans (gk k (by omega) (by omega) (by omega))), ?_, ?_⟩
    · rw [yz 33 (by decide) (by decide), y54, upd_s]
      rcases hv with g | g | g <;> rw [g] <;> decide
    · rw [yz 25 (by decide) (by decide), yz 29 (by decide) (by decide), yz 33 (by decide) (by decide)]
      exact ⟨hB.2.1.2.2.1, hB.2.1.2.2.2.1, hB.2.1.2.2.2.2, ht⟩
  have key : ∀ X : mS, X.1 = S4.1 → (∀ k, k ≠ 62 → k ≠ 63 → X.2.1 k = S4.2.1 k) → X.2.2 = S4.2.2 → wp_stops_99 (fun S1 => True ∧ ENR hx cd nt nw ty P S1) X := by
    intro X x1 xk xg
    have x33 : X.1 33 = S.1 33 := by rw [x1]; exact f4
    have x54 : X.2.1 54 = S.2.1 54 := (xk 54 (by decide) (by decide)).trans (gk 54 (by decide) (by decide) (by decide))
    have x73 : X.2.1 73 = S.2.1 73 := (xk 73 (by decide) (by decide)).trans (gk 73 (by decide) (by decide) (by decide))
    have x23 : X.1 23 = S.1 23 := by rw [x1]; exact gz 23 (by decide)
    have set : ∀ (v : Int32) (Y : mS), (v = 1 ∨ v = 2) → Y = sF X 54 (ix (S.1 33)) v → ENR hx cd nt nw ty P Y := by
      intro v Y hv hY
      have y54 : Y.2.1 54 = upd (S.2.1 54) (ix (S.1 33)) v := by rw [hY, q_ff, if_pos rfl, x54]
      refine fin Y v (Or.inr hv) y54 ?_ (fun k k1 k2 k3 k4 => by rw [hY, q_ff, if_neg k1]; exact xk k k2 k3) (fun k k1 k2 => by rw [hY]; show X.1 k = _; rw [x1]; exact gz k k1) (by rw [hY]; show X.2.2 = _; rw [xg, gg])
      rw [y54, show Y.2.1 73 = S.2.1 73 by rw [hY]; exact x73, show Y.1 23 = S.1 23 by rw [hY]; exact x23]
      exact RWX_st hrw tb.1 (Or.inl n4) (Or.inl rfl) (by rcases hv with g | g <;> rw [g] <;> decide)
    unfold wp_stops_99
    rw [x33]
    refine ⟨it, fun z14 e14 => ⟨fun c => ⟨it, fun z16 e16 => ⟨fun c2 => ?_, fun c2 => ⟨it, fun S19 e19 => ⟨trivial, set 2 S19 (Or.inr rfl) e19⟩⟩⟩⟩, fun c => ⟨it, fun S20 e20 => ⟨trivial, set 1 S20 (Or.inl rfl) e20⟩⟩⟩⟩
    unfold wp_toRow
    rw [x23]
    have hz := w_add (z := S.1 23 + 1) rfl (by rw [q1]; omega)
    rw [q1] at hz
    refine ⟨⟨h0m, by show (S.1 23).toInt < 200; omega⟩, fun A1 a1 z2 a2 A3 a3 => ⟨it, fun A4 a4 => ⟨trivial, ?_⟩⟩⟩
    have y54 : A4.2.1 54 = upd (S.2.1 54) (ix (S.1 33)) 0 := by rw [a4, a3, a1]; show upd (X.2.1 54) _ _ = _; rw [x54]
    have y73 : A4.2.1 73 = upd (S.2.1 73) (ix (S.1 23)) (S.1 33) := by rw [a4, a3, a1]; show upd (X.2.1 73) _ _ = _; rw [x73]
    have y23 : A4.1 23 = S.1 23 + 1 := by rw [a4, a3]; show z2 = _; rw [a2, a1]; show X.1 23 + 1 = _; rw [x23]
    refine fin A4 0 (Or.inl rfl) y54 ?_ (fun k k1 k2 k3 k4 => ?_) (fun k k1 k2 => ?_) ?_
    · rw [y54, y73, y23]
      exact RWX_to hrw tb.1 tb.2.1 (Or.inl n4) (Or.inl rfl) hz
    · rw [a4, q_ff, if_neg k1, a3]
      show A1.2.1 k = _
      rw [a1, q_ff, if_neg k4]
      exact xk k k2 k3
    · rw [a4, a3]
      show upd A1.1 23 z2 k = _
      rw [upd_n k2, a1]
      show X.1 k = _
      rw [x1]; exact gz k k1
    · rw [a4, a3, a1]
      show X.2.2 = _
      rw [xg, gg]
  have k4 := key S4 rfl (fun _ _ _ => rfl) rfl
  rw [f4]
  refine ⟨fun _ => k4, fun c => ⟨it, fun z6 e6 => ⟨fun _ => k4, fun c6 => ?_⟩⟩⟩
  have ia : inR a0 100300 := by
    rcases ha with g | g
    · exact absurd (show a0 < 0 by rw [g]; decide) c
    · exact ⟨g.1, by show a0.toInt < 100300; omega⟩
  refine ⟨ia, fun z8 e8 => ⟨fun _ => k4, fun c8 => ⟨ia, fun z10 e10 => ⟨it, fun S11 e11 => ⟨ia, fun z12 e12 => ?_⟩⟩⟩⟩⟩
  have f11 : S11.1 33 = S.1 33 := by rw [e11]; exact f4
  rw [f11]
  refine ⟨it, fun S13 e13 => key S13 (by rw [e13, e11]; rfl) (fun k k1 k2 => by rw [e13, q_ff, if_neg k2, e11, q_ff, if_neg k1]) (by rw [e13, e11]; rfl)⟩
theorem RF_68 {hx : Nat} {nt nw : Int} {P S S1 : mS} {tr : Int32} (h : RF hx nt nw P tr S) (e33 : S1.1 33 = S.1 33) (e68 : S1.2.1 68 (ix (S.1 33)) = S.2.1 68 (ix (S.1 33))) (ek : ∀ k, k ∈ [69, 70, 71, 72] → S1.2.1 k = S.2.1 k) : RF hx nt nw P tr S1 ∧ FS S1 = FS S := by
  constructor
  · unfold RF at h ⊢
    rw [e33, e68, ek 69 (by decide), ek 70 (by decide), ek 71 (by decide), ek 72 (by decide)]
    exact h
  · unfold FS
    rw [e33, e68, ek 70 (by decide)]
