
section FCs
variable {S S1 S2 : kS} {x r h pg sc t a : Nat} {N T G : Nat → Prop} {U : List Nat} {L : Nat → List Nat} {D : Nat → Nat} {P : Nat → Int32} {V : PV} {Z0 : kS} {W : Nat → Int → Prop} {c0 m : Int} {K : kS → Int32 → Prop} {rt pc : Int32}
theorem BTW_m {m1 : Int} (b : BTW r h pg sc N V Z0 c0 m S) (hm : m ≤ m1) : BTW r h pg sc N V Z0 c0 m1 S := by
  obtain ⟨A, T, U, L, D, P, W, bx⟩ := b
  exact ⟨A, T, U, L, D, P, W, BTX_m bx hm⟩
theorem BTW_z (b : BTW r h pg sc N V Z0 c0 m S) : FRZ Z0 S := by
  obtain ⟨_, T, U, L, D, P, W, bx⟩ := b
  exact bx.1.2.2.2.1.2.2.2
theorem sk_X11_turn {a0 : Int32} (hP : PGM V) (hx : S.2.1 73 x = some r) (b : BTW r h pg sc N V Z0 c0 m S) (hm : m ≤ 2000000000) (hK : ∀ S1 r1, BTW r h pg sc N V Z0 c0 (m + 1) S1 → K S1 r1) : wT_X11_turn x a0 S K := by
  unfold wT_X11_turn
  intro z1 e1 q2 e2
  obtain rfl : r = q2 := Option.some.inj (hx.symm.trans (e1.symm.trans e2))
  exact sk_X6_takeTurn hP b hm (fun S1 r1 b1 => hK S1 r1 b1)
theorem sk_X11_rounds {a0 : Int32} (hP : PGM V) (hk : (x, Sum.inl 11) ∈ Z0.2.2.2.2.2) (hx : Z0.2.1 73 x = some r) (b : BTW r h pg sc N V Z0 c0 m S) (hm : m ≤ 1000000000) (hK : ∀ S1 r1, BTW r h pg sc N V Z0 c0 (m + 400) S1 → K S1 r1) : wT_X11_rounds x a0 S K := by
  unfold wT_X11_rounds
  have z0 : (0 : Int32).toInt = 0 := rfl
  have z4 : (400 : Int32).toInt = 400 := rfl
  have b0 := b
  refine ⟨fun _ => hK S _ (BTW_m b (by omega)), fun c1 => ⟨fun c2 => ?_, fun _ => hK S _ (BTW_m b (by omega))⟩⟩
  have d2 := Int32.le_iff_toInt_le.mp c2
  rw [z4] at d2
  have cS : c0 ≤ (cnt S : Int) := by
    obtain ⟨_, T, U, L, D, P, W, bx⟩ := b0
    obtain ⟨k, k1, _⟩ := bx.2.1
    exact k1
  refine it_rule (fun u : Nat × Int32 × Int32 × kS => u.1 = x ∧ u.2.1 = a0 ∧ 0 ≤ u.2.2.1.toInt ∧ u.2.2.1.toInt ≤ 400 ∧ BTW r h pg sc N V Z0 c0 (m + u.2.2.1.toInt) u.2.2.2) (fun u => (400 - u.2.2.1.toInt).toNat) ?_ ⟨rfl, rfl, Int.le_refl _, by show (0 : Int32).toInt ≤ 400; decide, BTW_m b (by show m ≤ m + (0 : Int32).toInt; omega)⟩
  rintro ⟨x0, x1, x2, Sl⟩ k15 ⟨h3, h4, h5, h6, gl⟩ hk9
  have h3 : x0 = x := h3
  have h4 : x1 = a0 := h4
  have h5 : 0 ≤ x2.toInt := h5
  have h6 : x2.toInt ≤ 400 := h6
  have gl : BTW r h pg sc N V Z0 c0 (m + x2.toInt) Sl := gl
  subst h3
  subst h4
  show wT_X11_rounds_15 K (cnt S) k15 x0 x1 x2 Sl
  unfold wT_X11_rounds_15
  refine ⟨fun _ => hK Sl _ (BTW_m gl (by omega)), fun c3 => ?_⟩
  have d3 : x2.toInt < x1.toInt := by
    have y := c3
    rw [Int32.le_iff_toInt_le] at y
    omega
  intro z4 e4 q5 e5
  have hx5 : Sl.2.1 73 x0 = some r := (((BTW_z gl).2 x0 11 (by decide) hk).2.1 73 (by decide)).trans hx
  obtain rfl : r = q5 := Option.some.inj (hx5.symm.trans (e4.symm.trans e5))
  refine ⟨?_, ?_⟩
  · obtain ⟨_, T, U, L, D, P, W, bx⟩ := gl
    obtain ⟨k, _, k2, _, k4⟩ := bx.2.1
    have := bx.2.2.1.2
    omega
  · refine sk_X6_takeTurn hP gl (by omega) (fun S6 r6 b6 => ?_)
    refine ⟨fun _ => hK S6 _ (BTW_m b6 (by omega)), fun _ => ?_⟩
    intro z8 e8
    have zz : z8.toInt = x2.toInt + 1 := w_add e8 (by show _ ≤ x2.toInt + 1 ∧ x2.toInt + 1 < _; omega)
    exact hk9 _ ⟨rfl, rfl, by show 0 ≤ z8.toInt; omega, by show z8.toInt ≤ 400; omega, by show BTW r h pg sc N V Z0 c0 (m + z8.toInt) S6; rw [zz]; exact BTW_m b6 (by omega)⟩ (by show (400 - z8.toInt).toNat < (400 - x2.toInt).toNat; omega)
/-- a task is begun from without -/
theorem BTX_nt (b : BTX r h pg sc N V Z0 c0 m T U L D P W S) (hm : 0 ≤ m) (w : NTW h a rt none pc S S1) (hha : h ≠ a) (hc : (S.1 1 h).toInt < 200) (hpc : PCG V (fun _ => False) pc.toInt) (h18 : 1 ≤ V.1 18) (hrt : 0 ≤ rt.toInt ∧ rt.toInt < 12) : BTX r h pg sc N V Z0 c0 m (fun u => u = a ∨ T u) U L D P (wup W a (fun _ => False)) S1 ∧ S1.1 5 h = S.1 5 h := by
  obtain ⟨env, ⟨k, k1, k2, k3, k4⟩, b19, bp, trn, _, c2, c3, c4, ot⟩ := b
  obtain ⟨hi1, kd1, tl1, la, tli⟩ := HI_tk c2 c3 hha hc w (fun u hu => by cases hu)
  obtain ⟨v1, v2, v3, ⟨v4, v5, v6, vz⟩, v7, v8, v9, b, v10, v11, v12⟩ := env
  have ra := nt_k w (by decide) v4
  have ga := nt_k w (by decide) v5
  have sa := nt_k w (by decide) v6
  have ba := nt_k w (by decide) v11
  have rA : ALO S r := ⟨_, v4⟩
  have gA : ALO S pg := ⟨_, v5⟩
  have sA : ALO S sc := ⟨_, v6⟩
  have bA : ALO S b := ⟨_, v11⟩
  have hA : ALO S h := ⟨_, c3.1⟩
  have w0 := w
  obtain ⟨w1, w2, w3, w4, w5, w6, ⟨w28, w30, w34, w35, w38, w36, w29⟩, ⟨w56, w57⟩, ⟨⟨wd, wb⟩, wa, wi, wu, wt⟩, wx⟩ := w
  have kx := kx_int (S.1 1 h) c2.1.1
  refine ⟨⟨⟨by rw [w2 41 r rA ra]; exact v1, by rw [w2 2 h hA hha]; exact v2, by rw [w2 31 pg gA ga]; exact v3, ⟨wd _ v4, wd _ v5, wd _ v6, nt_z w0 vz⟩, ?_, fun i l hi hl => ?_, fun l hl => ?_, b, by rw [w2 40 r rA ra]; exact v10, wd _ v11, by rw [w2 9 h hA hha]; exact v12⟩, ?_, by rw [w1 19 r rA ra (by decide) (by decide)]; exact b19, fun y hy => ?_, fun u hu => ?_, fun _ => h18, hi1, kd1, wi, fun u hu => ?_⟩, w1 5 h hA hha (by decide) (by decide)⟩
  · rw [pv_o (S := S) (fun f h1 h3 => w1 f pg gA ga h1 h3) (fun f h1 h3 => w1 f sc sA sa h1 h3) (fun f i h4 => (w3 f pg i gA ga).1 h4) (fun f i h4 => (w3 f sc i sA sa).1 h4)]
    exact v7
  · rw [(w3 7 h i hA hha).2 (fun z => absurd z.2 (by decide))] at hl
    exact v8 i l hi hl
  · rw [w2 8 h hA hha] at hl
    exact v9 l hl
  · rw [w1 19 r rA ra (by decide) (by decide)]
    rcases wx with ⟨x1, x2, _⟩ | ⟨x1, _, x3, _⟩
    · refine ⟨k, by unfold cnt at k1 ⊢; rw [x2]; exact k1, k2, fun i hi => ?_, by unfold cnt at k4 ⊢; rw [x2]; exact k4⟩
      rw [w4 i]
      rcases Decidable.em (i = ix (S.1 1 h)) with c | c
      · rw [if_pos c]
        have := k3 i hi
        rw [c, x1] at this
        rw [c]
        exact ⟨fun z => (by cases z), fun z => (by have := this.mpr z; cases this)⟩
      · rw [if_neg c]
        exact k3 i hi
    · have ik : k ≤ ix (S.1 1 h) := (k3 (ix (S.1 1 h)) (by omega)).mp x1
      have ki : ix (S.1 1 h) ≤ k := Nat.le_of_not_lt (fun z => by
        obtain ⟨y, hy⟩ := c2.1.2.2.1 k (by omega)
        have := (k3 k (by omega)).mpr (Nat.le_refl _)
        rw [hy] at this
        cases this)
      refine ⟨k + 1, by omega, by omega, fun i hi => ?_, by omega⟩
      rw [w4 i]
      rcases Decidable.em (i = ix (S.1 1 h)) with c | c
      · rw [if_pos c]
        exact ⟨fun z => (by cases z), fun z => (by omega)⟩
      · rw [if_neg c, k3 i hi]
        omega
  · rw [w2 40 r rA ra] at hy
    have eb : b = y := Option.some.inj (v10.symm.trans hy)
    rw [w1 19 r rA ra (by decide) (by decide), ← eb, w1 0 b bA ba (by decide) (by decide)]
    exact bp b v10
  · rcases (tli u).mp hu with c | c
    · rw [c, w34, w29]
      exact ⟨Int.le_refl 0, hm, hrt.1, hrt.2⟩
    · obtain ⟨ua, uA⟩ := nt_t c2 c3 hc w0 c
      rw [w1 34 u uA ua (by decide) (by decide), w1 29 u uA ua (by decide) (by decide)]
      exact trn u c
  · rcases (tli u).mp hu with c | c
    · rw [c, wup_at]
      exact ⟨fun d _ hd => absurd hd (fun z => z), fun _ => by rw [w36]; exact hpc, fun z => absurd w34 z⟩
    · obtain ⟨ua, uA⟩ := nt_t c2 c3 hc w0 c
      rw [wup_ne ua]
      have k := ot u c
      have k1 : OTk V (W u) (T u) S1 u := OTk_e k (w1 36 u uA ua (by decide) (by decide)) (w1 34 u uA ua (by decide) (by decide)) (fun z => by rw [w1 30 u uA ua (by decide) (by decide)]; exact z) (fun j => (w3 59 u j uA ua).1 (by decide)) (fun j => (w3 60 u j uA ua).1 (by decide))
      exact ⟨k1.1, k1.2.1, fun z1 z2 => ⟨(k1.2.2 z1 z2).1, (k1.2.2 z1 z2).2.1, (k1.2.2 z1 z2).2.2.1, fun z3 => (k1.2.2 z1 z2).2.2.2 (z3.resolve_left ua)⟩⟩
theorem bg_set {y0 : Nat} {y1 y2 : Int32} {K2 : kS → Prop} (b : BTW r h pg sc N V Z0 c0 m S) (hK : ∀ S1, BTW r h pg sc N V Z0 c0 m S1 → K2 S1) : wT_X9_set y0 y1 y2 S K2 := by
  obtain ⟨A, T, U, L, D, P, W, bx⟩ := b
  have I := bx.2.2.2.2.2.2.2.2.1
  have hi := bx.2.2.2.2.2.2.1
  refine kmT_X9_set _ _ _ _ _ _ (fun S1 hF _ => ?_) (sk_X9_set _ _ _ I)
  have f := HF_k hF I (by decide) (by decide) (by decide)
  have f2 : HF [0, 2, 3, 4, 5, 13, 14, 15, 16, 30, 31, 32, 35, 37, 38, 39] [12, 13, 25, 26, 27] [0, 1, 4, 5, 6, 10, 58] [] S S1 := HF_s f (by decide) (by decide) (by decide) (by decide)
  exact hK S1 ⟨by rw [f.1 5 (by decide)]; exact A, T, U, L, D, P, W, BTX_k bx f2 (HI_f hi f (by decide) (by decide) (by decide) (by decide)) (fun u hu => OTk_k (bx.2.2.2.2.2.2.2.2.2 u hu) f2 (K3_f f (by decide)))⟩
theorem sk_X11_begin {a0 a1 a2 a3 a4 : Int32} (hP : PGM V) (hm : 0 ≤ m) (hk : (x, Sum.inl 11) ∈ Z0.2.2.2.2.2) (hx4 : Z0.2.1 74 x = some pg) (hx2 : Z0.2.1 72 x = some h) (b : BTW r h pg sc N V Z0 c0 m S) (hK : ∀ S1 r1, BTW r h pg sc N V Z0 c0 m S1 → K S1 r1) : wT_X11_begin x a0 a1 a2 a3 a4 S K := by
  have z0 : (0 : Int32).toInt = 0 := rfl
  have fx : ∀ {S9 : kS} (f : Nat), f ∈ [72, 74] → BTW r h pg sc N V Z0 c0 m S9 → S9.2.1 f x = Z0.2.1 f x := fun f hf b9 => ((BTW_z b9).2 x 11 (by decide) hk).2.1 f (by
    rcases List.mem_cons.mp hf with c | c
    · rw [c]; decide
    · rw [List.mem_singleton.mp c]; decide)
  unfold wT_X11_begin
  intro z1 e1
  refine ⟨pg, e1.trans ((fx 74 (by decide) b).trans hx4), ?_⟩
  unfold wT_X5_has
  have b0 := b
  obtain ⟨A, T, U, L, D, P, W, bx⟩ := b
  have bx0 := bx
  obtain ⟨env, _, _, _, _, _, c2, c3, c4, _⟩ := bx
  have ev := ENV_v env
  have r12 : V.1 18 ≤ 12 := hP.2.1.2
  refine ⟨fun _ => ⟨fun c => absurd rfl c, fun _ => hK S _ b0⟩, fun c0' => ?_⟩
  intro z2 e2
  have e2b : z2.toInt = V.1 18 := by rw [e2, ← ev]; rfl
  refine ⟨fun _ => ⟨fun c => absurd rfl c, fun _ => hK S _ b0⟩, fun c2' => ⟨fun _ => ?_, fun c => absurd c (by decide)⟩⟩
  have h0 : 0 ≤ a0.toInt := by
    have y := c0'
    rw [Int32.lt_iff_toInt_lt] at y
    omega
  have h1 : a0.toInt < V.1 18 := by
    have y := c2'
    rw [Int32.le_iff_toInt_le] at y
    omega
  intro z5 e5 q6 e6
  obtain rfl : h = q6 := Option.some.inj (((fx 72 (by decide) b0).trans hx2).symm.trans (e5.symm.trans e6))
  refine nk_X1_newTask (pg := pg) c4 c3 c2.1 env.2.1 env.2.2.2.1.2.1 ⟨h0, by omega⟩ ⟨c2.2.2.2.2.2.1.1.1, c2.2.2.2.2.2.1.1.2.1⟩ ⟨fun _ => hK S _ b0, fun q8 c => absurd c (fun z => by cases z)⟩ (fun S7 a w hha hc => ⟨fun c => absurd c (fun z => by cases z), fun q8 c => ?_⟩)
  obtain rfl : a = q8 := Option.some.inj c
  have kx := kx_int a0 h0
  have tg := hP.2.2.2.2.2.2.2.2.2.2.2.2.2 (ix a0) (by rw [kx]; exact h1)
  have ppc : PCG V (fun _ => False) (ar S 32 pg (ix a0)).toInt := by
    have y := PCG_t (W := fun _ => False) tg (GV_n (by decide))
    rw [← ev] at y ⊢
    exact y
  obtain ⟨bx7, e57⟩ := BTX_nt bx0 hm w hha hc ppc (by omega) ⟨h0, by omega⟩
  have b7 : BTW r h pg sc N V Z0 c0 m S7 := ⟨by rw [e57]; exact A, _, U, L, D, P, _, bx7⟩
  intro z9 e9
  refine ⟨pg, e9.trans ((fx 74 (by decide) b7).trans hx4), ?_⟩
  intro z11 e11 q12 e12
  refine ⟨⟨h0, by show a0.toInt < 12; omega⟩, ?_⟩
  intro z13 e13
  have fin : ∀ {y0 : Nat} {y1 y2 : Int32} {S9 : kS}, BTW r h pg sc N V Z0 c0 m S9 → wT_X11_begin_108 K a y0 y1 y2 S9 := fun b9 => by
    unfold wT_X11_begin_108
    exact bg_set b9 (fun S1 b1 z22 _ => hK S1 z22 b1)
  have f90 : ∀ {y0 : Nat} {y1 y2 : Int32} {S9 : kS}, BTW r h pg sc N V Z0 c0 m S9 → wT_X11_begin_90 K a4 a z13 y0 y1 y2 S9 := fun b9 => by
    unfold wT_X11_begin_90
    exact bg_set b9 (fun S1 b1 => ⟨fun _ => fin b1, fun _ => fin b1⟩)
  have f72 : ∀ {y0 : Nat} {y1 y2 : Int32} {S9 : kS}, BTW r h pg sc N V Z0 c0 m S9 → wT_X11_begin_72 K a3 a4 a z13 y0 y1 y2 S9 := fun b9 => by
    unfold wT_X11_begin_72
    exact bg_set b9 (fun S1 b1 => ⟨fun _ => f90 b1, fun _ => f90 b1⟩)
  have f55 : ∀ {y0 : Nat} {y1 y2 : Int32} {S9 : kS}, BTW r h pg sc N V Z0 c0 m S9 → wT_X11_begin_55 K a2 a3 a4 a z13 y0 y1 y2 S9 := fun b9 => by
    unfold wT_X11_begin_55
    exact bg_set b9 (fun S1 b1 => ⟨fun _ => f72 b1, fun _ => f72 b1⟩)
  exact ⟨fun _ => f55 b7, fun _ => f55 b7⟩
/-- the hall alone does something -/
theorem BTW_k (A : (S1.1 5 h).toInt = 0) (b : BTX r h pg sc N V Z0 c0 m T U L D P W S) (f : HF [0, 2, 3, 4, 5, 13, 14, 15, 16, 30, 31, 32, 35, 37, 38, 39] [12, 13, 25, 26, 27] [0, 1, 4, 5, 6, 10, 58] [] S S1) (hi1 : HI h N T (fun _ => True) U L D P S1) (k3 : K3 S S1) : BTW r h pg sc N V Z0 c0 m S1 := ⟨A, T, U, L, D, P, W, BTX_k b f hi1 (fun u hu => OTk_k (b.2.2.2.2.2.2.2.2.2 u hu) f k3)⟩
theorem sk_X11_letter {a0 a1 : Int32} (hx : S.2.1 72 x = some h) (b : BTW r h pg sc N V Z0 c0 m S) (hK : ∀ S1 r1, BTW r h pg sc N V Z0 c0 m S1 → K S1 r1) : wT_X11_letter x a0 a1 S K := by
  unfold wT_X11_letter
  obtain ⟨A, T, U, L, D, P, W, bx⟩ := b
  have I := bx.2.2.2.2.2.2.2.2.1
  intro z1 e1 q2 e2
  obtain rfl : h = q2 := Option.some.inj (hx.symm.trans (e1.symm.trans e2))
  refine kmT_X1_deliver _ _ _ _ _ _ (fun S3 r3 hF p3 => ?_) (sk_X1_deliver (N := N) (T := T) (G := fun _ => True) (U := U) (L := L) (D := D) (P := P) _ _ _ I A bx.2.2.2.2.2.2.1 (fun _ => trivial) bx.1.2.2.2.2.2.1)
  have f := HF_k hF I (by decide) (by decide) (by decide)
  exact hK S3 r3 (BTW_k p3.2.1 bx (HF_s f (by decide) (by decide) (by decide) (by decide)) p3.1 p3.2.2)
theorem sk_X11_tick {a0 : Int32} (hx : S.2.1 72 x = some h) (b : BTW r h pg sc N V Z0 c0 m S) (hK : ∀ S1 r1, BTW r h pg sc N V Z0 c0 m S1 → K S1 r1) : wT_X11_tick x a0 S K := by
  unfold wT_X11_tick
  have b0 := b
  obtain ⟨A, T, U, L, D, P, W, bx⟩ := b
  have I := bx.2.2.2.2.2.2.2.2.1
  refine ⟨fun _ => hK S _ b0, fun _ => ⟨fun _ => ?_, fun _ => hK S _ b0⟩⟩
  intro z3 e3 q4 e4
  obtain rfl : h = q4 := Option.some.inj (hx.symm.trans (e3.symm.trans e4))
  refine kmT_X1_pass _ _ _ _ _ (fun S5 hF p3 => ?_) (sk_X1_pass (N := N) (T := T) (G := fun _ => True) (U := U) (L := L) (D := D) (P := P) _ _ I A bx.2.2.2.2.2.2.1 (fun _ => trivial) bx.1.2.2.2.2.2.2.1)
  have f := HF_k hF I (by decide) (by decide) (by decide)
  intro z6 e6 q7 e7 z8 e8
  exact hK S5 z8 (BTW_k p3.2.1 bx (HF_s f (by decide) (by decide) (by decide) (by decide)) p3.1 p3.2.2)
theorem sk_X11_cancel {a0 : Int32} (hx : S.2.1 72 x = some h) (b : BTW r h pg sc N V Z0 c0 m S) (hK : ∀ S1 r1, BTW r h pg sc N V Z0 c0 m S1 → K S1 r1) : wT_X11_cancel x a0 S K := by
  unfold wT_X11_cancel
  obtain ⟨A, T, U, L, D, P, W, bx⟩ := b
  have I := bx.2.2.2.2.2.2.2.2.1
  intro z1 e1 q2 e2
  obtain rfl : h = q2 := Option.some.inj (hx.symm.trans (e1.symm.trans e2))
  refine kmT_X1_callOff _ _ _ _ _ (fun S3 r3 hF p3 => ?_) (sk_X1_callOff (N := N) (T := T) (G := fun _ => True) (U := U) (L := L) (D := D) (P := P) _ _ I bx.2.2.2.2.2.2.1 (fun _ => trivial) A)
  have f := HF_k hF I (by decide) (by decide) (by decide)
  exact ⟨p3.2.2.2, hK S3 r3 (BTW_k p3.2.1 bx (HF_s f (by decide) (by decide) (by decide) (by decide)) p3.1 p3.2.2.1)⟩
end FCs
