
theorem nI_sc {k : Nat} (h : k ≤ 4000) : nI k + 1 = nI (k + 1) := by
  have e0 : (nI k).toInt = (k : Int) := nI_toInt (by omega)
  have e1 : (nI (k + 1)).toInt = ((k + 1 : Nat) : Int) := nI_toInt (by omega)
  have y := w_add (z := nI k + 1) rfl (by rw [e0, show (1 : Int32).toInt = 1 from rfl]; omega)
  apply Int32.toInt_inj.mp
  rw [y, e0, e1, show (1 : Int32).toInt = 1 from rfl]
  omega
theorem sk_X10_add {t0 n : Nat} {a0 : Int64} {S : kS} {K : kS → Prop} (hI : INJ S) (hn : n ≤ 4000) (h41 : S.1 41 t0 = nI n) (hK : ∀ S1, HF [41] [] [67] [] S S1 → S1.1 41 t0 = nI (min 4000 (n + fs_n a0 8)) → K S1) : wT_X10_add t0 a0 S K := by
  unfold wT_X10_add
  have z0 : (0 : Int32).toInt = 0 := rfl
  refine it_rule (fun u : Nat × Int64 × Int32 × kS => u.1 = t0 ∧ u.2.1 = a0 ∧ ∃ j : Nat, j ≤ 8 ∧ u.2.2.1 = nI (8 * j) - 8 ∧ HF [41] [] [67] [] S u.2.2.2 ∧ ∃ m : Nat, u.2.2.2.1 41 t0 = nI (min 4000 (n + m)) ∧ m + fs_n a0 j = fs_n a0 8) (fun u => (u.2.2.1.toInt + 8).toNat) ?_ ⟨rfl, rfl, 8, Nat.le_refl _, rfl, HF_rf, 0, by show S.1 41 t0 = _; rw [h41]; congr 1; omega, by omega⟩
  rintro ⟨x0, x1, x3, Sl⟩ k3 ⟨h0, h1, j, hj, hx, f, m, hm, hs⟩ hk
  have h0 : x0 = t0 := h0
  have h1 : x1 = a0 := h1
  have hx : x3 = nI (8 * j) - 8 := hx
  have f : HF [41] [] [67] [] S Sl := f
  have hm : Sl.1 41 t0 = nI (min 4000 (n + m)) := hm
  subst h0
  subst h1
  have Il := INJ_hf hI f (by decide)
  show wT_X10_add_3 K k3 x0 x1 x3 Sl
  unfold wT_X10_add_3
  refine ⟨fun c => ?_, fun c => ?_⟩
  · cases j with
    | zero =>
      refine hK Sl f ?_
      rw [hm]
      have e : m = fs_n x1 8 := hs
      rw [e]
    | succ j =>
      rw [fs_sh j (by omega)] at hx
      have e1 : (nI (8 * j)).toInt = ((8 * j : Nat) : Int) := nI_toInt (by omega)
      rw [Int32.lt_iff_toInt_lt, hx, e1, z0] at c
      omega
  · intro z2 e2 z3 e3 z4 e4
    cases j with
    | zero =>
      rw [hx] at c
      exact absurd fs_neg c
    | succ j =>
      rw [fs_sh j (by omega)] at hx
      have e1 : (nI (8 * j)).toInt = ((8 * j : Nat) : Int) := nI_toInt (by omega)
      have eb : z4 = fs_b x1 j := by rw [e4, e3, e2, hx]; rfl
      have hs2 : m + (fs_n x1 j + (fs_ok (fs_b x1 j)).toNat) = fs_n x1 8 := hs
      have nx : ∀ (S9 : kS) (m9 : Nat), HF [41] [] [67] [] S S9 → S9.1 41 x0 = nI (min 4000 (n + m9)) → m9 + fs_n x1 j = fs_n x1 8 → wT_X10_add_70 K k3 x0 x1 x3 S9 := fun S9 m9 f9 q1 q2 => by
        unfold wT_X10_add_70
        intro z8 e8
        have ez : z8 = nI (8 * j) - 8 := by rw [e8, hx]; exact fs_m8
        have e9 : z8.toInt = ((8 * j : Nat) : Int) - 8 := by
          have y := w_sub (z := z8) ez (by rw [e1, show (8 : Int32).toInt = 8 from rfl]; omega)
          rw [e1] at y
          exact y
        refine hk _ ⟨rfl, rfl, j, by omega, ez, f9, m9, q1, q2⟩ ?_
        show (z8.toInt + 8).toNat < (x3.toInt + 8).toNat
        rw [e9, hx, e1]
        omega
      have yes : (fs_ok (fs_b x1 j)).toNat = 1 → wT_X10_add_38 K k3 x0 x1 x3 z4 Sl := fun ok => by
        rw [ok] at hs2
        unfold wT_X10_add_38
        intro z9 e9
        have v9 : z9.toInt = ((min 4000 (n + m) : Nat) : Int) := by rw [e9, hm]; exact nI_toInt (by omega)
        refine ⟨fun c1 => ?_, fun c1 => ?_⟩
        · have d := Int32.le_iff_toInt_le.mp c1
          rw [v9, show (4000 : Int32).toInt = 4000 from rfl] at d
          exact nx Sl (m + 1) f (by rw [hm]; congr 1; omega) (by omega)
        · have d : (min 4000 (n + m) : Nat) < 4000 := by
            have y := c1
            rw [Int32.le_iff_toInt_le, v9, show (4000 : Int32).toInt = 4000 from rfl] at y
            omega
          intro z11 e11 z12 e12 z13 e13 q14 e14
          refine ⟨by rw [e12, ← e9]; exact ⟨by omega, by show z9.toInt < 4000; omega⟩, ?_⟩
          intro S15 e15 z16 e16 z17 e17 S18 e18
          have w := ar_wr (Z := []) Il FX_rf (by decide) (by decide) (e11.symm.trans e14) e15
          have f15 := HF_a e15 w
          have f18 : HF [41] [] [67] [] S S18 := HF_tr f (HF_tr (HF_s f15 (by decide) (by decide) (by decide) (by decide)) (HF_s (HF_i e18) (by decide) (by decide) (by decide) (by decide)))
          refine nx S18 (m + 1) f18 ?_ (by omega)
          rw [e18, k_ii, if_pos ⟨rfl, rfl⟩, e17, e16, f15.1 41 (by decide), hm, nI_sc (by omega)]
          congr 1
          omega
      have no : (fs_ok (fs_b x1 j)).toNat = 0 → wT_X10_add_70 K k3 x0 x1 x3 Sl := fun ok => nx Sl m f hm (by omega)
      refine ⟨fun c1 => yes (by rw [← eb]; exact fs_y1 c1), fun c1 => ⟨fun c2 => no (by rw [← eb]; exact fs_n1 c1 c2), fun c2 => ⟨fun c3 => no (by rw [← eb]; exact fs_n2 c1 c3), fun c3 => yes (by rw [← eb]; exact fs_y2 c2 c3)⟩⟩⟩
theorem sk_X11_feed {x tk n : Nat} {a0 a1 a2 : Int64} {S : kS} {K : kS → Int32 → Prop} (hI : INJ S) (hx : S.2.1 69 x = some tk) (hn : n ≤ 4000) (h41 : S.1 41 tk = nI n) (hK : ∀ S1, HF [41] [] [67] [] S S1 → S1.1 41 tk = nI (min 4000 (n + (fs_n a0 8 + fs_n a1 8 + fs_n a2 8))) → K S1 (nI (min 4000 (n + (fs_n a0 8 + fs_n a1 8 + fs_n a2 8))))) : wT_X11_feed x a0 a1 a2 S K := by
  unfold wT_X11_feed
  intro z1 e1 q2 e2
  obtain rfl : tk = q2 := Option.some.inj (hx.symm.trans (e1.symm.trans e2))
  refine sk_X10_add hI hn h41 (fun S3 f3 n3 => ?_)
  have I3 := INJ_hf hI f3 (by decide)
  intro z4 e4 q5 e5
  obtain rfl : tk = q5 := Option.some.inj ((show S3.2.1 69 x = some tk by rw [f3.2.1 69 (by decide)]; exact hx).symm.trans (e4.symm.trans e5))
  refine sk_X10_add I3 (by omega) n3 (fun S6 f6 n6 => ?_)
  have I6 := INJ_hf I3 f6 (by decide)
  intro z7 e7 q8 e8
  obtain rfl : tk = q8 := Option.some.inj ((show S6.2.1 69 x = some tk by rw [f6.2.1 69 (by decide), f3.2.1 69 (by decide)]; exact hx).symm.trans (e7.symm.trans e8))
  refine sk_X10_add I6 (by omega) n6 (fun S9 f9 n9 => ?_)
  intro z10 e10 q11 e11
  obtain rfl : tk = q11 := Option.some.inj ((show S9.2.1 69 x = some tk by rw [f9.2.1 69 (by decide), f6.2.1 69 (by decide), f3.2.1 69 (by decide)]; exact hx).symm.trans (e10.symm.trans e11))
  intro z12 e12
  have e : min 4000 (min 4000 (min 4000 (n + fs_n a0 8) + fs_n a1 8) + fs_n a2 8) = min 4000 (n + (fs_n a0 8 + fs_n a1 8 + fs_n a2 8)) := by omega
  rw [e] at n9
  rw [e12, n9]
  exact hK S9 (HF_tr f3 (HF_tr f6 f9)) n9
/-- what the lexer asks and leaves -/
def TQS (tk : Nat) (S : kS) : Prop := 0 ≤ (S.1 40 tk).toInt ∧ (S.1 40 tk).toInt ≤ 4001 ∧ ar S 64 tk 4001 = 4 ∧ ∀ i, 0 ≤ (ar S 65 tk i).toInt ∧ (ar S 65 tk i).toInt ≤ 4000
theorem sk_X11_named {x tk pg : Nat} {a0 : Int32} {S : kS} {K : kS → Int32 → Prop} (hI : INJ S) (hx : S.2.1 69 x = some tk) (hp : S.2.1 74 x = some pg) (hq : TQS tk S) (hs : 0 ≤ (S.1 41 tk).toInt ∧ (S.1 41 tk).toInt ≤ 4000) (h35 : ∀ i, 0 ≤ (ar S 35 pg i).toInt ∧ (ar S 35 pg i).toInt ≤ 12) (h18 : 0 ≤ (S.1 18 pg).toInt ∧ (S.1 18 pg).toInt ≤ 12) (hK : ∀ S1 r1, HF [40, 41] [] [64, 65] [] S S1 → TQS tk S1 → S1.1 41 tk = 0 → K S1 r1) : wT_X11_named x a0 S K := by
  unfold wT_X11_named
  intro z1 e1 q2 e2
  obtain rfl : tk = q2 := Option.some.inj (hx.symm.trans (e1.symm.trans e2))
  refine kmT_X10_read _ _ _ _ (fun S3 hF p3 => ?_) (sk_X10_read _ hI hq hs)
  have f := HF_k hF hI (by decide) (by decide) (by decide)
  have I3 := INJ_hf hI f (by decide)
  have fin : ∀ r1, K S3 r1 := fun r1 => hK S3 r1 f ⟨by omega, p3.2.1, p3.2.2.1, p3.2.2.2.2.1⟩ p3.2.2.2.2.2
  have hp3 : S3.2.1 74 x = some pg := by rw [f.2.1 74 (by decide)]; exact hp
  intro z4 e4 q5 e5
  refine kmT_X10_onlyWord _ _ _ _ (fun S6 r6 hF6 p6 => ?_) (sk_X10_onlyWord _ I3)
  have p6 : S3 = S6 := p6
  subst p6
  intro z7 e7
  refine ⟨fun _ => ⟨fun _ => ?_, fun _ => ?_⟩, fun _ => fin _⟩
  · intro z10 e10
    refine ⟨pg, e10.trans hp3, ?_⟩
    refine kmT_X5_cellNamed _ _ _ _ _ _ (fun S12 r12 hF12 p12 => ?_) (sk_X5_cellNamed _ _ _ I3 (by rw [f.2.2.1 35 (by decide)]; exact h35) (by rw [f.1 18 (by decide)]; exact h18))
    have p12 : S3 = S12 := p12
    subst p12
    exact fin _
  · intro z13 e13
    refine ⟨pg, e13.trans hp3, ?_⟩
    refine kmT_X5_routineNamed _ _ _ _ _ (fun S15 r15 hF15 p15 => ?_) (sk_X5_routineNamed _ _ I3 (by rw [f.1 18 (by decide)]; exact h18))
    obtain ⟨p15, _⟩ := p15
    subst p15
    exact fin _
theorem sk_X11_stands {x h : Nat} {a0 a1 : Int32} {S : kS} {K : kS → Int32 → Prop} {N T G : Nat → Prop} {U : List Nat} {L : Nat → List Nat} {D : Nat → Nat} {P : Nat → Int32} (hI : INJ S) (hx : S.2.1 72 x = some h) (g : HI h N T G U L D P S) (hN : ∀ i l, i < 8 → qa S 7 h i = some l → N l) (hK : ∀ r1, K S r1) : wT_X11_stands x a0 a1 S K := by
  unfold wT_X11_stands
  have z0 : (0 : Int32).toInt = 0 := rfl
  have z8 : (8 : Int32).toInt = 8 := rfl
  refine ⟨fun _ => hK _, fun c0 => ⟨fun c1 => ?_, fun _ => hK _⟩⟩
  intro z3 e3 q4 e4
  obtain rfl : h = q4 := Option.some.inj (hx.symm.trans (e3.symm.trans e4))
  intro z5 e5 q6 e6
  have h0 : 0 ≤ a0.toInt := by
    have y := c0
    rw [Int32.lt_iff_toInt_lt] at y
    omega
  have h1 : a0.toInt < 8 := by
    have y := Int32.lt_iff_toInt_lt.mp c1
    omega
  refine ⟨⟨h0, h1⟩, ?_⟩
  intro z7 e7 q8 e8
  have e16 : qa S 7 h (ix a0) = some q8 := (qa_rd (Z := []) (S0 := S) FX_rf (by decide) (by decide) (e5.symm.trans e6)).symm.trans (e7.symm.trans e8)
  obtain ⟨Q, hw⟩ := HI_lw g (hN (ix a0) q8 (jix_lt (n := 8) h0 h1) e16)
  refine kmT_X2_taskAt _ _ _ _ _ (fun S9 r9 hF p9 => ?_) (sk_X2_taskAt (Q := Q) _ _ hI hw)
  have p9 : S = S9 := p9
  subst p9
  exact hK _
section KRs
variable {x pr p2 s2 : Nat} {S S1 : kS}
/-- what Parser.read leaves alone -/
def KOr (pr p2 s2 : Nat) (S S1 : kS) : Prop := (∀ f o, ¬ A39 pr p2 s2 o → S1.1 f o = S.1 f o) ∧ (∀ f o, ¬ (o = pr ∧ (f = 15 ∨ f = 16)) → S1.2.1 f o = S.2.1 f o) ∧ ∀ b, ¬ OW9 pr p2 s2 S b → S1.2.2.1 b = S.2.2.1 b
theorem ko_read {K K1 : kS → Int32 → Prop} (h31 : S.2.1 31 p2 = some s2) (hk : ∀ S1 r, KOr pr p2 s2 S S1 → K S1 r → K1 S1 r) (w : wT_X3_read pr p2 S K) : wT_X3_read pr p2 S K1 := by
  unfold wT_X3_read at w ⊢
  intro S1 e1
  replace w := w S1 e1
  intro z2 e2
  replace w := w z2 e2
  obtain ⟨q3, e3, w⟩ := w
  refine ⟨q3, e3, ?_⟩
  have r1 : ∀ f o, ¬ (f = 15 ∧ o = pr) → S1.2.1 f o = S.2.1 f o := fun f o h => by rw [e1, k_rr, if_neg h]
  have m3 : q3 = p2 := by
    rw [e2, e1, k_rr, if_pos ⟨rfl, rfl⟩] at e3
    exact (Option.some.inj e3).symm
  have c1 : CL5 pr p2 s2 S1 := by
    show S1.2.1 31 p2 = some s2
    rw [r1 31 p2 (fun c => absurd c.1 (by decide))]
    exact h31
  refine koT_X5_clear (gA := pr) (gB := p2) (gC := s2) _ m3 _ _ _ c1 (fun S4 hG w => ?_) w
  intro z5 e5
  replace w := w z5 e5
  obtain ⟨q6, e6, w⟩ := w
  refine ⟨q6, e6, ?_⟩
  intro z7 e7
  replace w := w z7 e7
  intro S8 e8
  replace w := w S8 e8
  intro S9 e9
  replace w := w S9 e9
  intro S10 e10
  replace w := w S10 e10
  intro S11 e11
  replace w := w S11 e11
  intro S12 e12
  replace w := w S12 e12
  intro S13 e13
  replace w := w S13 e13
  intro S14 e14
  replace w := w S14 e14
  have m6 : q6 = p2 := by
    rw [e5, hG.2.1, e1, k_rr, if_pos ⟨rfl, rfl⟩] at e6
    exact (Option.some.inj e6).symm
  have v7 : z7 = some s2 := by rw [e7, m6, hG.2.1]; exact c1
  have r14 : ∀ f, S14.2.1 f = S8.2.1 f := fun f => by rw [e14, e13, e12, e11, e10, e9]; rfl
  have r8 : ∀ f o, ¬ (f = 16 ∧ o = pr) → S8.2.1 f o = S4.2.1 f o := fun f o h => by rw [e8, k_rr, if_neg h]
  have i14 : ∀ f o, o ≠ pr → S14.1 f o = S4.1 f o := fun f o h => by rw [e14, k_ii, if_neg (fun c => h c.2), e13, k_ii, if_neg (fun c => h c.2), e12, k_ii, if_neg (fun c => h c.2), e11, k_ii, if_neg (fun c => h c.2), e10, k_ii, if_neg (fun c => h c.2), e9, k_ii, if_neg (fun c => h c.2), e8, k_ri]
  have a14 : S14.2.2.1 = S4.2.2.1 := by rw [e14, e13, e12, e11, e10, e9, e8]; rfl
  have a1 : S1.2.2.1 = S.2.2.1 := by rw [e1]; rfl
  have C14 : CL3 pr p2 s2 S14 := by
    refine ⟨?_, ?_, ?_⟩
    · show S14.2.1 31 p2 = some s2
      rw [r14, r8 31 p2 (fun c => absurd c.1 (by decide)), hG.2.1]
      exact c1
    · rw [r14, r8 15 pr (fun c => absurd c.1 (by decide)), hG.2.1, e1, k_rr, if_pos ⟨rfl, rfl⟩]
    · rw [r14, e8, k_rr, if_pos ⟨rfl, rfl⟩]
      exact v7
  have rr : ∀ f o, ¬ (o = pr ∧ (f = 15 ∨ f = 16)) → S14.2.1 f o = S.2.1 f o := fun f o h => by rw [r14, r8 f o (fun c => h ⟨c.2, Or.inr c.1⟩), hG.2.1, r1 f o (fun c => h ⟨c.2, Or.inl c.1⟩)]
  have ow : ∀ b, OW9 pr p2 s2 S14 b → OW9 pr p2 s2 S b := fun b h => by
    obtain ⟨f, hf, o, ho, e⟩ := h
    refine ⟨f, hf, o, ho, ?_⟩
    rw [← rr f o (fun c => by rcases c.2 with c9 | c9 <;> (rw [c9] at hf; exact absurd hf (by decide)))]
    exact e
  have ow1 : ∀ b, OW9 pr p2 s2 S1 b → OW9 pr p2 s2 S b := fun b h => by
    obtain ⟨f, hf, o, ho, e⟩ := h
    refine ⟨f, hf, o, ho, ?_⟩
    rw [← r1 f o (fun c => by rw [c.1] at hf; exact absurd hf (by decide))]
    exact e
  obtain ⟨n9, w⟩ := w
  refine ⟨n9, kolT_X3_read_55 C14 (fun S9 r9 hO kk => hk S9 r9 ⟨fun f o ho => ?_, fun f o ho => ?_, fun b hb => ?_⟩ kk) n9 _ rfl KO_rf w⟩
  · rw [hO.1 f o ho, i14 f o (fun c => ho (Or.inl c)), hG.1 f o ho, e1, k_ri]
  · rw [hO.2.1, rr f o ho]
  · rw [hO.2.2 b (fun c => hb (ow b c)), a14, hG.2.2 b (fun c => hb (ow1 b c)), a1]
end KRs
