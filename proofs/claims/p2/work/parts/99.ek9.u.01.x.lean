
section PRs
variable {S S1 S3 S8 S13 : kS} {x o r h pg sc tk pr tb p2 s2 : Nat} {N : Nat → Prop} {V V2 : PV} {c0 m : Int} {n k : Nat} {Z0 : kS}
theorem KOr_ar (hI : INJ S) (g : KOr pr p2 s2 S S1) {f a i : Nat} (ha : ¬ A39 pr p2 s2 a) : ar S1 f a i = ar S f a i := by
  unfold ar
  rcases Decidable.em (f ∈ arrL) with hf | hf
  · rw [if_pos hf, if_pos hf, g.2.1 f a (fun c => ha (Or.inl c.1))]
    cases hb : S.2.1 f a with
    | none => rfl
    | some b =>
      show S1.2.2.1 b i = S.2.2.1 b i
      rw [g.2.2 b (fun c => by
        obtain ⟨f9, hf9, o9, ho9, e9⟩ := c
        have y := (hI f f9 a o9 b hf hf9 hb e9).2
        exact ha (by rw [y]; exact ho9))]
  · rw [if_neg hf, if_neg hf]
/-- the parser has read into the spare program: the hall, the told program are as they were -/
theorem BTW_p (b : BTW r h pg sc N V Z0 c0 m S) (f : HF ([6, 7, 8, 9, 10, 11, 17, 18, 24, 25, 26, 27, 40, 41]) [15, 16, 55] ([17, 18, 19, 28, 29, 30, 32, 33, 34, 35, 36, 37, 43, 44, 45, 46, 47, 48, 49, 50, 51, 52, 53, 54, 67, 64, 65]) [] S S1) (hp : pv pg sc S1 = pv pg sc S) (h31 : S1.2.1 31 pg = S.2.1 31 pg) : BTW r h pg sc N V S1 c0 m S1 := by
  obtain ⟨A, T, U, L, D, P, W, env, ⟨k9, k1, k2, k3, k4⟩, b19, bp, trn, h18, hi, kd, I, ot⟩ := b
  obtain ⟨v1, v2, v3, ⟨v4, v5, v6, _⟩, v7, v8, v9, bb, v10, v11, v12⟩ := env
  have tle : tl S1 h = tl S h := tl_e (f.1 1 (by decide)) (f.2.2.2.1 3 (by decide))
  refine ⟨by rw [f.1 5 (by decide)]; exact A, T, U, L, D, P, W, ⟨by rw [f.2.1 41 (by decide)]; exact v1, by rw [f.2.1 2 (by decide)]; exact v2, by rw [h31]; exact v3, ⟨by rw [f.2.2.2.2]; exact v4, by rw [f.2.2.2.2]; exact v5, by rw [f.2.2.2.2]; exact v6, FRZ_rf⟩, hp.trans v7, by rw [f.2.2.2.1 7 (by decide)]; exact v8, by rw [f.2.1 8 (by decide)]; exact v9, bb, by rw [f.2.1 40 (by decide)]; exact v10, by rw [f.2.2.2.2]; exact v11, by rw [f.2.1 9 (by decide)]; exact v12⟩, ⟨k9, ?_, k2, ?_, ?_⟩, by rw [f.1 19 (by decide)]; exact b19, by rw [f.2.1 40 (by decide), f.1 0 (by decide), f.1 19 (by decide)]; exact bp, TRN_f trn f (by decide) (by decide), by rw [f.1 1 (by decide)]; exact h18, HI_f hi f (by decide) (by decide) (by decide) (by decide), KDI_e kd f (by decide) (by decide) (by decide), INJ_hf I f (by decide), fun u hu => ?_⟩
  · unfold cnt at k1 ⊢
    rw [f.2.2.2.2]
    exact k1
  · rw [f.2.2.2.1 3 (by decide)]
    exact k3
  · unfold cnt at k4 ⊢
    rw [f.2.2.2.2, f.1 19 (by decide)]
    exact k4
  · rw [tle] at hu
    exact OTk_e (ot u hu) (by rw [f.1 36 (by decide)]) (by rw [f.1 34 (by decide)]) (fun z => by rw [f.1 30 (by decide)]; exact z) (fun j => by rw [f.2.2.1 59 (by decide)]) (fun j => by rw [f.2.2.1 60 (by decide)])
/-- the hall is opened for the new program -/
theorem BTW_o {S13 S18 S23 : kS} {b9 : Nat} (b : BTW r h pg sc N V Z0 c0 m S) (f13 : HF [] [74, 75] [] [] S S13) (f18 : HF [0, 1, 2, 3, 4] [2, 11, 12, 13, 24, 61, 62, 63] [6] [] S13 S18) (f23 : HF [0] [] [] [] S18 S23) (hb : S.2.1 40 r = some b9) (hc : S23.1 0 b9 = 0 ∧ ∀ y, y ≠ b9 → S23.1 0 y = S18.1 0 y) (d2 : (p2, Sum.inl 5) ∈ S.2.2.2.2.2) (d7 : (s2, Sum.inl 7) ∈ S.2.2.2.2.2) (h31 : S.2.1 31 p2 = some s2) (h2 : S18.2.1 2 h = some p2) (h1 : (S18.1 1 h).toInt = 0) (h5 : (S18.1 5 h).toInt = 0) {T : Nat → Prop} {U : List Nat} {D : Nat → Nat} {P : Nat → Int32} (hi : HI h N T (fun _ => True) U (fun _ => []) D P S18) : BTW r h p2 s2 N (pv p2 s2 S) S23 c0 m S23 := by
  obtain ⟨A, T9, U9, L9, D9, P9, W, env, ⟨k9, k1, k2, k3, k4⟩, b19, bp, trn, _, _, kd, I, ot⟩ := b
  obtain ⟨v1, v2, v3, ⟨v4, v5, v6, _⟩, v7, v8, v9, bb, v10, v11, v12⟩ := env
  have eb : b9 = bb := Option.some.inj (hb.symm.trans v10)
  have g : HF [0, 1, 2, 3, 4] [2, 11, 12, 13, 24, 61, 62, 63, 74, 75] [6] [] S S23 := HF_tr (HF_s f13 (by decide) (by decide) (by decide) (by decide)) (HF_tr (HF_s f18 (by decide) (by decide) (by decide) (by decide)) (HF_s f23 (by decide) (by decide) (by decide) (by decide)))
  have e1 : (S23.1 1 h).toInt = 0 := by rw [f23.1 1 (by decide)]; exact h1
  have z0 : (0 : Int32).toInt = 0 := rfl
  have notl : ∀ u, ¬ tl S23 h u := fun u hu => by
    obtain ⟨i, hi9, _⟩ := hu
    omega
  have l9 : S18.2.1 9 h = S.2.1 9 h := by rw [f18.2.1 9 (by decide), f13.2.1 9 (by decide)]
  have hi23 : HI h N T (fun _ => True) U (fun _ => []) D (S23.1 0) S23 := HI_gen (l := []) hi f23 (by decide) (by decide) (by decide) (by decide) (LNS_e hi.2.2.1 (f23.2.1 12 (by decide)) (f23.2.1 13 (by decide)) (f23.2.1 25 (by decide)) (f23.2.1 26 (by decide)) (f23.2.1 27 (by decide)) (f23.1 13 (by decide))) (STM_e STM_rf (fun y => by rw [f23.1 13 (by decide)])) (fun t q ht hq => (hi.2.1.2.2.1 t ht).2.2 q (by rw [← f23.2.1 63 (by decide)]; exact hq)) (fun y hy => hc.2 y (fun c => v12 (by rw [← l9, ← eb, ← c]; exact hy))) (LTS_e hi.2.2.2.2.2.2.2.2 (f23.2.2.1 6 (by decide)))
  refine ⟨by rw [f23.1 5 (by decide)]; exact h5, T, U, fun _ => [], D, S23.1 0, W, ⟨by rw [g.2.1 41 (by decide)]; exact v1, by rw [f23.2.1 2 (by decide)]; exact h2, by rw [g.2.1 31 (by decide)]; exact h31, ⟨by rw [g.2.2.2.2]; exact v4, by rw [g.2.2.2.2]; exact d2, by rw [g.2.2.2.2]; exact d7, FRZ_rf⟩, pv_f g (by decide) (by decide), by rw [g.2.2.2.1 7 (by decide)]; exact v8, by rw [g.2.1 8 (by decide)]; exact v9, bb, by rw [g.2.1 40 (by decide)]; exact v10, by rw [g.2.2.2.2]; exact v11, by rw [g.2.1 9 (by decide)]; exact v12⟩, ⟨k9, ?_, k2, ?_, ?_⟩, by rw [g.1 19 (by decide)]; exact b19, fun y hy => ?_, fun u hu => absurd hu (notl u), fun c => absurd c (by rw [e1]; decide), hi23, KDI_e kd g (by decide) (by decide) (by decide), INJ_hf I g (by decide), fun u hu => absurd hu (notl u)⟩
  · unfold cnt at k1 ⊢
    rw [g.2.2.2.2]
    exact k1
  · rw [g.2.2.2.1 3 (by decide)]
    exact k3
  · unfold cnt at k4 ⊢
    rw [g.2.2.2.2, g.1 19 (by decide)]
    exact k4
  · rw [g.2.1 40 (by decide)] at hy
    have e9 : b9 = y := Option.some.inj (hb.symm.trans hy)
    rw [← e9, hc.1, g.1 19 (by decide), z0]
    exact ⟨Int.le_refl _, b19.1⟩
theorem sk_X11_program {K : kS → Int32 → Prop} (g : KST x o r h pg sc tk pr tb p2 s2 N V c0 n k S) (hK : ∀ S1 r1, (WT S1.2.2.2.2.2 S1 → (∃ V1, KST x o r h pg sc tk pr tb p2 s2 N V1 c0 0 k S1) ∨ ∃ V1, KST x o r h p2 s2 tk pr tb pg sc N V1 c0 0 k S1) → K S1 r1) : wT_X11_program x S K := by
  unfold wT_X11_program
  obtain ⟨d1, d2, d3, d4, d5, d6, d7, d8⟩ := KST_d g
  obtain ⟨⟨w, hx, ho⟩, ⟨e1, e2, e3, e4, e5, e6, e7⟩, ⟨e8, e9, e10, e11⟩, ⟨q1, qS⟩, ⟨q2, q3⟩, ⟨q4, q5, q6⟩, q7, b⟩ := g
  have b0 := b
  obtain ⟨A, T, U, L, D, P, W, env, _, _, _, _, _, hi, kd, I, _⟩ := b
  have ev := ENV_v env
  have u := kd.2.2.1
  have kne : ∀ {a1 a2 c1 c2 : Nat}, (a1, Sum.inl c1) ∈ S.2.2.2.2.2 → (a2, Sum.inl c2) ∈ S.2.2.2.2.2 → c1 ≠ c2 → a1 ≠ a2 := fun {a1 a2 c1 c2} h1 h2 hc e => by
    have y := u a1 _ _ h1 (by rw [e]; exact h2)
    have y2 : c1 = c2 := by injection y
    exact hc y2
  have pgA : ¬ A39 pr p2 s2 pg := fun c => by
    rcases c with c | c | c
    · exact kne d6 d2 (by decide) c
    · exact e10 c
    · exact kne d6 d5 (by decide) c
  have scA : ¬ A39 pr p2 s2 sc := fun c => by
    rcases c with c | c | c
    · exact kne d7 d2 (by decide) c
    · exact kne d7 d4 (by decide) c
    · exact e11 c
  have nn : (nI n).toInt = (n : Int) := nI_toInt (by omega)
  intro z1 e1' q2' e2'
  obtain rfl : tk = q2' := Option.some.inj (e1.symm.trans (e1'.symm.trans e2'))
  refine kmT_X10_read _ _ _ _ (fun S3 hF3 p3 => ?_) (sk_X10_read _ I q6 (by rw [q4, nn]; omega))
  have f3 := HF_k hF3 I (by decide) (by decide) (by decide)
  have I3 := INJ_hf I f3 (by decide)
  have ht3 : TKI (vw pr tk p2 s2 S3) := ⟨p3.1, p3.2.1, by show (ar S3 64 tk 4001).toInt = 4; rw [p3.2.2.1]; rfl, by show (ar S3 64 tk ((S3.1 40 tk).toInt - 1).toNat).toInt = 0; rw [p3.2.2.2.1]; rfl, p3.2.2.2.2.1⟩
  have rg3 : ∀ {a b : Nat}, RGS pr a b S → RGS pr a b S3 := fun hh => RGS_e hh (fun f i hf => by
    rcases (by simpa using hf : f = 30 ∨ f = 35 ∨ f = 36 ∨ f = 37) with c | c | c | c <;> (rw [c, f3.2.2.1 _ (by decide)])) (fun f i hf => by
    rcases (by simpa using hf : f = 43 ∨ f = 44 ∨ f = 45) with c | c | c <;> (rw [c, f3.2.2.1 _ (by decide)])) (by rw [f3.2.2.1 17 (by decide)]; exact hh.2.2.2.2.2.2.2)
  intro z4 e4' z5 e5' q6' e6'
  have x70 : S3.2.1 70 x = some pr := by rw [f3.2.1 70 (by decide)]; exact e2
  have x75 : S3.2.1 75 x = some p2 := by rw [f3.2.1 75 (by decide)]; exact e7
  obtain rfl : pr = q6' := Option.some.inj (x70.symm.trans (e4'.symm.trans e6'))
  refine ⟨p2, e5'.trans x75, ?_⟩
  have s31 : S3.2.1 31 p2 = some s2 := by rw [f3.2.1 31 (by decide)]; exact e8
  have s14 : S3.2.1 14 pr = some tk := by rw [f3.2.1 14 (by decide)]; exact e9
  have wr := ko_read (pr := pr) (s2 := s2) (K1 := fun S1 r1 => KOr pr p2 s2 S3 S1 ∧ (((vw pr tk p2 s2 S1).1 7 = 0 → WFP (vw pr tk p2 s2 S1)) ∧ jRB (vw pr tk p2 s2 S1) ∧ r1.toInt = (vw pr tk p2 s2 S1).1 7 ∧ ((vw pr tk p2 s2 S1).1 7 = 0 → STI (fun _ => False) (vw pr tk p2 s2 S1)))) s31 (fun S1 r1 hO p => ⟨hO, p⟩) (sk_X3_read (tk := tk) (pg := p2) (sc := s2) pr p2 I3 s14 s31 rfl ht3 (RGS_a (rg3 q3)))
  refine kmT_X3_read _ _ _ _ _ (fun S8 r8 hF8 p8 => ?_) wr
  obtain ⟨ko, pw, pb, pr8, ps⟩ := p8
  have f8 := HF_k hF8 I3 (by decide) (by decide) (by decide)
  have f : HF ([6, 7, 8, 9, 10, 11, 17, 18, 24, 25, 26, 27, 40, 41]) [15, 16, 55] ([17, 18, 19, 28, 29, 30, 32, 33, 34, 35, 36, 37, 43, 44, 45, 46, 47, 48, 49, 50, 51, 52, 53, 54, 67, 64, 65]) [] S S8 := HF_tr (HF_s f3 (by decide) (by decide) (by decide) (by decide)) (HF_s f8 (by decide) (by decide) (by decide) (by decide))
  have hp : pv pg sc S8 = pv pg sc S := by
    rw [pv_o (S := S3) (fun f9 _ _ => ko.1 f9 pg pgA) (fun f9 _ _ => ko.1 f9 sc scA) (fun f9 i _ => KOr_ar I3 ko pgA) (fun f9 i _ => KOr_ar I3 ko scA)]
    exact pv_f f3 (by decide) (by decide)
  have r31 : ∀ a, S8.2.1 31 a = S.2.1 31 a := fun a => by rw [f.2.1 31 (by decide)]
  have b8 := BTW_p b0 f hp (r31 pg)
  have t8 : TQS tk S8 := by
    unfold TQS
    rw [f8.1 40 (by decide), f8.2.2.1 64 (by decide), f8.2.2.1 65 (by decide)]
    exact ⟨by omega, p3.2.1, p3.2.2.1, p3.2.2.2.2.1⟩
  have n8 : S8.1 41 tk = nI 0 := by rw [f8.1 41 (by decide), p3.2.2.2.2.2]; rfl
  have rg8 : RGS pr pg sc S8 := RGS_e (rg3 q2) (fun f9 i _ => KOr_ar I3 ko pgA) (fun f9 i _ => KOr_ar I3 ko scA) (RGS_b pb).2.2.2.2.2.2.2
  have rg9 : RGS pr p2 s2 S8 := RGS_b pb
  refine ⟨fun c => hK S8 r8 (fun w8 => Or.inl ⟨V, ⟨w8, by rw [f.2.2.2.2]; exact hx, by rw [f.2.2.2.2]; exact ho⟩, ⟨by rw [f.2.1 69 (by decide)]; exact e1, by rw [f.2.1 70 (by decide)]; exact e2, by rw [f.2.1 71 (by decide)]; exact e3, by rw [f.2.1 72 (by decide)]; exact e4, by rw [f.2.1 73 (by decide)]; exact e5, by rw [f.2.1 74 (by decide)]; exact e6, by rw [f.2.1 75 (by decide)]; exact e7⟩, ⟨by rw [r31]; exact e8, by rw [f.2.1 14 (by decide)]; exact e9, e10, e11⟩, ⟨q1, qS⟩, ⟨rg8, rg9⟩, ⟨n8, Nat.zero_le _, t8⟩, by rw [f.2.1 8 (by decide), f.2.2.2.1 7 (by decide)]; exact q7, b8⟩), fun c => ?_⟩
  have f7 : (vw pr tk p2 s2 S8).1 7 = 0 := by rw [← pr8, c]; rfl
  intro z10 e10' z11 e11' S12 e12' S13 e13' z14 e14' z15 e15' q16 e16'
  have g12 := HF_r e12' (by decide)
  have g13 := HF_r e13' (by decide)
  have f13 : HF [] [74, 75] [] [] S8 S13 := HF_tr (HF_s g12 (by decide) (by decide) (by decide) (by decide)) (HF_s g13 (by decide) (by decide) (by decide) (by decide))
  have y72 : S13.2.1 72 x = some h := by rw [f13.2.1 72 (by decide), f.2.1 72 (by decide)]; exact e4
  have y74 : S13.2.1 74 x = some p2 := by rw [e13', k_rr, if_neg (fun z => absurd z.1 (by decide)), e12', k_rr, if_pos ⟨rfl, rfl⟩, e11', f.2.1 75 (by decide)]; exact e7
  have y75 : S13.2.1 75 x = some pg := by rw [e13', k_rr, if_pos ⟨rfl, rfl⟩, e10', f.2.1 74 (by decide)]; exact e6
  obtain rfl : h = q16 := Option.some.inj (y72.symm.trans (e14'.symm.trans e16'))
  refine ⟨p2, e15'.trans y74, ?_⟩
  have b8' := b8
  obtain ⟨A8, T8, U8, L8, D8, P8, W8, env8, _, _, _, _, _, hi8, kd8, I8, _⟩ := b8'
  have I13 := INJ_hf I8 f13 (by decide)
  have hi13 := HI_f hi8 f13 (by decide) (by decide) (by decide) (by decide)
  have kb := hi13.2.2.2.2.2.2.2.1.2
  refine kmT_X1_open _ _ _ _ _ (fun S18 hF18 p18 => ?_) (sk_X1_open (N := N) (T := T8) (G := fun _ => True) (U := U8) (L := L8) (D := D8) (P := P8) _ _ I13 hi13.1 hi13.2.1 (by rw [f13.1 5 (by decide)]; exact A8) (by rw [f13.2.1 8 (by decide), f13.2.2.2.1 7 (by decide), f.2.1 8 (by decide), f.2.2.2.1 7 (by decide)]; exact q7) kb)
  have f18 := HF_k hF18 I13 (by decide) (by decide) (by decide)
  have I18 := INJ_hf I13 f18 (by decide)
  obtain ⟨U1, h18, a18, t18, s18⟩ := p18
  intro z19 e19 q20 e20
  have y73 : S18.2.1 73 x = some r := by rw [f18.2.1 73 (by decide), f13.2.1 73 (by decide), f.2.1 73 (by decide)]; exact e5
  obtain rfl : r = q20 := Option.some.inj (y73.symm.trans (e19.symm.trans e20))
  intro z21 e21 q22 e22
  have y40 : S8.2.1 40 r = some q22 := by rw [← f13.2.1 40 (by decide), ← f18.2.1 40 (by decide)]; exact e21.symm.trans e22
  refine kmT_X0_clear _ _ _ _ (fun S23 hF23 p23 => ?_) (sk_X0_clear _ I18)
  have f23 := HF_k hF23 I18 (by decide) (by decide) (by decide)
  have b23 := BTW_o b8 f13 (HF_s f18 (by decide) (by decide) (by decide) (by decide)) f23 y40 p23 (by rw [f.2.2.2.2]; exact d4) (by rw [f.2.2.2.2]; exact d5) (by rw [r31]; exact e8) s18 t18 a18 h18
  have gg : HF [0, 1, 2, 3, 4] [2, 11, 12, 13, 24, 61, 62, 63] [6] [] S13 S23 := HF_tr (HF_s f18 (by decide) (by decide) (by decide) (by decide)) (HF_s f23 (by decide) (by decide) (by decide) (by decide))
  have ga : HF [0, 1, 2, 3, 4] [2, 11, 12, 13, 24, 61, 62, 63, 74, 75] [6] [] S8 S23 := HF_tr (HF_s f13 (by decide) (by decide) (by decide) (by decide)) (HF_s gg (by decide) (by decide) (by decide) (by decide))
  have rgx : ∀ {a b : Nat}, RGS pr a b S8 → RGS pr a b S23 := fun hh => RGS_e hh (fun f9 i hf => by
    rcases (by simpa using hf : f9 = 30 ∨ f9 = 35 ∨ f9 = 36 ∨ f9 = 37) with c9 | c9 | c9 | c9 <;> (rw [c9, ga.2.2.1 _ (by decide)])) (fun f9 i hf => by
    rcases (by simpa using hf : f9 = 43 ∨ f9 = 44 ∨ f9 = 45) with c9 | c9 | c9 <;> (rw [c9, ga.2.2.1 _ (by decide)])) (by rw [ga.2.2.1 17 (by decide)]; exact hh.2.2.2.2.2.2.2)
  refine hK S23 r8 (fun w23 => Or.inr ⟨pv p2 s2 S8, ⟨w23, by rw [ga.2.2.2.2, f.2.2.2.2]; exact hx, by rw [ga.2.2.2.2, f.2.2.2.2]; exact ho⟩, ⟨by rw [ga.2.1 69 (by decide), f.2.1 69 (by decide)]; exact e1, by rw [ga.2.1 70 (by decide), f.2.1 70 (by decide)]; exact e2, by rw [ga.2.1 71 (by decide), f.2.1 71 (by decide)]; exact e3, by rw [ga.2.1 72 (by decide), f.2.1 72 (by decide)]; exact e4, by rw [ga.2.1 73 (by decide), f.2.1 73 (by decide)]; exact e5, by rw [gg.2.1 74 (by decide)]; exact y74, by rw [gg.2.1 75 (by decide)]; exact y75⟩, ⟨by rw [ga.2.1 31 (by decide), r31]; exact env.2.2.1, by rw [ga.2.1 14 (by decide), f.2.1 14 (by decide)]; exact e9, fun z => e10 z.symm, fun z => e11 z.symm⟩, ⟨PGM_v pb (pw f7), STI_v (ps f7)⟩, ⟨rgx rg9, rgx rg8⟩, ⟨by rw [ga.1 41 (by decide)]; exact n8, Nat.zero_le _, ?_⟩, ?_, b23⟩)
  · unfold TQS
    rw [ga.1 40 (by decide), ga.2.2.1 64 (by decide), ga.2.2.1 65 (by decide)]
    exact t8
  · rw [ga.2.1 8 (by decide), ga.2.2.2.1 7 (by decide), f.2.1 8 (by decide), f.2.2.2.1 7 (by decide)]
    exact q7
end PRs
