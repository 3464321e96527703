
section ATs
variable {S S1 : kS} {r h pg sc t q : Nat} {N T : Nat → Prop} {U : List Nat} {L : Nat → List Nat} {D : Nat → Nat} {V : PV} {Z0 : kS} {W : Nat → Int → Prop} {k0 : Nat} {n0 c0 m p e ty ty1 w : Int} {O : List Nat} {K : kS → Prop}

theorem NPB_a (g : NPB r h pg sc t q N V Z0 k0 n0 c0 m w p e T U L D W O S) : ∀ x, S.2.1 23 q = some x → x ∈ L t ∧ S.2.1 25 x = none := by
  obtain ⟨_, _, _, _, _, _, _, _, oc, _, om, q23, _⟩ := g
  intro x hx
  rw [q23] at hx
  cases O with
  | nil =>
    rw [show S.2.1 63 t = none from oc] at hx
    cases hx
  | cons y O1 =>
    rw [oc.1] at hx
    rw [← Option.some.inj hx]
    exact ⟨(om y (List.mem_cons_self ..)).1, oc.2.2.1⟩
theorem np_come {v : Int32} (nb : NPB r h pg sc t q N V Z0 k0 n0 c0 m w p e T U L D W O S) (h2 : 2 ≤ ty) (h21 : ty ≤ 21 → ty / 2 = w) (h22 : 22 ≤ ty → w = 0) (hK : ∀ S1, GOS r h pg sc t N V Z0 k0 n0 c0 m ty p e T U L D W S1 → S1.1 36 t = S.1 36 t → K S1) : wT_X6_come r q v S K := by
  have cor := nb.2.2.2.1
  obtain ⟨P, hi⟩ := cor.2.1
  have I := cor.2.2.2.1
  obtain ⟨qL, q25, q13⟩ := nb.2.2.2.2.2.2.2.1
  refine kmT_X6_come _ _ _ _ _ _ (fun S2 hF p2 => ?_) (sk_X6_come (N := N) (LL := L) (t9 := t) _ _ _ I hi.2.2.1 qL q25 (NPB_a nb))
  have f := HF_k hF I (by decide) (by decide) (by decide)
  exact hK S2 (NPB_l nb (HF_s f (by decide) (by decide) (by decide) (by decide)) p2.1 p2.2 (fun o _ => by rw [f.2.1 25 (by decide)]) (LTS_e hi.2.2.2.2.2.2.2.2 (f.2.2.1 6 (by decide))) h2 h21 h22) (by rw [f.1 36 (by decide)])
theorem sk_X6_beginLetter {a1 : Int32} (g : GOS r h pg sc t N V Z0 k0 n0 c0 m ty p e T U L D W S) (hb : 0 ≤ a1.toInt ∧ a1.toInt < 8) (h0 : 0 ≤ ty ∧ ty ≤ 21) (h1 : (ty ≤ 1 ∧ ty1 = 22) ∨ (2 ≤ ty1 ∧ ty1 ≤ 21 ∧ ty1 / 2 = ty / 2))(hK : ∀ S1 U1 L1 D1, GOS r h pg sc t N V Z0 k0 n0 c0 m ty1 p (e - 1) T U1 L1 D1 W S1 → S1.1 36 t = S.1 36 t → K S1) : wT_X6_beginLetter r t a1 S K := by
  unfold wT_X6_beginLetter
  obtain ⟨t9, kd, hU⟩ := GOS_t g
  intro z1 e1 q2 e2
  obtain rfl : h = q2 := Option.some.inj (g.1.1.symm.trans (e1.symm.trans e2))
  refine nk_X1_newPart kd t9 hU (fun S3 q n hap hhp => ?_)
  obtain ⟨U1, L1, D1, O, nb, e36⟩ := NPX h0 g n hap hhp
  have env3 := nb.1
  have cor3 := nb.2.2.2.1
  obtain ⟨P3, hi3⟩ := cor3.2.1
  have I3 := cor3.2.2.2.1
  obtain ⟨qL, q25, q13⟩ := nb.2.2.2.2.2.2.2.1
  have i8 := jix_lt (n := 8) hb.1 hb.2
  intro z4 e4 q5 e5
  obtain rfl : h = q5 := Option.some.inj (env3.1.symm.trans (e4.symm.trans e5))
  intro z6 e6 q7 e7
  refine ⟨⟨hb.1, hb.2⟩, ?_⟩
  intro z8 e8
  have e8b : z8 = ar S3 6 h (ix a1) := e8.trans (ar_rd (Z := []) (S0 := S3) FX_rf (by decide) (by decide) (e6.symm.trans e7))
  refine ⟨fun c => ?_, fun c => ?_⟩
  · intro z10 e10 q11 e11
    obtain rfl : h = q11 := Option.some.inj (env3.1.symm.trans (e10.symm.trans e11))
    intro z12 e12 q14 e13
    refine ⟨⟨hb.1, hb.2⟩, ?_⟩
    intro z14 e14 q15 e15
    refine ⟨q, rfl, ?_⟩
    have e16 : qa S3 7 h (ix a1) = some q15 := (qa_rd (Z := []) (S0 := S3) FX_rf (by decide) (by decide) (e12.symm.trans e13)).symm.trans (e14.symm.trans e15)
    have hN := env3.2.2.2.2.2.1 (ix a1) q15 i8 e16
    obtain ⟨Q, gQ⟩ := hi3.2.2.1
    obtain ⟨b1, b2, b3, b4⟩ := gQ.1 q15 hN
    refine kmT_X2_add _ _ _ _ _ (fun S17 hF p2 => ?_) (sk_X2_add (Q := Q q15) _ _ I3 b1 b2 b3 b4 (fun mm => by
      have w := (gQ.2.1 q15 q mm).2.1
      rw [q25] at w
      cases w))
    have f := HF_k hF I3 (by decide) (by decide) (by decide)
    obtain ⟨l1, l2, w1, w2, w3, w4, w5, w6⟩ := p2
    obtain ⟨Q1, g1⟩ := LNI_ad gQ hN qL q25 q13 w1 w2 w3 w4 w5 w6
    exact hK S17 U1 L1 D1 (NPB_l (l := []) nb (HF_s f (by decide) (by decide) (by decide) (by decide)) ⟨Q1, by rw [f.1 13 (by decide)]; exact g1⟩ (STM_e STM_rf (fun o => by rw [f.1 13 (by decide)])) (fun o ho => by rw [w4 o, if_neg ho]) (LTS_e hi3.2.2.2.2.2.2.2.2 (f.2.2.1 6 (by decide))) (by omega) (fun _ => by omega) (fun _ => by omega)) (by rw [f.1 36 (by decide)]; exact e36)
  · intro z18 e18 q19 e19
    obtain rfl : h = q19 := Option.some.inj (env3.1.symm.trans (e18.symm.trans e19))
    have hc : 0 < (ar S3 6 h (ix a1)).toInt := by
      rw [← e8b]
      have c1 := c
      rw [Int32.le_iff_toInt_le] at c1
      have z0 : (0 : Int32).toInt = 0 := rfl
      omega
    refine kmT_X1_takeLetter _ _ _ _ _ (fun S20 r20 hF p2 => ?_) (sk_X1_takeLetter _ _ I3 hi3.2.2.2.2.2.2.2.2 hb hc)
    have f := HF_k hF I3 (by decide) (by decide) (by decide)
    have I20 : INJ S20 := INJ_hf I3 f (by decide)
    have l20 : LNS N L1 S20 none := LNS_e hi3.2.2.1 (f.2.1 12 (by decide)) (f.2.1 13 (by decide)) (f.2.1 25 (by decide)) (f.2.1 26 (by decide)) (f.2.1 27 (by decide)) (f.1 13 (by decide))
    refine ⟨q, rfl, ?_⟩
    refine kmT_X6_come _ _ _ _ _ _ (fun S22 hF2 p3 => ?_) (sk_X6_come (N := N) (LL := L1) (t9 := t) _ _ _ I20 l20 qL (by rw [f.2.1 25 (by decide)]; exact q25) (by rw [f.2.1 23 (by decide), f.2.1 25 (by decide)]; exact NPB_a nb))
    have f2 := HF_k hF2 I20 (by decide) (by decide) (by decide)
    have f3 : HF [13, 14, 15, 16] [12, 13, 25, 26, 27] [5, 6] [] S3 S22 := HF_tr (HF_s f (by decide) (by decide) (by decide) (by decide)) (HF_s f2 (by decide) (by decide) (by decide) (by decide))
    have m3 : STM (L1 t) S3 S22 := STM_tr (STM_e STM_rf (fun o => by rw [f.1 13 (by decide)])) p3.2
    exact hK S22 U1 L1 D1 (NPB_l nb f3 p3.1 m3 (fun o _ => by rw [f2.2.1 25 (by decide), f.2.1 25 (by decide)]) (LTS_e p2 (f2.2.2.1 6 (by decide))) (by omega) (fun _ => by omega) (fun _ => by omega)) (by rw [f3.1 36 (by decide)]; exact e36)
theorem sk_X6_beginTick {a1 : Int32} (g : GOS r h pg sc t N V Z0 k0 n0 c0 m ty p e T U L D W S) (h0 : 0 ≤ ty ∧ ty ≤ 21) (h1 : (ty ≤ 1 ∧ ty1 = 22) ∨ (2 ≤ ty1 ∧ ty1 ≤ 21 ∧ ty1 / 2 = ty / 2))(hK : ∀ S1 U1 L1 D1, GOS r h pg sc t N V Z0 k0 n0 c0 m ty1 p (e - 1) T U1 L1 D1 W S1 → S1.1 36 t = S.1 36 t → K S1) : wT_X6_beginTick r t a1 S K := by
  unfold wT_X6_beginTick
  obtain ⟨t9, kd, hU⟩ := GOS_t g
  intro z1 e1 q2 e2
  obtain rfl : h = q2 := Option.some.inj (g.1.1.symm.trans (e1.symm.trans e2))
  refine nk_X1_newPart kd t9 hU (fun S3 q n hap hhp => ?_)
  obtain ⟨U1, L1, D1, O, nb, e36⟩ := NPX h0 g n hap hhp
  have env3 := nb.1
  have cor3 := nb.2.2.2.1
  obtain ⟨P3, hi3⟩ := cor3.2.1
  have I3 := cor3.2.2.2.1
  obtain ⟨qL, q25, q13⟩ := nb.2.2.2.2.2.2.2.1
  refine ⟨fun c => ?_, fun c => ?_⟩
  · intro z5 e5 q6 e6
    obtain rfl : h = q6 := Option.some.inj (env3.1.symm.trans (e5.symm.trans e6))
    refine ⟨q, rfl, ?_⟩
    refine kmT_X1_setAlarm _ _ _ _ _ _ (fun S8 hF p2 => ?_) (s5_X1_setAlarm (N := N) (LL := L1) (t9 := t) _ _ _ I3 hi3.2.2.1 qL q25 q13 env3.2.2.2.2.2.2.1)
    have f := HF_k hF I3 (by decide) (by decide) (by decide)
    exact hK S8 U1 L1 D1 (NPB_l (l := []) nb (HF_s f (by decide) (by decide) (by decide) (by decide)) p2.1 (STM_e STM_rf (fun o => by rw [f.1 13 (by decide)])) p2.2 (LTS_e hi3.2.2.2.2.2.2.2.2 (f.2.2.1 6 (by decide))) (by omega) (fun _ => by omega) (fun _ => by omega)) (by rw [f.1 36 (by decide)]; exact e36)
  · refine ⟨q, rfl, ?_⟩
    exact np_come nb (ty := ty1) (by omega) (fun _ => by omega) (fun _ => by omega) (fun S4 g4 h4 => hK S4 U1 L1 D1 g4 (h4.trans e36))
/-- the innermost open node is closed -/
theorem at_close (g : GOS r h pg sc t N V Z0 k0 n0 c0 m ty p e T U L D W S) (h0 : 2 ≤ ty ∧ ty ≤ 20 ∧ ty % 2 = 0) (h1 : (ty = 2 ∧ ty1 = 22) ∨ (4 ≤ ty ∧ ty1 = ty - 2)) (hK : ∀ S1, GOS r h pg sc t N V Z0 k0 n0 c0 m ty1 p e T U L D W S1 → S1.1 36 t = S.1 36 t → K S1) : wT_X6_closePart r t S K := by
  obtain ⟨env, num, trn, cor, fr, ly, h22⟩ := g
  obtain ⟨P, c2⟩ := cor.2.1
  have I := cor.2.2.2.1
  obtain ⟨O, oc, ol⟩ := ly.2.2.2.1 (by omega) (by omega)
  have s5 := ly.2.1 (by omega)
  cases O with
  | nil =>
    have : (0 : Int) = ty / 2 := ol
    omega
  | cons x O1 =>
    have a2 : ((O1.length + 1 : Nat) : Int) = ty / 2 := ol
    obtain ⟨o1, o2, o3, o4⟩ := oc
    have ms : ∀ a b, a ∈ L t → S.2.1 23 a = some b → b ∈ L t := fun a b ha hb => ((c2.2.1.2.2.2.2.2.2.1 t a ha).2.2.2.1 b hb).1
    have xL : x ∈ L t := (c2.2.1.2.2.1 t (tl_t c2.1 cor.2.2.2.2.1)).2.2 x o1
    have ne : ∀ y, y ∈ O1 → y ≠ x := fun y hy c => by
      have := OCH_d o4 y hy
      rw [c, o2] at this
      exact absurd this (Nat.lt_irrefl _)
    have hq : ∀ y, S.2.1 23 x = some y → y ∈ L t ∧ S.2.1 25 y = none ∧ y ≠ x := fun y hy => by
      cases O1 with
      | nil =>
        rw [show S.2.1 23 x = none from o4] at hy
        cases hy
      | cons z O2 =>
        have e := Option.some.inj (o4.1.symm.trans hy)
        rw [← e]
        exact ⟨ms x z xL o4.1, o4.2.2.1, ne z (List.mem_cons_self ..)⟩
    refine kmT_X6_closePart _ _ _ _ _ (fun S48 hF p2 => ?_) (sk_X6_closePart (N := N) (LL := L) (h := h) (qq := x) _ _ I env.1 c2.2.2.1 o1 xL o3 hq env.2.2.2.2.2.2.1)
    have f := HF_k hF I (by decide) (by decide) (by decide)
    obtain ⟨p1, pm, p63, p64, p25⟩ := p2
    have oc1 : OCH (S48.2.1 23) (S48.2.1 25) D (S48.2.1 63 t) O1 := by
      rw [p63]
      exact OCH_e (fun y hy => ⟨by rw [f.2.1 23 (by decide)], p25 y (ne y hy), rfl⟩) o4
    have n21 : 0 ≤ (S48.1 21 r).toInt ∧ (S48.1 21 r).toInt ≤ 64 := by rw [f.1 21 (by decide)]; exact num.1
    refine hK S48 ⟨ENV_f env f (by decide) (by decide) (by decide) (by decide), NUM_f num f (by decide) n21 (by decide) (by decide), TRN_f trn f (by decide) (by decide), COR_gen cor f (by decide) (by decide) (by decide) (by decide) (by decide) (by decide) (by decide) p1 pm (fun a b ha hb => ?_) (fun b _ => by rw [f.1 0 (by decide)]) (LTS_e c2.2.2.2.2.2.2.2.2 (f.2.2.1 6 (by decide))) (OTH_f f (by decide) (by decide)), by rw [f.2.2.1 59 (by decide), f.2.2.1 60 (by decide)]; exact fr, ⟨fun c => by omega, fun _ => by rw [f.1 30 (by decide)]; exact s5, fun _ c => by omega, fun _ c => ⟨O1, oc1, by omega⟩, fun c => ?_⟩, by rw [f.1 22 (by decide)]; exact h22⟩ (by rw [f.1 36 (by decide)])
    · rcases Decidable.em (a = t) with c | c
      · rw [c, p63] at hb
        rw [c]
        exact ms x b xL hb
      · rw [p64 a c] at hb
        exact (c2.2.1.2.2.1 a ha).2.2 b hb
    · cases O1 with
      | nil => exact oc1
      | cons z O2 =>
        have a3 : (((O2.length + 1) + 1 : Nat) : Int) = ty / 2 := ol
        omega
end ATs
