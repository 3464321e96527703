
theorem nk_X1_newTask {K : kS → Option Nat → Prop} {h pg : Nat} {rt : Int32} {pa : Option Nat} {S : kS} {N : Nat → Prop} (hI : INJ S) (hK : KDI S h N) (hT : TKA S h) (hp : S.2.1 2 h = some pg) (hg : (pg, Sum.inl 5) ∈ S.2.2.2.2.2) (hr : 0 ≤ rt.toInt ∧ rt.toInt < 12) (hw : 0 ≤ (S.1 3 h).toInt ∧ (S.1 3 h).toInt ≤ 200) (hK1 : K S none) (hK2 : ∀ S1 t, NTW h t rt pa (ar S 32 pg (ix rt)) S S1 → h ≠ t → (S.1 1 h).toInt < 200 → K S1 (some t)) : wT_X1_newTask h rt pa S K := by
  unfold wT_X1_newTask
  intro z1 e1
  refine ⟨fun c => ?_, fun c => hK1⟩
  have tc : (S.1 1 h).toInt < 200 := by
    have := w_lt c
    rw [e1] at this
    exact this
  have hc := hT.1
  intro z3 e3 z4 e4 q5 e5
  refine ⟨⟨by rw [e4]; exact hT.1, by rw [e4]; exact tc⟩, ?_⟩
  intro z6 e6
  have ez6 : z6 = qa S 3 h (ix (S.1 1 h)) := by rw [e6, qa_rd (Z := []) (S0 := S) FX_rf (by decide) (by decide) (e3.symm.trans e5), e4]
  have i200 : ix (S.1 1 h) < 200 := jix_lt (n := 200) hc tc
  refine ⟨fun c6 => ?_, fun q7 c7 => ?_⟩
  · intro q8 h8 S9 e9 z10 e10
    have hq : h ≠ q8 := fun c9 => h8 _ (c9 ▸ hK.1)
    have gq : pg ≠ q8 := fun c9 => h8 _ (c9 ▸ hg)
    have g9 : GRW q8 S S9 := GR_0 (fun c => by cases c) hK.2.2.2.1 hI hK.2.2.1 h8 e9
    have n9 : ∀ f, S9.2.1 f q8 = none := fun f => by rw [e9, k_nr, if_pos rfl]
    have x10 := sk_X9_init (v := z10) g9
    refine x9_mono (fun S11 p => ?_) x10
    obtain ⟨g11, m28, r11, c11, ds⟩ := p
    intro z12 e12 z13 e13 q14 e14
    have hh : ALO S h := ⟨_, hK.1⟩
    have t11 : S11.1 1 h = S.1 1 h := (g11.1 1 h hh hq).1
    refine ⟨⟨by rw [e13, t11]; exact hT.1, by rw [e13, t11]; exact tc⟩, ?_⟩
    intro S15 e15
    have wr := qa_wr (Z := []) g11.2.2.2.2.1 FX_rf (by decide) (by decide) (e12.symm.trans e14) e15
    have d15 : S15.2.2.2.2.2 = S11.2.2.2.2.2 := by rw [e15]; rfl
    have r15 : ∀ f, S15.2.1 f = S11.2.1 f := fun f => by rw [e15]; rfl
    have i15 : ∀ f, S15.1 f = S11.1 f := fun f => by rw [e15]; rfl
    refine nt_48 (pg := pg) (S0 := S) ⟨fun f o ho hn => ?_, fun f o j ho hn => ⟨?_, ?_, fun h9 => ?_⟩, fun i => ?_, ?_, ⟨by rw [d15]; exact g11.2.2.1, fun f o b hf e => ?_, ?_, ?_, ?_⟩, Or.inr ⟨ez6.symm.trans c6, fun w => by obtain ⟨k, hk⟩ := w; exact h8 k hk, ?_, fun f h1 h2 h3 => ?_⟩⟩ hh hq hp ⟨_, hg⟩ gq hr ⟨hc, tc⟩ hw (fun S1 w => hK2 S1 q8 w hq tc)
    · rw [i15, r15]
      exact g11.1 f o ho hn
    · rw [show ar S15 f o j = ar S11 f o j by rw [e15]; rfl]
      exact (g11.2.1 f o j ho hn).1
    · rw [show la S15 f o j = la S11 f o j by rw [e15]; rfl]
      exact (g11.2.1 f o j ho hn).2.1
    · rw [wr f o j, if_neg (fun c9 => h9 ⟨c9.2.1, c9.1⟩)]
      exact (g11.2.1 f o j ho hn).2.2
    · rw [wr 3 h i, e13, t11]
      rcases Decidable.em (i = ix (S.1 1 h)) with c9 | c9
      · rw [if_pos ⟨rfl, rfl, c9⟩, if_pos c9]
      · rw [if_neg (fun w => c9 w.2.2), if_neg c9]
        exact (g11.2.1 3 h i hh hq).2.2
    · rw [i15, m28, e10, (g9.1 1 h hh hq).1]
    · rw [r15] at e
      obtain ⟨k, hk⟩ := g11.2.2.2.1 f o b hf e
      exact ⟨k, by rw [d15]; exact hk⟩
    · exact INJ_h g11.2.2.2.2.1 (fun f _ => r15 f)
    · intro a k k' h1 h2
      rw [d15] at h1 h2
      exact g11.2.2.2.2.2.1 a k k' h1 h2
    · rw [d15]
      exact ds _ (d_n e9).2
    · unfold cnt at c11 ⊢
      rw [d15, c11, e9]
      show (S.2.2.2.2.2 ++ [(q8, Sum.inl 9)]).length + 3 = _
      simp
    · rw [r15, r11 f h1 h2 h3]
      exact n9 f
  · have hq7 : qa S 3 h (ix (S.1 1 h)) = some q7 := ez6.symm.trans c7
    have k9 := hK.2.1 (ix (S.1 1 h)) q7 i200 hq7
    have hq : h ≠ q7 := fun c9 => by
      have := hK.2.2.1 q7 _ _ k9 (c9 ▸ hK.1)
      cases this
    have gq : pg ≠ q7 := fun c9 => by
      have := hK.2.2.1 q7 _ _ k9 (c9 ▸ hg)
      cases this
    have hh : ALO S h := ⟨_, hK.1⟩
    refine nt_48 (pg := pg) (S0 := S) ⟨fun _ _ _ _ => ⟨rfl, rfl⟩, fun _ _ _ _ _ => ⟨rfl, rfl, fun _ => rfl⟩, fun i => ?_, ?_, ⟨⟨fun _ hx => hx, fun _ hx => hx⟩, hK.2.2.2.1, hI, hK.2.2.1, k9⟩, Or.inl ⟨hq7, rfl, fun _ => rfl⟩⟩ hh hq hp ⟨_, hg⟩ gq hr ⟨hc, tc⟩ hw (fun S1 w => hK2 S1 q7 w hq tc)
    · rcases Decidable.em (i = ix (S.1 1 h)) with c9 | c9
      · rw [if_pos c9, c9]; exact hq7
      · rw [if_neg c9]
    · rw [hT.2.2.2 (ix (S.1 1 h)) q7 i200 hq7, kx_int _ hc]

theorem np2_mono {K K1 : kS → Option Nat → Prop} {h a : Nat} {k : Int32} {S : kS} (hk : ∀ S1 r, K S1 r → K1 S1 r) (w : wT_X1_newPart h a k S K) : wT_X1_newPart h a k S K1 := by
  unfold wT_X1_newPart at w ⊢
  intro z1 e1
  replace w := w z1 e1
  refine ⟨fun c q3 hq S4 e4 => ?_, fun q2 c z6 e6 S7 e7 => ?_⟩
  · have w2 := w.1 c q3 hq S4 e4
    unfold wT_X4_init at w2 ⊢
    exact np_mono hk w2
  · exact np_mono hk (w.2 q2 c z6 e6 S7 e7)
theorem nk_X1_newPart {K : kS → Option Nat → Prop} {h a : Nat} {k : Int32} {S : kS} {N : Nat → Prop} (hK : KDI S h N) (ha : (a, Sum.inl 9) ∈ S.2.2.2.2.2) (hU : ∀ p, S.2.1 11 h = some p → (p, Sum.inl 4) ∈ S.2.2.2.2.2) (k1 : ∀ S1 p, NPT h a p S S1 → a ≠ p → h ≠ p → K S1 (some p)) : wT_X1_newPart h a k S K := np2_mono (fun S1 r w => by
  obtain ⟨p, e, n, h1, h2⟩ := w
  rw [e]
  exact k1 S1 p n h1 h2) (sk_X1_newPart hK ha hU)
theorem pv_o {pg sc : Nat} {S S1 : kS} (h1 : ∀ f, f ≠ 1 → f ≠ 3 → S1.1 f pg = S.1 f pg) (h2 : ∀ f, f ≠ 1 → f ≠ 3 → S1.1 f sc = S.1 f sc) (h3 : ∀ f i, f ≠ 4 → ar S1 f pg i = ar S f pg i) (h4 : ∀ f i, f ≠ 4 → ar S1 f sc i = ar S f sc i) : pv pg sc S1 = pv pg sc S := by
  unfold pv
  rw [h1 17 (by decide) (by decide), h1 18 (by decide) (by decide), h2 24 (by decide) (by decide), h2 25 (by decide) (by decide)]
  refine Prod.ext rfl ?_
  funext f i
  dsimp only
  rw [h4 49 i (by decide)]
  rcases Decidable.em (f = 4) with c | c
  · rw [c]
    simp
  · rw [h3 f i c, h4 f i c]
section NPs
variable {S S1 : kS} {r h pg sc t q : Nat} {N T : Nat → Prop} {G : Nat → Prop} {U : List Nat} {L : Nat → List Nat} {D : Nat → Nat} {P : Nat → Int32} {V : PV} {Z0 : kS} {W : Nat → Int → Prop} {k0 : Nat} {n0 c0 m p e ty : Int}
/-- a part that is made or used again is no other thing -/
theorem np_pk (g : HI h N T G U L D P S) (hK : KDI S h N) {a : Nat} (n : NPT h a q S S1) : ∀ (o c : Nat), c ≠ 4 → (o, Sum.inl c) ∈ S.2.2.2.2.2 → o ≠ q := fun o c hc ho e9 => by
  rcases n.2.2.2.2.2.1 with ⟨x1, _⟩ | ⟨_, x2, _⟩
  · have pu : q ∈ U := by
      obtain ⟨r9, er, _⟩ := CH_cons (show CH (S.2.1 24) (some q) U by rw [← x1]; exact g.2.1.1)
      rw [er]
      exact List.mem_cons_self ..
    have w := hK.2.2.1 q _ _ (g.2.1.2.2.2.2.2.2.2.1 q pu) (e9 ▸ ho)
    have e4 : (4 : Nat) = c := by injection w
    exact hc e4.symm
  · exact x2 _ (e9 ▸ ho)
theorem np_pl (g : HI h N T G U L D P S) {a u w : Nat} (n : NPT h a q S S1) (hw : w ∈ L u) : w ≠ q := fun e9 => by
  rcases n.2.2.2.2.2.1 with ⟨x1, _⟩ | ⟨_, x2, _⟩
  · have pu : q ∈ U := by
      obtain ⟨r9, er, _⟩ := CH_cons (show CH (S.2.1 24) (some q) U by rw [← x1]; exact g.2.1.1)
      rw [er]
      exact List.mem_cons_self ..
    exact g.2.1.2.2.2.2.1 u w hw (e9 ▸ pu)
  · exact x2 _ (e9 ▸ g.2.1.2.2.2.2.2.2.2.2 u w hw)
theorem np_inj {a : Nat} (hI : INJ S) (n : NPT h a q S S1) : INJ S1 := by
  have x : ∀ f o w, f ∈ arrL → S1.2.1 f o = some w → S.2.1 f o = some w := fun f o w hf hw => by
    rcases Decidable.em (o = q) with c | c
    · rw [c] at hw ⊢
      rcases n.2.2.2.2.2.1 with ⟨_, _, _, x4⟩ | ⟨_, _, _, _, x5⟩
      · rw [← x4 f hf]
        exact hw
      · rw [x5 f hf] at hw
        cases hw
    · rw [← n.2.2.1 f o c (fun z => by rw [z.1] at hf; exact absurd hf (by decide)) (fun z => by rw [z.1] at hf; exact absurd hf (by decide)) (fun z => by rw [z.1] at hf; exact absurd hf (by decide))]
      exact hw
  exact fun f g a b w hf hg e1 e2 => hI f g a b w hf hg (x f a w hf e1) (x g b w hg e2)
theorem np_cnt {a : Nat} (n : NPT h a q S S1) : cnt S1 ≤ cnt S + 1 ∧ cnt S ≤ cnt S1 := by
  unfold cnt
  rcases n.2.2.2.2.2.1 with ⟨_, _, x3, _⟩ | ⟨_, _, _, x4, _⟩
  · rw [x3]
    omega
  · rw [x4, List.length_append]
    exact ⟨Nat.le_refl _, Nat.le_add_right _ _⟩
theorem np_d {a : Nat} (n : NPT h a q S S1) : ∀ x, x ∈ S.2.2.2.2.2 → x ∈ S1.2.2.2.2.2 := fun x hx => by
  rcases n.2.2.2.2.2.1 with ⟨_, _, x3, _⟩ | ⟨_, _, _, x4, _⟩
  · rw [x3]; exact hx
  · rw [x4]; exact List.mem_append_left _ hx
def GOS (r h pg sc t : Nat) (N : Nat → Prop) (V : PV) (Z0 : kS) (k0 : Nat) (n0 c0 m ty p e : Int) (T : Nat → Prop) (U : List Nat) (L : Nat → List Nat) (D : Nat → Nat) (W : Nat → Int → Prop) (S : kS) : Prop := ENV r h pg sc N V Z0 S ∧ NUM r h k0 n0 c0 p e S ∧ TRN h m S ∧ COR h t N V T U L D W S ∧ FRS V (W t) (ar S 59 t) (ar S 60 t) ∧ LYR ty t L D S ∧ S.1 22 r = 0
/-- a part of the wait has just been made -/
def NPB (r h pg sc t q : Nat) (N : Nat → Prop) (V : PV) (Z0 : kS) (k0 : Nat) (n0 c0 m w p e : Int) (T : Nat → Prop) (U : List Nat) (L : Nat → List Nat) (D : Nat → Nat) (W : Nat → Int → Prop) (O : List Nat) (S : kS) : Prop := ENV r h pg sc N V Z0 S ∧ NUM r h k0 n0 c0 p e S ∧ TRN h m S ∧ COR h t N V T U L D W S ∧ FRS V (W t) (ar S 59 t) (ar S 60 t) ∧ S.1 30 t = 5 ∧ S.1 22 r = 0 ∧ (q ∈ L t ∧ S.2.1 25 q = none ∧ S.1 13 q = 0) ∧ OCH (S.2.1 23) (S.2.1 25) D (S.2.1 63 t) O ∧ (O.length : Int) = w ∧ (∀ x, x ∈ O → x ∈ L t ∧ x ≠ q) ∧ S.2.1 23 q = S.2.1 63 t ∧ D q = O.length
theorem GOS_t (g : GOS r h pg sc t N V Z0 k0 n0 c0 m ty p e T U L D W S) : (t, Sum.inl 9) ∈ S.2.2.2.2.2 ∧ KDI S h N ∧ ∀ p, S.2.1 11 h = some p → (p, Sum.inl 4) ∈ S.2.2.2.2.2 := by
  obtain ⟨_, _, _, ⟨_, ⟨P, c2⟩, c3, _, c5, _⟩, _⟩ := g
  obtain ⟨i, hi, hq⟩ := tl_t c2.1 c5
  refine ⟨c3.2.1 i t hi hq, c3, fun x hx => ?_⟩
  obtain ⟨r9, er, _⟩ := CH_cons (show CH (S.2.1 24) (some x) U by rw [← hx]; exact c2.2.1.1)
  exact c2.2.1.2.2.2.2.2.2.2.1 x (by rw [er]; exact List.mem_cons_self ..)
theorem NPX (hty : 0 ≤ ty ∧ ty ≤ 21) (g : GOS r h pg sc t N V Z0 k0 n0 c0 m ty p e T U L D W S) (n : NPT h t q S S1) (hap : t ≠ q) (hhp : h ≠ q) : ∃ U1 L1 D1 O, NPB r h pg sc t q N V Z0 k0 n0 c0 m (ty / 2) p (e - 1) T U1 L1 D1 W O S1 ∧ S1.1 36 t = S.1 36 t := by
  obtain ⟨env, num, trn, ⟨c1, ⟨P, c2⟩, c3, c4, c5, c6, c7, c8⟩, fr, ly, h22⟩ := g
  have pk := np_pk c2 c3 n
  have pi := np_inj c4 n
  have pc := np_cnt n
  have pd := np_d n
  have pl : ∀ u w, w ∈ L u → w ≠ q := fun u w hw => np_pl c2 n hw
  obtain ⟨O, oc, ol⟩ := ly.2.2.2.1 hty.1 hty.2
  have s5 := ly.2.1 hty.1
  have om : ∀ x, x ∈ O → x ∈ L t := OCH_m (fun a b ha hb => ((c2.2.1.2.2.2.2.2.2.1 t a ha).2.2.2.1 b hb).1) oc (fun b hb => (c2.2.1.2.2.1 t (tl_t c2.1 c5)).2.2 b hb)
  have hab : L t = [] ∨ ∃ w, S.2.1 63 t = some w ∧ D w ≤ 9 := by
    cases O with
    | nil =>
      rcases Decidable.em (ty ≤ 1) with c | c
      · exact Or.inl (ly.2.2.1 hty.1 c)
      · have : (0 : Int) = ty / 2 := ol
        omega
    | cons w O1 =>
      refine Or.inr ⟨w, oc.1, ?_⟩
      have a1 := oc.2.1
      have a2 : ((O1.length + 1 : Nat) : Int) = ty / 2 := ol
      omega
  have dz : dpx D (S.2.1 63 t) = O.length := by
    cases O with
    | nil =>
      rw [show S.2.1 63 t = none from oc]
      rfl
    | cons w O1 =>
      rw [oc.1]
      show D w + 1 = O1.length + 1
      rw [oc.2.1]
  obtain ⟨U1, hi1, kd1⟩ := HI_np c2 c3 c5 hap hhp n ⟨by rw [s5]; decide, by rw [s5]; decide, by rw [s5]; decide⟩ hab
  obtain ⟨n1, n2, n3, ⟨n21, n22, n23, n24, n25, n26, n27⟩, ⟨n61, n62, n63⟩, nx, nA⟩ := n
  have eh : ∀ f, S1.1 f h = S.1 f h := fun f => n1 f h hhp
  have e3 : qa S1 3 h = qa S 3 h := funext (fun i => (nA 3 h i hhp).2.2)
  have tle : tl S1 h = tl S h := by unfold tl; rw [eh 1, e3]
  have q3 : ∀ f o, o ≠ q → f ≠ 61 → f ≠ 62 → f ≠ 11 → S1.2.1 f o = S.2.1 f o := fun f o ho h1 h2 h3 => n3 f o ho (fun c => h1 c.1) (fun c => h2 c.1) (fun c => h3 c.1)
  have tq : ∀ u, tl S h u → u ≠ q := fun u hu => by
    obtain ⟨i, hi, hq⟩ := tl_t c2.1 hu
    exact pk u 9 (by decide) (c3.2.1 i u hi hq)
  obtain ⟨v1, v2, v3, ⟨v4, v5, v6, vz⟩, v7, v8, v9, b, v10, v11, v12⟩ := env
  have rq := pk r 6 (by decide) v4
  have gq := pk pg 5 (by decide) v5
  have sq := pk sc 7 (by decide) v6
  have bq := pk b 0 (by decide) v11
  have vz1 : FRZ Z0 S1 := by
    refine ⟨⟨fun x hx => pd _ (vz.1.1 x hx), fun o ho => ?_⟩, fun o c hc ho => ?_⟩
    · have oq := pk o 1 (by decide) (vz.1.1 _ ho)
      rw [q3 8 o oq (by decide) (by decide) (by decide)]
      exact ⟨(vz.1.2 o ho).1, fun j => by rw [(nA 7 o j oq).2.2]; exact (vz.1.2 o ho).2 j⟩
    obtain ⟨y1, y2, y3⟩ := vz.2 o c hc ho
    have oq := pk o c (fun z => by rw [z] at hc; exact absurd hc (by decide)) (vz.1.1 _ ho)
    exact ⟨fun x hx => by rw [n1 x o oq]; exact y1 x hx, fun x hx => by rw [q3 x o oq (fun z => by rw [z] at hx; exact absurd hx (by decide)) (fun z => by rw [z] at hx; exact absurd hx (by decide)) (fun z => by rw [z] at hx; exact absurd hx (by decide))]; exact y2 x hx, fun x hx j => by rw [(nA x o j oq).1]; exact y3 x hx j⟩
  have l63 : S1.2.1 63 t = S.2.1 63 t := q3 63 t hap (by decide) (by decide) (by decide)
  refine ⟨U1, qup L t (q :: L t), dup9 D q (dpx D (S.2.1 63 t)), O, ⟨?_, ?_, ?_, ?_, ?_, ?_, ?_, ?_, ?_, ol, fun x hx => ?_, ?_, ?_⟩, n1 36 t hap⟩
  · refine ⟨by rw [q3 41 r rq (by decide) (by decide) (by decide)]; exact v1, by rw [q3 2 h hhp (by decide) (by decide) (by decide)]; exact v2, by rw [q3 31 pg gq (by decide) (by decide) (by decide)]; exact v3, ⟨pd _ v4, pd _ v5, pd _ v6, vz1⟩, ?_, fun i l hi hl => ?_, fun l hl => ?_, b, by rw [q3 40 r rq (by decide) (by decide) (by decide)]; exact v10, pd _ v11, by rw [q3 9 h hhp (by decide) (by decide) (by decide)]; exact v12⟩
    · rw [pv_o (S := S) (fun f _ _ => n1 f pg gq) (fun f _ _ => n1 f sc sq) (fun f i _ => (nA f pg i gq).1) (fun f i _ => (nA f sc i sq).1)]
      exact v7
    · rw [(nA 7 h i hhp).2.2] at hl
      exact v8 i l hi hl
    · rw [q3 8 h hhp (by decide) (by decide) (by decide)] at hl
      exact v9 l hl
  · obtain ⟨g1, g2, g3, g4, k, g5, g6, g7, g8, g9⟩ := num
    unfold NUM
    rw [n1 21 r rq, n1 19 r rq, n1 20 r rq, e3, q3 40 r rq (by decide) (by decide) (by decide)]
    refine ⟨g1, g2, g3, fun x hx => ?_, k, ⟨g5.1, by omega⟩, g6, g7, by omega, by omega⟩
    have eb : b = x := Option.some.inj (v10.symm.trans hx)
    rw [← eb, n1 0 b bq]
    exact g4 b v10
  · intro u hu
    rw [tle] at hu
    rw [n1 34 u (tq u hu), n1 29 u (tq u hu)]
    exact trn u hu
  · refine ⟨c1, ⟨P, hi1⟩, kd1, pi, by rw [tle]; exact c5, fun u hu hn => ?_, by rw [n1 38 t hap]; exact c7, by rw [n1 34 t hap]; exact c8⟩
    rw [tle] at hu
    have uq := tq u hu
    exact OTk_e (c6 u hu hn) (n1 36 u uq) (n1 34 u uq) (fun c => by rw [n1 30 u uq]; exact c) (fun j => (nA 59 u j uq).1) (fun j => (nA 60 u j uq).1)
  · rw [show ar S1 59 t = ar S 59 t from funext (fun j => (nA 59 t j hap).1), show ar S1 60 t = ar S 60 t from funext (fun j => (nA 60 t j hap).1)]
    exact fr
  · rw [n1 30 t hap]
    exact s5
  · rw [n1 22 r rq]
    exact h22
  · exact ⟨by rw [qup_at]; exact List.mem_cons_self .., n25, n2⟩
  · rw [l63]
    refine OCH_e (fun x hx => ?_) oc
    have xq := pl t x (om x hx)
    exact ⟨q3 23 x xq (by decide) (by decide) (by decide), q3 25 x xq (by decide) (by decide) (by decide), if_neg xq⟩
  · have xq := pl t x (om x hx)
    exact ⟨by rw [qup_at]; exact List.mem_cons_of_mem _ (om x hx), xq⟩
  · rw [l63]
    exact n23
  · show (if q = q then dpx D (S.2.1 63 t) else D q) = _
    rw [if_pos rfl]
    exact dz
/-- a leaf: it has come or stands in a line -/
theorem NPB_l {w : Int} {O : List Nat} {l : List Nat} (g : NPB r h pg sc t q N V Z0 k0 n0 c0 m w p e T U L D W O S) (f : HF [13, 14, 15, 16] [12, 13, 25, 26, 27] [5, 6] [] S S1) (hL : LNS N L S1 none) (hm : STM l S S1) (h25 : ∀ o, o ≠ q → S1.2.1 25 o = S.2.1 25 o) (hl : LTS S1 h) (h2 : 2 ≤ ty) (h21 : ty ≤ 21 → ty / 2 = w) (h22 : 22 ≤ ty → w = 0) : GOS r h pg sc t N V Z0 k0 n0 c0 m ty p e T U L D W S1 := by
  obtain ⟨env, num, trn, cor, fr, s5, c22, ⟨q1, q2, q3⟩, oc, ol, om, q23, qd⟩ := g
  obtain ⟨P, c2⟩ := cor.2.1
  have n21 : 0 ≤ (S1.1 21 r).toInt ∧ (S1.1 21 r).toInt ≤ 64 := by rw [f.1 21 (by decide)]; exact num.1
  have oc1 : OCH (S1.2.1 23) (S1.2.1 25) D (S1.2.1 63 t) O := by
    rw [f.2.1 63 (by decide)]
    exact OCH_e (fun x hx => ⟨by rw [f.2.1 23 (by decide)], h25 x (om x hx).2, rfl⟩) oc
  refine ⟨ENV_f env f (by decide) (by decide) (by decide) (by decide), NUM_f num f (by decide) n21 (by decide) (by decide), TRN_f trn f (by decide) (by decide), COR_gen cor f (by decide) (by decide) (by decide) (by decide) (by decide) (by decide) (by decide) hL hm (fun a b ha hb => (c2.2.1.2.2.1 a ha).2.2 b (by rw [← f.2.1 63 (by decide)]; exact hb)) (fun b _ => by rw [f.1 0 (by decide)]) hl (OTH_f f (by decide) (by decide)), by rw [f.2.2.1 59 (by decide), f.2.2.1 60 (by decide)]; exact fr, ⟨fun c => by omega, fun _ => by rw [f.1 30 (by decide)]; exact s5, fun _ c => by omega, fun _ c => ⟨O, oc1, by rw [ol]; exact (h21 c).symm⟩, fun c => ?_⟩, by rw [f.1 22 (by decide)]; exact c22⟩
  have z := h22 c
  cases O with
  | nil => exact oc1
  | cons x O1 =>
    have a2 : ((O1.length + 1 : Nat) : Int) = w := ol
    omega
/-- a node: it is opened -/
theorem NPB_o {w : Int} {O : List Nat} (g : NPB r h pg sc t q N V Z0 k0 n0 c0 m w p e T U L D W O S) (e1 : S1 = cR S 63 t (some q)) (h1 : ty / 2 = w + 1) (h2 : 2 ≤ ty) (h21 : ty ≤ 21) : GOS r h pg sc t N V Z0 k0 n0 c0 m ty p e T U L D W S1 ∧ S1.2.1 63 t = some q := by
  obtain ⟨env, num, trn, cor, fr, s5, c22, ⟨q1, q2, q3⟩, oc, ol, om, q23, qd⟩ := g
  obtain ⟨P, c2⟩ := cor.2.1
  have f := HF_r e1 (by decide)
  have e63 : S1.2.1 63 t = some q := by rw [e1, k_rr, if_pos ⟨rfl, rfl⟩]
  have n21 : 0 ≤ (S1.1 21 r).toInt ∧ (S1.1 21 r).toInt ≤ 64 := by rw [f.1 21 (by decide)]; exact num.1
  refine ⟨⟨ENV_f env f (by decide) (by decide) (by decide) (by decide), NUM_f num f (by decide) n21 (by decide) (by decide), TRN_f trn f (by decide) (by decide), COR_gen (l := []) cor f (by decide) (by decide) (by decide) (by decide) (by decide) (by decide) (by decide) (LNS_e c2.2.2.1 (f.2.1 12 (by decide)) (f.2.1 13 (by decide)) (f.2.1 25 (by decide)) (f.2.1 26 (by decide)) (f.2.1 27 (by decide)) (f.1 13 (by decide))) (STM_e STM_rf (fun o => by rw [f.1 13 (by decide)])) (fun a b ha hb => ?_) (fun b _ => by rw [f.1 0 (by decide)]) (LTS_e c2.2.2.2.2.2.2.2.2 (f.2.2.1 6 (by decide))) (OTH_f f (by decide) (by decide)), by rw [f.2.2.1 59 (by decide), f.2.2.1 60 (by decide)]; exact fr, ⟨fun c => by omega, fun _ => by rw [f.1 30 (by decide)]; exact s5, fun _ c => by omega, fun _ _ => ⟨q :: O, ?_, ?_⟩, fun c => by omega⟩, by rw [f.1 22 (by decide)]; exact c22⟩, e63⟩
  · rw [e1, k_rr] at hb
    rcases Decidable.em (a = t) with c | c
    · rw [if_pos ⟨rfl, c⟩] at hb
      rw [c, ← Option.some.inj hb]
      exact q1
    · rw [if_neg (fun z => c z.2)] at hb
      exact (c2.2.1.2.2.1 a ha).2.2 b hb
  · rw [e63, f.2.1 23 (by decide), f.2.1 25 (by decide)]
    exact ⟨rfl, qd, q2, by rw [q23]; exact oc⟩
  · show ((O.length + 1 : Nat) : Int) = ty / 2
    omega
/-- a field that does not matter -/
theorem GOS_f {zi fa : List Nat} (g : GOS r h pg sc t N V Z0 k0 n0 c0 m ty p e T U L D W S) (f : HF zi [] fa [] S S1) (a1 : dis9 [1, 3, 5, 28, 30, 34, 35, 38] zi = true) (a2 : dis9 [1, 3, 5, 28, 30, 35, 38] zi = true) (a3 : dis9 [13] zi = true) (a4 : dis9 [6, 7, 8, 9, 10, 11, 17, 18, 24, 25, 26, 27, 40, 41] zi = true) (a5 : dis9 [0, 19, 20] zi = true) (a6 : dis9 [1, 29, 34] zi = true) (a7 : dis9 [22, 36] zi = true) (b1 : dis9 [4, 10] fa = true) (b2 : dis9 [6] fa = true) (b3 : dis9 [17, 18, 19, 28, 29, 30, 31, 32, 33, 34, 35, 36, 37, 38, 39, 43, 44, 45, 46, 47, 48, 49, 50, 51, 52, 53, 54, 64, 65, 67] fa = true) (b4 : dis9 [59, 60] fa = true) (h21 : 0 ≤ (S1.1 21 r).toInt ∧ (S1.1 21 r).toInt ≤ 64) : GOS r h pg sc t N V Z0 k0 n0 c0 m ty p e T U L D W S1 := by
  obtain ⟨env, num, trn, cor, fr, ly, h22⟩ := g
  have e36 := f.1 36 (dis9_m a7 (by decide))
  have ot : OTH t S S1 := fun o _ => by
    rw [e36, f.2.2.1 59 (dis9_m b4 (by decide)), f.2.2.1 60 (dis9_m b4 (by decide))]
    exact ⟨rfl, fun _ => rfl, fun _ => rfl⟩
  exact ⟨ENV_f env f a4 (by decide) b3 (by decide), NUM_f num f a5 h21 (by decide) (by decide), TRN_f trn f a6 (by decide), COR_f cor f a1 a2 a3 (by decide) (by decide) (by decide) (by decide) b1 b2 (by decide) (fun b _ => by rw [f.1 0 (dis9_m a5 (by decide))]) ot, by rw [f.2.2.1 59 (dis9_m b4 (by decide)), f.2.2.1 60 (dis9_m b4 (by decide))]; exact fr, LYR_e ly (by rw [f.1 30 (dis9_m a1 (by decide))]) (f.2.1 23 (by decide)) (f.2.1 25 (by decide)) (f.2.1 63 (by decide)), by rw [f.1 22 (dis9_m a7 (by decide))]; exact h22⟩
theorem GOS_m {p1 e1 : Int} (g : GOS r h pg sc t N V Z0 k0 n0 c0 m ty p e T U L D W S) (hp : p1 ≤ p) (he : e1 ≤ e) : GOS r h pg sc t N V Z0 k0 n0 c0 m ty p1 e1 T U L D W S := ⟨g.1, NUM_m g.2.1 hp he, g.2.2⟩
theorem RES_g (g : GOS r h pg sc t N V Z0 k0 n0 c0 m ty (pd9 ty) (od9 ty) T U L D W S) (pl : PLP V (W t) ty (S.1 36 t).toInt) (h0 : NUM r h k0 n0 c0 0 0 S) : RES r h pg sc t N V Z0 k0 n0 c0 m S := ⟨g.1, h0, g.2.2.1, LYR_s g.2.2.2.2.2.1, T, U, L, D, W, g.2.2.2.1, g.2.2.2.2.1, Or.inl ⟨g.2.2.2.2.2.2, ty, g.2.2.2.2.2.1, pl, g.2.1⟩⟩
theorem pd_0 : 0 ≤ pd9 ty := by unfold pd9; split <;> decide
theorem od_0 : 0 ≤ od9 ty := by unfold od9; split <;> decide
/-- the task goes on at a place of type ty -/
theorem RES_n {q9 : Int} (g : GOS r h pg sc t N V Z0 k0 n0 c0 m ty p e T U L D W S) (pl : PLP V (W t) ty q9) (h36 : (S.1 36 t).toInt = q9) (hp : pd9 ty ≤ p) (he : od9 ty ≤ e) : RES r h pg sc t N V Z0 k0 n0 c0 m S := RES_g (GOS_m g hp he) (by rw [h36]; exact pl) (NUM_m g.2.1 (Int.le_trans pd_0 hp) (Int.le_trans od_0 he))
end NPs
section STs
variable {o t : Int}
theorem st25 (h : stp o t ≠ -9) (ho : o = 25) : t < 0 ∧ -2 ≤ t ∧ stp o t = 0 := by subst ho; unfold stp at h ⊢; grind
theorem st26 (h : stp o t ≠ -9) (ho : o = 26) : 0 ≤ t ∧ t % 2 = 0 ∧ stp o t = t + 1 := by subst ho; unfold stp at h ⊢; grind
theorem st27 (h : stp o t ≠ -9) (ho : o = 27 ∨ o = 29) : 0 ≤ t ∧ t % 2 = 0 ∧ t ≤ 20 ∧ ((t = 0 ∧ stp o t = 22) ∨ (2 ≤ t ∧ stp o t = t)) := by rcases ho with ho | ho <;> (subst ho; unfold stp at h ⊢; grind)
theorem st28 (h : stp o t ≠ -9) (ho : o = 28 ∨ o = 30) : 0 ≤ t ∧ t % 2 = 1 ∧ t ≤ 21 ∧ ((t = 1 ∧ stp o t = 22) ∨ (3 ≤ t ∧ stp o t = t - 1)) := by rcases ho with ho | ho <;> (subst ho; unfold stp at h ⊢; grind)
theorem st31 (h : stp o t ≠ -9) (ho : o = 31 ∨ o = 32) : 0 ≤ t ∧ t % 2 = 0 ∧ t ≤ 18 ∧ stp o t = t + 2 := by rcases ho with ho | ho <;> (subst ho; unfold stp at h ⊢; grind)
theorem st33 (h : stp o t ≠ -9) (ho : o = 33) : 0 ≤ t ∧ t % 2 = 1 ∧ t ≤ 19 ∧ stp o t = t + 1 := by subst ho; unfold stp at h ⊢; grind
theorem st34 (h : stp o t ≠ -9) (ho : o = 34) : t % 2 = 0 ∧ 2 ≤ t ∧ t ≤ 20 ∧ ((t = 2 ∧ stp o t = 22) ∨ (4 ≤ t ∧ stp o t = t - 2)) := by subst ho; unfold stp at h ⊢; grind
theorem st35 (h : stp o t ≠ -9) (h0 : 34 < o) : o = 35 ∧ t = 22 := by unfold stp at h; grind (splits := 40)
theorem st12 (h : stp o t ≠ -9) (h1 : o ≤ 12) : (t < 0 → stp o t < 0) ∧ (0 ≤ t → stp o t = t) ∧ 0 ≤ o ∧ (stp o t = -1 → (1 ≤ o ∧ o ≤ 4) ∨ t = -1) := by unfold stp at h ⊢; grind (splits := 60)
theorem st13 (h : stp o t ≠ -9) (h0 : 13 ≤ o) (h1 : o ≤ 24) : t < 0 ∧ stp o t = -2 ∧ (o = 14 → t = -1) := by unfold stp at h ⊢; grind (splits := 60)
end STs
