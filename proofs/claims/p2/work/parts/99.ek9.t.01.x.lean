
section KIs
variable {S S1 : kS} {x o r h pg sc tk pr tb p2 s2 : Nat} {N : Nat → Prop} {V : PV} {c0 m : Int} {n k : Nat} {Z0 : kS} {zi zr fa fq : List Nat}
theorem BTW_rz (b : BTW r h pg sc N V Z0 c0 m S) : BTW r h pg sc N V S c0 m S := by
  obtain ⟨A, T, U, L, D, P, W, ⟨v1, v2, v3, ⟨v4, v5, v6, _⟩, v7⟩, bx⟩ := b
  exact ⟨A, T, U, L, D, P, W, ⟨v1, v2, v3, ⟨v4, v5, v6, FRZ_rf⟩, v7⟩, bx⟩
theorem WFP_v {V V1 : PV} (h1 : ∀ f, f ∈ [17, 18, 24, 25] → V1.1 f = V.1 f) (h2 : ∀ f, f ∈ [28, 29, 30, 32, 43, 46, 47, 48, 50, 51, 52, 149] → V1.2 f = V.2 f) (h : WFP V) : WFP V1 := by
  unfold WFP ACTr TGr CP at h ⊢
  rw [h1 17 (by decide), h1 18 (by decide), h1 24 (by decide), h1 25 (by decide), h2 28 (by decide), h2 29 (by decide), h2 30 (by decide), h2 32 (by decide), h2 43 (by decide), h2 46 (by decide), h2 47 (by decide), h2 48 (by decide), h2 50 (by decide), h2 51 (by decide), h2 52 (by decide), h2 149 (by decide)]
  exact h
theorem pv_w1 : ∀ f, f ∈ [17, 18, 24, 25] → (pv pg sc S).1 f = (vw pr tk pg sc S).1 f := fun f hf => by
  rcases (by simpa using hf : f = 17 ∨ f = 18 ∨ f = 24 ∨ f = 25) with c | c | c | c <;> (rw [c]; rfl)
theorem pv_w2 : ∀ f, f ∈ [28, 29, 30, 32, 43, 46, 47, 48, 50, 51, 52, 149] → (pv pg sc S).2 f = (vw pr tk pg sc S).2 f := fun f hf => by
  rcases (by simpa using hf : f = 28 ∨ f = 29 ∨ f = 30 ∨ f = 32 ∨ f = 43 ∨ f = 46 ∨ f = 47 ∨ f = 48 ∨ f = 50 ∨ f = 51 ∨ f = 52 ∨ f = 149) with c | c | c | c | c | c | c | c | c | c | c | c <;> (rw [c]; rfl)
theorem PGM_v (hB : jRB (vw pr tk pg sc S)) (hW : WFP (vw pr tk pg sc S)) : PGM (pv pg sc S) := ⟨hB.1, hB.2.1, hB.2.2.1, hB.2.2.2.1, fun i => hB.2.2.2.2.2.2.2.1 i, fun i => hB.2.2.2.2.2.2.2.2.2.1 i, fun i => hB.2.2.2.2.2.2.2.2.2.2.1 i, fun i => hB.2.2.2.2.2.2.2.2.2.2.2.1 i, WFP_v (V := vw pr tk pg sc S) pv_w1 pv_w2 hW⟩
theorem STI_v (h : STI (fun _ => False) (vw pr tk pg sc S)) : STI (fun _ => False) (pv pg sc S) := fun r9 w hr hw hE => h r9 w hr hw hE
theorem RGA_b (hB : jRB (vw pr tk pg sc S)) : RGA (vw pr tk pg sc S) := ⟨hB.2.2.2.2.2.2.2.1, hB.2.2.2.2.2.2.2.2.1, hB.2.2.2.2.2.2.2.2.2.1, hB.2.2.2.2.2.2.2.2.2.2.1, hB.2.2.2.2.2.2.2.2.2.2.2.1, hB.2.2.2.2.2.2.2.2.2.2.2.2.1, hB.2.2.2.2.2.2.2.2.2.2.2.2.2.1, hB.2.2.2.2.2.2.2.2.2.2.2.2.2.2⟩
/-- ranges of a program's arrays, of the parser's -/
def RGS (pr pg sc : Nat) (S : kS) : Prop := (∀ i, 0 ≤ (ar S 35 pg i).toInt ∧ (ar S 35 pg i).toInt ≤ 12) ∧ (∀ i, 0 ≤ (ar S 36 pg i).toInt ∧ (ar S 36 pg i).toInt ≤ 16) ∧ (∀ i, -1 ≤ (ar S 43 sc i).toInt ∧ (ar S 43 sc i).toInt ≤ 1379) ∧ (∀ i, -1 ≤ (ar S 30 pg i).toInt ∧ (ar S 30 pg i).toInt ≤ 1379) ∧ (∀ i, 0 ≤ (ar S 44 sc i).toInt ∧ (ar S 44 sc i).toInt ≤ 9) ∧ (∀ i, -1 ≤ (ar S 45 sc i).toInt ∧ (ar S 45 sc i).toInt ≤ 459) ∧ (∀ i, 0 ≤ (ar S 37 pg i).toInt ∧ (ar S 37 pg i).toInt ≤ 8063) ∧ ∀ i, 0 ≤ (ar S 17 pr i).toInt ∧ (ar S 17 pr i).toInt ≤ 8063
theorem RGS_a (h : RGS pr pg sc S) : RGA (vw pr tk pg sc S) := ⟨h.1, h.2.1, h.2.2.1, h.2.2.2.1, h.2.2.2.2.1, h.2.2.2.2.2.1, h.2.2.2.2.2.2.1, h.2.2.2.2.2.2.2⟩
theorem RGS_b (hB : jRB (vw pr tk pg sc S)) : RGS pr pg sc S := RGA_b hB
theorem RGS_e (h : RGS pr pg sc S) (e1 : ∀ f i, f ∈ [30, 35, 36, 37] → ar S1 f pg i = ar S f pg i) (e2 : ∀ f i, f ∈ [43, 44, 45] → ar S1 f sc i = ar S f sc i) (e3 : ∀ i, 0 ≤ (ar S1 17 pr i).toInt ∧ (ar S1 17 pr i).toInt ≤ 8063) : RGS pr pg sc S1 := ⟨fun i => by rw [e1 35 i (by decide)]; exact h.1 i, fun i => by rw [e1 36 i (by decide)]; exact h.2.1 i, fun i => by rw [e2 43 i (by decide)]; exact h.2.2.1 i, fun i => by rw [e1 30 i (by decide)]; exact h.2.2.2.1 i, fun i => by rw [e2 44 i (by decide)]; exact h.2.2.2.2.1 i, fun i => by rw [e2 45 i (by decide)]; exact h.2.2.2.2.2.1 i, fun i => by rw [e1 37 i (by decide)]; exact h.2.2.2.2.2.2.1 i, e3⟩
def KST (x o r h pg sc tk pr tb p2 s2 : Nat) (N : Nat → Prop) (V : PV) (c0 : Int) (n k : Nat) (S : kS) : Prop := (WT S.2.2.2.2.2 S ∧ (x, Sum.inl 11) ∈ S.2.2.2.2.2 ∧ (o, Sum.inr (1, 1)) ∈ S.2.2.2.2.2) ∧ (S.2.1 69 x = some tk ∧ S.2.1 70 x = some pr ∧ S.2.1 71 x = some tb ∧ S.2.1 72 x = some h ∧ S.2.1 73 x = some r ∧ S.2.1 74 x = some pg ∧ S.2.1 75 x = some p2) ∧ (S.2.1 31 p2 = some s2 ∧ S.2.1 14 pr = some tk ∧ pg ≠ p2 ∧ sc ≠ s2) ∧ (PGM V ∧ STI (fun _ => False) V) ∧ (RGS pr pg sc S ∧ RGS pr p2 s2 S) ∧ (S.1 41 tk = nI n ∧ n ≤ 4000 ∧ TQS tk S) ∧ (∀ l, N l → S.2.1 8 h = some l ∨ ∃ i, i < 8 ∧ qa S 7 h i = some l) ∧ BTW r h pg sc N V S c0 (400 * (k : Int)) S
theorem KST_k {k1 : Nat} (g : KST x o r h pg sc tk pr tb p2 s2 N V c0 n k S) (hk : k ≤ k1) : KST x o r h pg sc tk pr tb p2 s2 N V c0 n k1 S := ⟨g.1, g.2.1, g.2.2.1, g.2.2.2.1, g.2.2.2.2.1, g.2.2.2.2.2.1, g.2.2.2.2.2.2.1, BTW_m g.2.2.2.2.2.2.2 (by omega)⟩
/-- the kinds of the objects of the face -/
theorem KST_d (g : KST x o r h pg sc tk pr tb p2 s2 N V c0 n k S) : (tk, Sum.inl 10) ∈ S.2.2.2.2.2 ∧ (pr, Sum.inl 3) ∈ S.2.2.2.2.2 ∧ (tb, Sum.inl 8) ∈ S.2.2.2.2.2 ∧ (p2, Sum.inl 5) ∈ S.2.2.2.2.2 ∧ (s2, Sum.inl 7) ∈ S.2.2.2.2.2 ∧ (pg, Sum.inl 5) ∈ S.2.2.2.2.2 ∧ (sc, Sum.inl 7) ∈ S.2.2.2.2.2 ∧ (h, Sum.inl 1) ∈ S.2.2.2.2.2 := by
  obtain ⟨⟨w, hx, _⟩, ⟨e1, e2, e3, e4, e5, e6, e7⟩, ⟨e8, _, _, _⟩, _, _, _, _, b⟩ := g
  have t := w.2.1
  have k2 := t 75 x p2 hx e7
  obtain ⟨_, T, U, L, D, P, W, bx⟩ := b
  exact ⟨t 69 x tk hx e1, t 70 x pr hx e2, t 71 x tb hx e3, k2, t 31 p2 s2 k2 e8, bx.1.2.2.2.1.2.1, bx.1.2.2.2.1.2.2.1, t 72 x h hx e4⟩
/-- a turn or a beginning leaves the rest as it was -/
theorem KST_z {m1 : Int} {k1 : Nat} (g : KST x o r h pg sc tk pr tb p2 s2 N V c0 n k S) (hw : WT S1.2.2.2.2.2 S1) (b : BTW r h pg sc N V S c0 m1 S1) (hm : m1 ≤ 400 * (k1 : Int)) : KST x o r h pg sc tk pr tb p2 s2 N V c0 n k1 S1 := by
  obtain ⟨d1, d2, d3, d4, d5, d6, d7, d8⟩ := KST_d g
  have z := BTW_z b
  obtain ⟨⟨w, hx, ho⟩, ⟨e1, e2, e3, e4, e5, e6, e7⟩, ⟨e8, e9, e10, e11⟩, q1, ⟨q2, q3⟩, ⟨q4, q5, q6⟩, q7, _⟩ := g
  have h8 := (z.1.2 h d8).1
  have h7 := (z.1.2 h d8).2
  have zx := (z.2 x 11 (by decide) hx).2.1
  have zt := z.2 tk 10 (by decide) d1
  have zp := z.2 pr 3 (by decide) d2
  have z2 := z.2 p2 5 (by decide) d4
  have zs := z.2 s2 7 (by decide) d5
  have zg := z.2 pg 5 (by decide) d6
  have zc := z.2 sc 7 (by decide) d7
  have e17 : ∀ i, 0 ≤ (ar S1 17 pr i).toInt ∧ (ar S1 17 pr i).toInt ≤ 8063 := fun i => by rw [zp.2.2 17 (by decide) i]; exact q2.2.2.2.2.2.2.2 i
  have l1 : ∀ {a : Nat}, (∀ f, f ∈ [17, 18, 19, 28, 29, 30, 31, 32, 33, 34, 35, 36, 37, 38, 39, 43, 44, 45, 46, 47, 48, 49, 50, 51, 52, 53, 54, 64, 65, 67] → ∀ j, ar S1 f a j = ar S f a j) → ∀ f i, f ∈ [30, 35, 36, 37] → ar S1 f a i = ar S f a i := fun hh f i hf => hh f (by
    rcases (by simpa using hf : f = 30 ∨ f = 35 ∨ f = 36 ∨ f = 37) with c | c | c | c <;> (rw [c]; decide)) i
  have l2 : ∀ {a : Nat}, (∀ f, f ∈ [17, 18, 19, 28, 29, 30, 31, 32, 33, 34, 35, 36, 37, 38, 39, 43, 44, 45, 46, 47, 48, 49, 50, 51, 52, 53, 54, 64, 65, 67] → ∀ j, ar S1 f a j = ar S f a j) → ∀ f i, f ∈ [43, 44, 45] → ar S1 f a i = ar S f a i := fun hh f i hf => hh f (by
    rcases (by simpa using hf : f = 43 ∨ f = 44 ∨ f = 45) with c | c | c <;> (rw [c]; decide)) i
  refine ⟨⟨hw, z.1.1 _ hx, z.1.1 _ ho⟩, ⟨by rw [zx 69 (by decide)]; exact e1, by rw [zx 70 (by decide)]; exact e2, by rw [zx 71 (by decide)]; exact e3, by rw [zx 72 (by decide)]; exact e4, by rw [zx 73 (by decide)]; exact e5, by rw [zx 74 (by decide)]; exact e6, by rw [zx 75 (by decide)]; exact e7⟩, ⟨by rw [z2.2.1 31 (by decide)]; exact e8, by rw [zp.2.1 14 (by decide)]; exact e9, e10, e11⟩, q1, ⟨RGS_e q2 (l1 zg.2.2) (l2 zc.2.2) e17, RGS_e q3 (l1 z2.2.2) (l2 zs.2.2) e17⟩, ⟨by rw [zt.1 41 (by decide)]; exact q4, q5, ?_⟩, fun l hl => ?_, BTW_m (BTW_rz b) hm⟩
  · unfold TQS
    rw [zt.1 40 (by decide), zt.2.2 64 (by decide)]
    exact ⟨q6.1, q6.2.1, q6.2.2.1, fun i => by rw [zt.2.2 65 (by decide)]; exact q6.2.2.2 i⟩
  · rcases q7 l hl with c | ⟨i, hi, c⟩
    · exact Or.inl (by rw [h8]; exact c)
    · exact Or.inr ⟨i, hi, by rw [h7 i]; exact c⟩
end KIs
