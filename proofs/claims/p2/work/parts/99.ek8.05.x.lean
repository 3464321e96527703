
theorem HF_s {zi zr fa fq zi1 zr1 fa1 fq1 : List Nat} {S S1 : kS} (f : HF zi zr fa fq S S1) (h1 : sub9 zi zi1 = true) (h2 : sub9 zr zr1 = true) (h3 : sub9 fa fa1 = true) (h4 : sub9 fq fq1 = true) : HF zi1 zr1 fa1 fq1 S S1 := ⟨fun g hg => f.1 g (sub9_m h1 hg), fun g hg => f.2.1 g (sub9_m h2 hg), fun g hg => f.2.2.1 g (sub9_m h3 hg), fun g hg => f.2.2.2.1 g (sub9_m h4 hg), f.2.2.2.2⟩
section HIs
variable {S S1 : kS} {h t : Nat} {N T G : Nat → Prop} {U : List Nat} {L : Nat → List Nat} {D : Nat → Nat} {P : Nat → Int32}
theorem HI_en (g : HI h N T G U L D P S) (ht : tl S h t) (hr : ∀ i : Nat, (i : Int) < (S.1 3 h).toInt → ar S 4 h i ≠ S.1 28 t) (hc : ∀ p, p ∈ L t → S.1 13 p ≠ 0) (hT : (S.1 38 t = 0 ∨ S.1 38 t = 1) → T t) (f : HF [3, 30] [] [4] [] S S1) (p : ENT h t S S1) : HI h N T G U L D P S1 := by
  obtain ⟨g1, g2, g3, g4, g5, g6, g7, g8, g9⟩ := g
  have e1 := f.1 1 (by decide)
  have eq3 := f.2.2.2.1 3 (by decide)
  have e13 := f.1 13 (by decide)
  have m : STM [] S S1 := STM_e STM_rf (fun o => congrFun e13 o)
  refine ⟨TKA_e g1 e1 (f.1 28 (by decide)) eq3, PAI_e g2 (f.2.1 11 (by decide)) (f.2.1 21 (by decide)) (f.2.1 23 (by decide)) (f.2.1 24 (by decide)) (f.2.1 61 (by decide)) (f.2.1 62 (by decide)) (f.2.1 63 (by decide)) e1 eq3 f.2.2.2.2, LNS_e g3 (f.2.1 12 (by decide)) (f.2.1 13 (by decide)) (f.2.1 25 (by decide)) (f.2.1 26 (by decide)) (f.2.1 27 (by decide)) e13, ?_, ASI_m g5 m (f.2.1 57 (by decide)) (f.2.1 56 (by decide)) (f.2.1 22 (by decide)) e1 eq3 f.2.2.2.2, RWI_in g6 g1 ht hr p e1 eq3, by rw [e1, f.1 5 (by decide), f.2.2.1 10 (by decide)]; exact g7, LSI_e g8 (f.1 0 (by decide)) (f.1 35 (by decide)) e1 (f.2.1 9 (by decide)) eq3 f.2.2.2.2, LTS_e g9 (f.2.2.1 6 (by decide))⟩
  intro u hg hu
  rw [tl_e e1 eq3] at hu
  rw [e13, f.1 38 (by decide), p.1 u]
  rcases Decidable.em (u = t) with c | c
  · rw [c]
    exact ⟨fun _ => hc, fun _ => hT⟩
  · rw [if_neg c]
    exact g4 u hg hu
theorem HI_lv {k : Int32} {r : Option Nat} (g : HI h N T G U L D P S) (f : HF [3] [] [4] [] S S1) (p : LVE h k S S1 r) : HI h N T G U L D P S1 := by
  obtain ⟨g1, g2, g3, g4, g5, g6, g7, g8, g9⟩ := g
  have e1 := f.1 1 (by decide)
  have eq3 := f.2.2.2.1 3 (by decide)
  have e13 := f.1 13 (by decide)
  have m : STM [] S S1 := STM_e STM_rf (fun o => congrFun e13 o)
  exact ⟨TKA_e g1 e1 (f.1 28 (by decide)) eq3, PAI_e g2 (f.2.1 11 (by decide)) (f.2.1 21 (by decide)) (f.2.1 23 (by decide)) (f.2.1 24 (by decide)) (f.2.1 61 (by decide)) (f.2.1 62 (by decide)) (f.2.1 63 (by decide)) e1 eq3 f.2.2.2.2, LNS_e g3 (f.2.1 12 (by decide)) (f.2.1 13 (by decide)) (f.2.1 25 (by decide)) (f.2.1 26 (by decide)) (f.2.1 27 (by decide)) e13, SGI_m g4 m (f.1 30 (by decide)) (f.1 38 (by decide)) e1 eq3, ASI_m g5 m (f.2.1 57 (by decide)) (f.2.1 56 (by decide)) (f.2.1 22 (by decide)) e1 eq3 f.2.2.2.2, (RWI_out g6 p e1 (f.1 30 (by decide)) eq3).1, by rw [e1, f.1 5 (by decide), f.2.2.1 10 (by decide)]; exact g7, LSI_e g8 (f.1 0 (by decide)) (f.1 35 (by decide)) e1 (f.2.1 9 (by decide)) eq3 f.2.2.2.2, LTS_e g9 (f.2.2.1 6 (by decide))⟩
theorem HI_st {v : Int32} (g : HI h N T G U L D P S) (e : S1 = cI S 30 t v) (hr : v ≠ 0 → ∀ i : Nat, (i : Int) < (S.1 3 h).toInt → qa S 3 h (ix (ar S 4 h i)) ≠ some t) (hc : G t → (v = 0 ∨ v = 2 ∨ (v = 1 ∧ S.1 38 t ≠ 0)) → ∀ p, p ∈ L t → S.1 13 p ≠ 0) (hT : G t → (v = 0 ∨ v = 1 ∨ v = 2) → (S.1 38 t = 0 ∨ S.1 38 t = 1) → T t) : HI h N T G U L D P S1 := by
  obtain ⟨g1, g2, g3, g4, g5, g6, g7, g8, g9⟩ := g
  have f := HF_i e
  have e1 := f.1 1 (by decide)
  have eq3 := f.2.2.2.1 3 (by decide)
  have e13 := f.1 13 (by decide)
  have m : STM [] S S1 := STM_e STM_rf (fun o => congrFun e13 o)
  refine ⟨TKA_e g1 e1 (f.1 28 (by decide)) eq3, PAI_e g2 (f.2.1 11 (by decide)) (f.2.1 21 (by decide)) (f.2.1 23 (by decide)) (f.2.1 24 (by decide)) (f.2.1 61 (by decide)) (f.2.1 62 (by decide)) (f.2.1 63 (by decide)) e1 eq3 f.2.2.2.2, LNS_e g3 (f.2.1 12 (by decide)) (f.2.1 13 (by decide)) (f.2.1 25 (by decide)) (f.2.1 26 (by decide)) (f.2.1 27 (by decide)) e13, ?_, ASI_m g5 m (f.2.1 57 (by decide)) (f.2.1 56 (by decide)) (f.2.1 22 (by decide)) e1 eq3 f.2.2.2.2, RWI_st g6 g1 hr e, by rw [e1, f.1 5 (by decide), f.2.2.1 10 (by decide)]; exact g7, LSI_e g8 (f.1 0 (by decide)) (f.1 35 (by decide)) e1 (f.2.1 9 (by decide)) eq3 f.2.2.2.2, LTS_e g9 (f.2.2.1 6 (by decide))⟩
  intro u hg hu
  rw [tl_e e1 eq3] at hu
  rw [e13, f.1 38 (by decide), e, k_ii]
  rcases Decidable.em (u = t) with c | c
  · rw [if_pos ⟨rfl, c⟩, c]
    rw [c] at hg
    exact ⟨hc hg, hT hg⟩
  · rw [if_neg (fun q => c q.2)]
    exact g4 u hg hu
theorem HI_oc {v : Int32} (g : HI h N T G U L D P S) (e : S1 = cI S 38 t v) (hc : G t → v ≠ 0 → S.1 30 t = 1 → ∀ p, p ∈ L t → S.1 13 p ≠ 0) (hT : G t → (v = 0 ∨ v = 1) → (S.1 30 t = 0 ∨ S.1 30 t = 1 ∨ S.1 30 t = 2) → T t) : HI h N T G U L D P S1 := by
  obtain ⟨g1, g2, g3, g4, g5, g6, g7, g8, g9⟩ := g
  have f := HF_i e
  have e1 := f.1 1 (by decide)
  have eq3 := f.2.2.2.1 3 (by decide)
  have e13 := f.1 13 (by decide)
  have m : STM [] S S1 := STM_e STM_rf (fun o => congrFun e13 o)
  refine ⟨TKA_e g1 e1 (f.1 28 (by decide)) eq3, PAI_e g2 (f.2.1 11 (by decide)) (f.2.1 21 (by decide)) (f.2.1 23 (by decide)) (f.2.1 24 (by decide)) (f.2.1 61 (by decide)) (f.2.1 62 (by decide)) (f.2.1 63 (by decide)) e1 eq3 f.2.2.2.2, LNS_e g3 (f.2.1 12 (by decide)) (f.2.1 13 (by decide)) (f.2.1 25 (by decide)) (f.2.1 26 (by decide)) (f.2.1 27 (by decide)) e13, ?_, ASI_m g5 m (f.2.1 57 (by decide)) (f.2.1 56 (by decide)) (f.2.1 22 (by decide)) e1 eq3 f.2.2.2.2, RWI_e g6 e1 (f.1 3 (by decide)) (f.1 30 (by decide)) (f.2.2.1 4 (by decide)) eq3, by rw [e1, f.1 5 (by decide), f.2.2.1 10 (by decide)]; exact g7, LSI_e g8 (f.1 0 (by decide)) (f.1 35 (by decide)) e1 (f.2.1 9 (by decide)) eq3 f.2.2.2.2, LTS_e g9 (f.2.2.1 6 (by decide))⟩
  intro u hg hu
  rw [tl_e e1 eq3] at hu
  rw [e13, f.1 30 (by decide), e, k_ii]
  rcases Decidable.em (u = t) with c | c
  · rw [if_pos ⟨rfl, c⟩, c]
    rw [c] at hu hg
    refine ⟨fun q => ?_, fun q w => hT hg w q⟩
    rcases q with q | q | q
    · exact (g4 t hg hu).1 (Or.inl q)
    · exact (g4 t hg hu).1 (Or.inr (Or.inl q))
    · exact hc hg q.2 q.1
  · rw [if_neg (fun q => c q.2)]
    exact g4 u hg hu
/-- a field that the hall's invariants do not speak of -/
theorem HI_f {zi zr fa fq : List Nat} (g : HI h N T G U L D P S) (f : HF zi zr fa fq S S1) (hz : dis9 [0, 1, 3, 5, 13, 28, 30, 35, 38] zi = true) (hr : dis9 [9, 11, 12, 13, 21, 22, 23, 24, 25, 26, 27, 56, 57, 61, 62, 63] zr = true) (ha : dis9 [4, 6, 10] fa = true) (hq : dis9 [3] fq = true) : HI h N T G U L D P S1 := by
  obtain ⟨g1, g2, g3, g4, g5, g6, g7, g8, g9⟩ := g
  have i := fun x (hx : x ∈ [0, 1, 3, 5, 13, 28, 30, 35, 38]) => f.1 x (dis9_m hz hx)
  have r := fun x (hx : x ∈ [9, 11, 12, 13, 21, 22, 23, 24, 25, 26, 27, 56, 57, 61, 62, 63]) => f.2.1 x (dis9_m hr hx)
  have a := fun x (hx : x ∈ [4, 6, 10]) => f.2.2.1 x (dis9_m ha hx)
  have e1 := i 1 (by decide)
  have eq3 := f.2.2.2.1 3 (dis9_m hq (by decide))
  have e13 := i 13 (by decide)
  have m : STM [] S S1 := STM_e STM_rf (fun o => congrFun e13 o)
  exact ⟨TKA_e g1 e1 (i 28 (by decide)) eq3, PAI_e g2 (r 11 (by decide)) (r 21 (by decide)) (r 23 (by decide)) (r 24 (by decide)) (r 61 (by decide)) (r 62 (by decide)) (r 63 (by decide)) e1 eq3 f.2.2.2.2, LNS_e g3 (r 12 (by decide)) (r 13 (by decide)) (r 25 (by decide)) (r 26 (by decide)) (r 27 (by decide)) e13, SGI_m g4 m (i 30 (by decide)) (i 38 (by decide)) e1 eq3, ASI_m g5 m (r 57 (by decide)) (r 56 (by decide)) (r 22 (by decide)) e1 eq3 f.2.2.2.2, RWI_e g6 e1 (i 3 (by decide)) (i 30 (by decide)) (a 4 (by decide)) eq3, by rw [e1, i 5 (by decide), a 10 (by decide)]; exact g7, LSI_e g8 (i 0 (by decide)) (i 35 (by decide)) e1 (r 9 (by decide)) eq3 f.2.2.2.2, LTS_e g9 (a 6 (by decide))⟩
theorem HI_i {x o : Nat} {v : Int32} (g : HI h N T G U L D P S) (e : S1 = cI S x o v) (hx : dis9 [0, 1, 3, 5, 13, 28, 30, 35, 38] [x] = true) : HI h N T G U L D P S1 := HI_f g (HF_i e) hx (by decide) (by decide) (by decide)
theorem HI_pl (g : HI h N T G U L D P S) (f : HF [5] [] [10] [] S S1) (p : AGE (S.1 1 h).toInt (S1.1 5 h).toInt (ar S1 10 h)) : HI h N T G U L D P S1 := by
  obtain ⟨g1, g2, g3, g4, g5, g6, g7, g8, g9⟩ := g
  have e1 := f.1 1 (by decide)
  have eq3 := f.2.2.2.1 3 (by decide)
  have e13 := f.1 13 (by decide)
  have m : STM [] S S1 := STM_e STM_rf (fun o => congrFun e13 o)
  exact ⟨TKA_e g1 e1 (f.1 28 (by decide)) eq3, PAI_e g2 (f.2.1 11 (by decide)) (f.2.1 21 (by decide)) (f.2.1 23 (by decide)) (f.2.1 24 (by decide)) (f.2.1 61 (by decide)) (f.2.1 62 (by decide)) (f.2.1 63 (by decide)) e1 eq3 f.2.2.2.2, LNS_e g3 (f.2.1 12 (by decide)) (f.2.1 13 (by decide)) (f.2.1 25 (by decide)) (f.2.1 26 (by decide)) (f.2.1 27 (by decide)) e13, SGI_m g4 m (f.1 30 (by decide)) (f.1 38 (by decide)) e1 eq3, ASI_m g5 m (f.2.1 57 (by decide)) (f.2.1 56 (by decide)) (f.2.1 22 (by decide)) e1 eq3 f.2.2.2.2, RWI_e g6 e1 (f.1 3 (by decide)) (f.1 30 (by decide)) (f.2.2.1 4 (by decide)) eq3, by rw [e1]; exact p, LSI_e g8 (f.1 0 (by decide)) (f.1 35 (by decide)) e1 (f.2.1 9 (by decide)) eq3 f.2.2.2.2, LTS_e g9 (f.2.2.1 6 (by decide))⟩
theorem HI_ds {Q A : Prop} {d : List Nat} (g : HI h N T G U L D P S) (f : HF [5, 13] [12, 13, 25, 26, 27] [10] [] S S1) (p : DST (S.1 1 h).toInt N L h t Q A d S S1) : HI h N T G U L D P S1 := by
  obtain ⟨g1, g2, g3, g4, g5, g6, g7, g8, g9⟩ := g
  have e1 := f.1 1 (by decide)
  have eq3 := f.2.2.2.1 3 (by decide)
  exact ⟨TKA_e g1 e1 (f.1 28 (by decide)) eq3, PAI_e g2 (f.2.1 11 (by decide)) (f.2.1 21 (by decide)) (f.2.1 23 (by decide)) (f.2.1 24 (by decide)) (f.2.1 61 (by decide)) (f.2.1 62 (by decide)) (f.2.1 63 (by decide)) e1 eq3 f.2.2.2.2, p.1, SGI_m g4 p.2.2.2.1 (f.1 30 (by decide)) (f.1 38 (by decide)) e1 eq3, ASI_m g5 p.2.2.2.1 (f.2.1 57 (by decide)) (f.2.1 56 (by decide)) (f.2.1 22 (by decide)) e1 eq3 f.2.2.2.2, RWI_e g6 e1 (f.1 3 (by decide)) (f.1 30 (by decide)) (f.2.2.1 4 (by decide)) eq3, by rw [e1]; exact p.2.1, LSI_e g8 (f.1 0 (by decide)) (f.1 35 (by decide)) e1 (f.2.1 9 (by decide)) eq3 f.2.2.2.2, LTS_e g9 (f.2.2.1 6 (by decide))⟩
theorem HI_rp {a : Nat} (g : HI h N T G U L D P S) (hgt : G t) (ha : a ∈ L t) (hs : S.1 13 a = 0) (f : HF [5, 13, 14, 15, 38, 39] [12, 13, 25, 26, 27] [10] [] S S1) (p : RPF (S.1 1 h).toInt N L h t S S1) : HI h N T G U L D P S1 := by
  obtain ⟨g1, g2, g3, g4, g5, g6, g7, g8, g9⟩ := g
  have e1 := f.1 1 (by decide)
  have eq3 := f.2.2.2.1 3 (by decide)
  have ht : tl S h t := (g2.2.2.2.2.2.2.1 t a ha).1
  obtain ⟨p1, p2, p3, p4, p5⟩ := p
  refine ⟨TKA_e g1 e1 (f.1 28 (by decide)) eq3, PAI_e g2 (f.2.1 11 (by decide)) (f.2.1 21 (by decide)) (f.2.1 23 (by decide)) (f.2.1 24 (by decide)) (f.2.1 61 (by decide)) (f.2.1 62 (by decide)) (f.2.1 63 (by decide)) e1 eq3 f.2.2.2.2, p1, ?_, ASI_m g5 p3 (f.2.1 57 (by decide)) (f.2.1 56 (by decide)) (f.2.1 22 (by decide)) e1 eq3 f.2.2.2.2, RWI_e g6 e1 (f.1 3 (by decide)) (f.1 30 (by decide)) (f.2.2.1 4 (by decide)) eq3, by rw [e1]; exact p2, LSI_e g8 (f.1 0 (by decide)) (f.1 35 (by decide)) e1 (f.2.1 9 (by decide)) eq3 f.2.2.2.2, LTS_e g9 (f.2.2.1 6 (by decide))⟩
  intro u hg hu
  rw [tl_e e1 eq3] at hu
  rw [f.1 30 (by decide)]
  rcases Decidable.em (u = t) with c | c
  · rw [c]
    have n0 : S.1 30 t ≠ 0 := fun q => (g4 t hgt ht).1 (Or.inl q) a ha hs
    have n2 : S.1 30 t ≠ 2 := fun q => (g4 t hgt ht).1 (Or.inr (Or.inl q)) a ha hs
    have n1 : S.1 30 t = 1 → S.1 38 t = 0 := fun q => by
      rcases Decidable.em (S.1 38 t = 0) with d | d
      · exact d
      · exact absurd hs ((g4 t hgt ht).1 (Or.inr (Or.inr ⟨q, d⟩)) a ha)
    refine ⟨fun q => ?_, fun q _ => ?_⟩
    · rcases q with q | q | q
      · exact absurd q n0
      · exact absurd q n2
      · rcases p5 with w | w
        · rw [w, n1 q.1] at q
          exact absurd rfl q.2
        · exact w.2
    · rcases q with q | q | q
      · exact absurd q n0
      · exact (g4 t hgt ht).2 (Or.inr (Or.inl q)) (Or.inl (n1 q))
      · exact absurd q n2
  · rw [p4 u c]
    exact ⟨fun q w hw => STM_n p3 ((g4 u hg hu).1 q w hw), (g4 u hg hu).2⟩
theorem HI_ca (g : HI h N T G U L D P S) (ht : tl S h t) (h0 : S.1 35 t = 0) (e : S1 = cI S 35 t 1) : HI h N T G U L D P S1 ∧ ∀ b, S1.2.1 9 h = some b → 0 ≤ (S1.1 0 b).toInt ∧ (S1.1 0 b).toInt + 1 ≤ lcn (cnc S1 h) (S1.1 1 h).toInt.toNat := by
  obtain ⟨g1, g2, g3, g4, g5, g6, g7, g8, g9⟩ := g
  have f := HF_i e
  have e1 := f.1 1 (by decide)
  have eq3 := f.2.2.2.1 3 (by decide)
  have e13 := f.1 13 (by decide)
  have m : STM [] S S1 := STM_e STM_rf (fun o => congrFun e13 o)
  have k := LSI_c g8 g1 ht h0 e
  refine ⟨⟨TKA_e g1 e1 (f.1 28 (by decide)) eq3, PAI_e g2 (f.2.1 11 (by decide)) (f.2.1 21 (by decide)) (f.2.1 23 (by decide)) (f.2.1 24 (by decide)) (f.2.1 61 (by decide)) (f.2.1 62 (by decide)) (f.2.1 63 (by decide)) e1 eq3 f.2.2.2.2, LNS_e g3 (f.2.1 12 (by decide)) (f.2.1 13 (by decide)) (f.2.1 25 (by decide)) (f.2.1 26 (by decide)) (f.2.1 27 (by decide)) e13, SGI_m g4 m (f.1 30 (by decide)) (f.1 38 (by decide)) e1 eq3, ASI_m g5 m (f.2.1 57 (by decide)) (f.2.1 56 (by decide)) (f.2.1 22 (by decide)) e1 eq3 f.2.2.2.2, RWI_e g6 e1 (f.1 3 (by decide)) (f.1 30 (by decide)) (f.2.2.1 4 (by decide)) eq3, by rw [e1, f.1 5 (by decide), f.2.2.1 10 (by decide)]; exact g7, k.2, LTS_e g9 (f.2.2.1 6 (by decide))⟩, fun b hb => ?_⟩
  rw [f.2.1 9 (by decide)] at hb
  refine ⟨?_, k.1 b hb⟩
  rw [f.1 0 (by decide)]
  exact (g8.1 b hb).1
theorem HI_nt {b : Nat} (g : HI h N T G U L D P S) (hb : S.2.1 9 h = some b) (hl : 0 ≤ (S.1 0 b).toInt ∧ (S.1 0 b).toInt + 1 ≤ lcn (cnc S h) (S.1 1 h).toInt.toNat) (f : HF [0] [] [0, 1] [] S S1) (p : (S1.1 0 b).toInt = (S.1 0 b).toInt + 1 ∧ ∀ o, o ≠ b → S1.1 0 o = S.1 0 o) : HI h N T G U L D P S1 := by
  obtain ⟨g1, g2, g3, g4, g5, g6, g7, g8, g9⟩ := g
  have e1 := f.1 1 (by decide)
  have eq3 := f.2.2.2.1 3 (by decide)
  have e13 := f.1 13 (by decide)
  have m : STM [] S S1 := STM_e STM_rf (fun o => congrFun e13 o)
  refine ⟨TKA_e g1 e1 (f.1 28 (by decide)) eq3, PAI_e g2 (f.2.1 11 (by decide)) (f.2.1 21 (by decide)) (f.2.1 23 (by decide)) (f.2.1 24 (by decide)) (f.2.1 61 (by decide)) (f.2.1 62 (by decide)) (f.2.1 63 (by decide)) e1 eq3 f.2.2.2.2, LNS_e g3 (f.2.1 12 (by decide)) (f.2.1 13 (by decide)) (f.2.1 25 (by decide)) (f.2.1 26 (by decide)) (f.2.1 27 (by decide)) e13, SGI_m g4 m (f.1 30 (by decide)) (f.1 38 (by decide)) e1 eq3, ASI_m g5 m (f.2.1 57 (by decide)) (f.2.1 56 (by decide)) (f.2.1 22 (by decide)) e1 eq3 f.2.2.2.2, RWI_e g6 e1 (f.1 3 (by decide)) (f.1 30 (by decide)) (f.2.2.1 4 (by decide)) eq3, by rw [e1, f.1 5 (by decide), f.2.2.1 10 (by decide)]; exact g7, ⟨fun c hc => ?_, fun o hd ho => ?_⟩, LTS_e g9 (f.2.2.1 6 (by decide))⟩
  · rw [f.2.1 9 (by decide), hb] at hc
    rw [← Option.some.inj hc, p.1, e1]
    unfold cnc at hl ⊢
    rw [f.1 35 (by decide), eq3]
    exact ⟨by omega, hl.2⟩
  · rw [f.2.1 9 (by decide)] at ho
    rw [p.2 o (fun c => ho (by rw [c]; exact hb))]
    exact g8.2 o (by rw [← f.2.2.2.2]; exact hd) ho
/-- what the walks ask of a task -/
theorem HI_dr (g : HI h N T G U L D P S) (ht : tl S h t) : CH (S.2.1 24) (S.2.1 61 t) (L t) ∧ (L t).Nodup ∧ (∀ p c, p ∈ L t → S.2.1 22 p = some c → 0 ≤ (S.1 28 c).toInt ∧ (S.1 28 c).toInt < (S.1 1 h).toInt) ∧ ∃ ro, (∀ p, p ∈ L t → (∀ q, S.2.1 23 p = some q → q ∈ L t ∧ D p = D q + 1) ∧ (S.2.1 23 p = none → p = ro)) ∧ (∀ q, S.2.1 62 t = some q → ro = q) := by
  obtain ⟨g1, g2, g3, g4, g5, g6, g7, g8, g9⟩ := g
  refine ⟨(g2.2.2.1 t (tl_t g1 ht)).1, g2.2.2.2.1 t, fun p c hp hc => ?_, ?_⟩
  · have := tl_n g1 (g5.2.2 t p c hp hc)
    exact ⟨this.1, this.2.1⟩
  · have k : ∀ p, p ∈ L t → (∀ q, S.2.1 23 p = some q → q ∈ L t ∧ D p = D q + 1) ∧ (S.2.1 23 p = none → S.2.1 62 t = some p) := fun p hp => (g2.2.2.2.2.2.2.1 t p hp).2.2.2
    cases hz : S.2.1 62 t with
    | none => exact ⟨0, fun p hp => ⟨(k p hp).1, fun q => by
        have := (k p hp).2 q
        rw [hz] at this
        cases this⟩, fun q hq => by cases hq⟩
    | some w => exact ⟨w, fun p hp => ⟨(k p hp).1, fun q => by
        have := (k p hp).2 q
        rw [hz] at this
        exact (Option.some.inj this).symm⟩, fun q hq => Option.some.inj hq⟩
end HIs
section HIw
variable {S S1 : kS} {h t : Nat} {N T G G1 : Nat → Prop} {U : List Nat} {L : Nat → List Nat} {D : Nat → Nat} {P : Nat → Int32}
theorem HI_wk (g : HI h N T G U L D P S) (k : ∀ u, G1 u → G u) : HI h N T G1 U L D P S := ⟨g.1, g.2.1, g.2.2.1, fun u hu => g.2.2.2.1 u (k u hu), g.2.2.2.2⟩
theorem HI_sg (g : HI h N T G U L D P S) (k : ∀ u, G1 u → G u ∨ u = t) (hc : (S.1 30 t = 0 ∨ S.1 30 t = 2 ∨ (S.1 30 t = 1 ∧ S.1 38 t ≠ 0)) → ∀ p, p ∈ L t → S.1 13 p ≠ 0) (hT : (S.1 30 t = 0 ∨ S.1 30 t = 1 ∨ S.1 30 t = 2) → (S.1 38 t = 0 ∨ S.1 38 t = 1) → T t) : HI h N T G1 U L D P S := ⟨g.1, g.2.1, g.2.2.1, fun u hu hl => by
  rcases k u hu with c | c
  · exact g.2.2.2.1 u c hl
  · rw [c]
    exact ⟨hc, hT⟩, g.2.2.2.2⟩
theorem nr_q (g : RWI S h) (hs : S.1 30 t ≠ 0) : ∀ i : Nat, (i : Int) < (S.1 3 h).toInt → qa S 3 h (ix (ar S 4 h i)) ≠ some t := fun i hi e => hs (g.2.2 i t hi e)
theorem nr_u (g : RWI S h) (gt : TKA S h) (hn : ∀ i : Nat, (i : Int) < (S.1 3 h).toInt → ar S 4 h i ≠ S.1 28 t) : ∀ i : Nat, (i : Int) < (S.1 3 h).toInt → qa S 3 h (ix (ar S 4 h i)) ≠ some t := fun i hi e => by
  have r := g.1.2.2 i hi
  have x := kx_int (ar S 4 h i) r.1
  have g2 := gt.2.1
  have y := gt.2.2.2 (ix (ar S 4 h i)) t (by omega) e
  exact hn i hi (Int32.toInt_inj.mp (by omega))
end HIw
/-- who has ended stays so -/
def K3 (S S1 : kS) : Prop := ∀ u, S.1 30 u = 3 → S1.1 30 u = 3
theorem K3_rf {S : kS} : K3 S S := fun _ h => h
theorem K3_tr {S S1 S2 : kS} (a : K3 S S1) (b : K3 S1 S2) : K3 S S2 := fun u h => b u (a u h)
theorem K3_f {zi zr fa fq : List Nat} {S S1 : kS} (f : HF zi zr fa fq S S1) (h : dis9 [30] zi = true) : K3 S S1 := fun u e => by rw [f.1 30 (dis9_m h (by decide))]; exact e
theorem K3_i {S S1 : kS} {t : Nat} {v : Int32} (e : S1 = cI S 30 t v) (h : v = 3 ∨ S.1 30 t ≠ 3) : K3 S S1 := fun u q => by
  rw [e, k_ii]
  rcases Decidable.em (u = t) with c | c
  · rw [if_pos ⟨rfl, c⟩]
    rcases h with h | h
    · exact h
    · rw [c] at q
      exact absurd q h
  · rw [if_neg (fun w => c w.2)]
    exact q
theorem K3_en {S S1 : kS} {h t : Nat} (p : ENT h t S S1) (n : S.1 30 t ≠ 3) : K3 S S1 := fun u q => by
  rw [p.1 u]
  rcases Decidable.em (u = t) with c | c
  · rw [c] at q
    exact absurd q n
  · rw [if_neg c]
    exact q
