
section NTs
variable {S S1 : kS} {r h pg sc t q : Nat} {N T : Nat → Prop} {U : List Nat} {L : Nat → List Nat} {D : Nat → Nat} {V : PV} {Z0 : kS} {W : Nat → Int → Prop} {k0 : Nat} {n0 c0 m p e ty ty1 w : Int} {O : List Nat} {K : kS → Prop}
variable {rt pc : Int32} {pa : Option Nat} {u a : Nat}
theorem nt_k (w : NTW h a rt pa pc S S1) {o c : Nat} (hc : c ≠ 9) (ho : (o, Sum.inl c) ∈ S.2.2.2.2.2) : o ≠ a := fun e9 => by
  have x := w.2.2.2.2.2.2.2.2.1
  have y := x.2.2.2.1 a _ _ (x.1.1 _ (e9 ▸ ho)) x.2.2.2.2
  have e4 : c = 9 := by injection y
  exact hc e4
theorem nt_t {G : Nat → Prop} {P : Nat → Int32} (g : HI h N T G U L D P S) (hK : KDI S h N) (hc : (S.1 1 h).toInt < 200) (w : NTW h a rt pa pc S S1) (hu : tl S h u) : u ≠ a ∧ ALO S u := by
  obtain ⟨i, hi, hq⟩ := hu
  have g1 := g.1.1
  have k9 := hK.2.1 i u (by omega) hq
  refine ⟨fun e9 => ?_, ⟨_, k9⟩⟩
  rcases w.2.2.2.2.2.2.2.2.2 with ⟨x1, _⟩ | ⟨_, x2, _⟩
  · have e1 := g.1.2.2.2 i u (by omega) hq
    have e2 := g.1.2.2.2 (ix (S.1 1 h)) a (jix_lt (n := 200) g1 hc) x1
    have e3 := kx_int (S.1 1 h) g1
    rw [e9] at e1
    omega
  · exact x2 ⟨_, e9 ▸ k9⟩
theorem nt_z {Z0 : kS} (w : NTW h a rt pa pc S S1) (vz : FRZ Z0 S) : FRZ Z0 S1 := by
  have wd := w.2.2.2.2.2.2.2.2.1.1.1
  refine ⟨⟨fun x hx => wd _ (vz.1.1 x hx), fun o ho => ?_⟩, fun o c hc ho => ?_⟩
  · have oa := nt_k w (by decide) (vz.1.1 _ ho)
    have oA : ALO S o := ⟨_, vz.1.1 _ ho⟩
    rw [w.2.1 8 o oA oa]
    exact ⟨(vz.1.2 o ho).1, fun j => by rw [(w.2.2.1 7 o j oA oa).2 (fun z => absurd z.2 (by decide))]; exact (vz.1.2 o ho).2 j⟩
  obtain ⟨y1, y2, y3⟩ := vz.2 o c hc ho
  have oa := nt_k w (fun z => by rw [z] at hc; exact absurd hc (by decide)) (vz.1.1 _ ho)
  have oA : ALO S o := ⟨_, vz.1.1 _ ho⟩
  exact ⟨fun x hx => by rw [w.1 x o oA oa (fun z => by rw [z] at hx; exact absurd hx (by decide)) (fun z => by rw [z] at hx; exact absurd hx (by decide))]; exact y1 x hx, fun x hx => by rw [w.2.1 x o oA oa]; exact y2 x hx, fun x hx j => by rw [(w.2.2.1 x o j oA oa).1 (fun z => by rw [z] at hx; exact absurd hx (by decide))]; exact y3 x hx j⟩
theorem NTX (g : GOS r h pg sc t N V Z0 k0 n0 c0 m ty p e T U L D W S) (w : NTW h a rt (some t) pc S S1) (hha : h ≠ a) (hc : (S.1 1 h).toInt < 200) (hpc : PCG V (fun _ => False) pc.toInt) (hrt : 0 ≤ rt.toInt ∧ rt.toInt < 12) : GOS r h pg sc t N V Z0 k0 n0 c0 m ty p e (fun u => u = a ∨ T u) U L D (wup W a (fun _ => False)) S1 ∧ S1.1 36 t = S.1 36 t ∧ tl S1 h a ∧ t ≠ a ∧ tl S1 h t := by
  obtain ⟨env, num, trn, ⟨c1, ⟨P, c2⟩, c3, c4, c5, c6, c7, c8⟩, fr, ly, h22⟩ := g
  obtain ⟨ta, tA⟩ := nt_t c2 c3 hc w c5
  obtain ⟨hi1, kd1, tl1, la, tli⟩ := HI_tk c2 c3 hha hc w (fun u hu => by rw [← Option.some.inj hu]; exact c5)
  obtain ⟨v1, v2, v3, ⟨v4, v5, v6, vz⟩, v7, v8, v9, b, v10, v11, v12⟩ := env
  have ra := nt_k w (by decide) v4
  have ga := nt_k w (by decide) v5
  have sa := nt_k w (by decide) v6
  have ba := nt_k w (by decide) v11
  have rA : ALO S r := ⟨_, v4⟩
  have gA : ALO S pg := ⟨_, v5⟩
  have sA : ALO S sc := ⟨_, v6⟩
  have bA : ALO S b := ⟨_, v11⟩
  have hA : ALO S h := ⟨_, c3.1⟩
  have w0 := w
  obtain ⟨w1, w2, w3, w4, w5, w6, ⟨w28, w30, w34, w35, w38, w36, w29⟩, ⟨w56, w57⟩, ⟨⟨wd, wb⟩, wa, wi, wu, wt⟩, wx⟩ := w
  have pq : ∀ x, x ∈ L t → x ≠ a ∧ ALO S x := fun x hx => ⟨nt_k w0 (c := 4) (by decide) (c2.2.1.2.2.2.2.2.2.2.2 t x hx), ⟨_, c2.2.1.2.2.2.2.2.2.2.2 t x hx⟩⟩
  have m0 : 0 ≤ m := Int.le_trans (trn t c5).1 (trn t c5).2.1
  have fr1 : FRS V (wup W a (fun _ => False) t) (ar S1 59 t) (ar S1 60 t) := by
    rw [wup_ne ta, show ar S1 59 t = ar S 59 t from funext (fun j => (w3 59 t j tA ta).1 (by decide)), show ar S1 60 t = ar S 60 t from funext (fun j => (w3 60 t j tA ta).1 (by decide))]
    exact fr
  refine ⟨⟨⟨by rw [w2 41 r rA ra]; exact v1, by rw [w2 2 h hA hha]; exact v2, by rw [w2 31 pg gA ga]; exact v3, ⟨wd _ v4, wd _ v5, wd _ v6, nt_z w0 vz⟩, ?_, fun i l hi hl => ?_, fun l hl => ?_, b, by rw [w2 40 r rA ra]; exact v10, wd _ v11, by rw [w2 9 h hA hha]; exact v12⟩, ?_, fun u hu => ?_, ⟨fun c => ?_, ⟨P, hi1⟩, kd1, wi, (tli t).mpr (Or.inr c5), fun u hu hn => ?_, by rw [w1 38 t tA ta (by decide) (by decide)]; exact c7, by rw [w1 34 t tA ta (by decide) (by decide)]; exact c8⟩, fr1, ?_, by rw [w1 22 r rA ra (by decide) (by decide)]; exact h22⟩, w1 36 t tA ta (by decide) (by decide), tl1, ta, (tli t).mpr (Or.inr c5)⟩
  · rw [pv_o (S := S) (fun f h1 h3 => w1 f pg gA ga h1 h3) (fun f h1 h3 => w1 f sc sA sa h1 h3) (fun f i h4 => (w3 f pg i gA ga).1 h4) (fun f i h4 => (w3 f sc i sA sa).1 h4)]
    exact v7
  · rw [(w3 7 h i hA hha).2 (fun z => absurd z.2 (by decide))] at hl
    exact v8 i l hi hl
  · rw [w2 8 h hA hha] at hl
    exact v9 l hl
  · obtain ⟨g1, g2, g3, g4, k, g5, g6, g7, g8, g9⟩ := num
    unfold NUM
    rw [w1 21 r rA ra (by decide) (by decide), w1 19 r rA ra (by decide) (by decide), w1 20 r rA ra (by decide) (by decide), w2 40 r rA ra]
    have kx := kx_int (S.1 1 h) c2.1.1
    refine ⟨g1, g2, g3, fun x hx => ?_, ?_⟩
    · have eb : b = x := Option.some.inj (v10.symm.trans hx)
      rw [← eb, w1 0 b bA ba (by decide) (by decide)]
      exact g4 b v10
    · rcases wx with ⟨x1, x2, _⟩ | ⟨x1, _, x3, _⟩
      · refine ⟨k, by unfold cnt at g5 ⊢; rw [x2]; exact g5, g6, fun i hi => ?_, by unfold cnt at g8 ⊢; rw [x2]; exact g8, by unfold cnt at g9 ⊢; rw [x2]; exact g9⟩
        rw [w4 i]
        rcases Decidable.em (i = ix (S.1 1 h)) with c | c
        · rw [if_pos c]
          have := g7 i hi
          rw [c, x1] at this
          rw [c]
          exact ⟨fun z => (by cases z), fun z => (by have := this.mpr z; cases this)⟩
        · rw [if_neg c]
          exact g7 i hi
      · have ik : k ≤ ix (S.1 1 h) := (g7 (ix (S.1 1 h)) (by omega)).mp x1
        have ki : ix (S.1 1 h) ≤ k := Nat.le_of_not_lt (fun z => by
          obtain ⟨y, hy⟩ := c2.1.2.2.1 k (by omega)
          have := (g7 k (by omega)).mpr (Nat.le_refl _)
          rw [hy] at this
          cases this)
        refine ⟨k + 1, ⟨by omega, by omega⟩, by omega, fun i hi => ?_, by omega, by omega⟩
        rw [w4 i]
        rcases Decidable.em (i = ix (S.1 1 h)) with c | c
        · rw [if_pos c]
          exact ⟨fun z => (by cases z), fun z => (by omega)⟩
        · rw [if_neg c, g7 i hi]
          omega
  · rcases (tli u).mp hu with c | c
    · rw [c, w34, w29]
      exact ⟨Int.le_refl 0, m0, hrt.1, hrt.2⟩
    · obtain ⟨ua, uA⟩ := nt_t c2 c3 hc w0 c
      rw [w1 34 u uA ua (by decide) (by decide), w1 29 u uA ua (by decide) (by decide)]
      exact trn u c
  · rcases c with c | c
    · exact ta c
    · exact c1 c
  · rcases (tli u).mp hu with c | c
    · rw [c, wup_at]
      refine ⟨fun d _ hd => absurd hd (fun z => z), fun _ => by rw [w36]; exact hpc, fun z => absurd w34 z⟩
    · obtain ⟨ua, uA⟩ := nt_t c2 c3 hc w0 c
      rw [wup_ne ua]
      have k := c6 u c hn
      have k1 : OTk V (W u) (T u) S1 u := OTk_e k (w1 36 u uA ua (by decide) (by decide)) (w1 34 u uA ua (by decide) (by decide)) (fun z => by rw [w1 30 u uA ua (by decide) (by decide)]; exact z) (fun j => (w3 59 u j uA ua).1 (by decide)) (fun j => (w3 60 u j uA ua).1 (by decide))
      exact ⟨k1.1, k1.2.1, fun z1 z2 => ⟨(k1.2.2 z1 z2).1, (k1.2.2 z1 z2).2.1, (k1.2.2 z1 z2).2.2.1, fun z3 => (k1.2.2 z1 z2).2.2.2 (z3.resolve_left ua)⟩⟩
  · obtain ⟨l1, l2, l3, l4, l5⟩ := ly
    refine ⟨fun z => by rw [w1 30 t tA ta (by decide) (by decide)]; exact l1 z, fun z => by rw [w1 30 t tA ta (by decide) (by decide)]; exact l2 z, l3, fun z1 z2 => ?_, fun z => by rw [w2 63 t tA ta]; exact l5 z⟩
    obtain ⟨O, oc, ol⟩ := l4 z1 z2
    have om : ∀ x, x ∈ O → x ∈ L t := OCH_m (fun a b ha hb => ((c2.2.1.2.2.2.2.2.2.1 t a ha).2.2.2.1 b hb).1) oc (fun b hb => (c2.2.1.2.2.1 t (tl_t c2.1 c5)).2.2 b hb)
    refine ⟨O, ?_, ol⟩
    rw [w2 63 t tA ta]
    exact OCH_e (fun x hx => ⟨w2 23 x (pq x (om x hx)).2 (pq x (om x hx)).1, w2 25 x (pq x (om x hx)).2 (pq x (om x hx)).1, rfl⟩) oc
end NTs
section ATc
variable {S S1 : kS} {r h pg sc t q : Nat} {N T : Nat → Prop} {U : List Nat} {L : Nat → List Nat} {D : Nat → Nat} {V : PV} {Z0 : kS} {W : Nat → Int → Prop} {k0 : Nat} {n0 c0 m p e ty ty1 w : Int} {O : List Nat} {K : kS → Prop}

theorem ENV_v (g : ENV r h pg sc N V Z0 S) : pv pg sc S = V := g.2.2.2.2.1
theorem GOS_w {p1 : Int} (g : GOS r h pg sc t N V Z0 k0 n0 c0 m ty p e T U L D W S) (f : HF [0, 21, 22, 23, 31, 32, 36] [] [0, 1, 42, 58, 59, 60] [] S S1) (h21 : 0 ≤ (S1.1 21 r).toInt ∧ (S1.1 21 r).toInt ≤ 64) (ho : OTH t S S1) (h0 : ∀ b, S.2.1 9 h = some b → S1.1 0 b = S.1 0 b) (hb : ∀ b, S.2.1 40 r = some b → 0 ≤ (S1.1 0 b).toInt ∧ (S1.1 0 b).toInt + p1 ≤ (S.1 19 r).toInt) : ENV r h pg sc N V Z0 S1 ∧ NUM r h k0 n0 c0 p1 e S1 ∧ TRN h m S1 ∧ COR h t N V T U L D W S1 ∧ S1.1 30 t = S.1 30 t := by
  obtain ⟨env, num, trn, cor, fr, ly, h22⟩ := g
  refine ⟨ENV_f env f (by decide) (by decide) (by decide) (by decide), ?_, TRN_f trn f (by decide) (by decide), COR_f cor f (by decide) (by decide) (by decide) (by decide) (by decide) (by decide) (by decide) (by decide) (by decide) (by decide) h0 ho, by rw [f.1 30 (by decide)]⟩
  obtain ⟨g1, g2, g3, g4, k, g5, g6, g7, g8, g9⟩ := num
  unfold NUM cnt
  unfold cnt at g5 g8 g9
  rw [f.1 19 (by decide), f.1 20 (by decide), f.2.1 40 (by decide), f.2.2.2.1 3 (by decide), f.2.2.2.2]
  exact ⟨h21, g2, g3, hb, k, g5, g6, g7, g8, g9⟩
theorem RES_b {at9 : Int32} (g : GOS r h pg sc t N V Z0 k0 n0 c0 m ty p e T U L D W S) (hp : 0 ≤ p) (he : 0 ≤ e) (f : HF [21, 22, 23, 31, 32, 36] [] [42, 59, 60] [] S S1) (h21 : 0 ≤ (S1.1 21 r).toInt ∧ (S1.1 21 r).toInt ≤ 64) (h2 : 0 ≤ at9.toInt ∧ at9.toInt < V.1 17) (hg : GV V (W t) (V.2 30 at9.toInt.toNat)) (fl : FLX V (W t) r t at9 S S1) : RES r h pg sc t N V Z0 k0 n0 c0 m S1 := by
  have w : OTH t S S1 → _ := fun ot => GOS_w (p1 := p) g (HF_s f (by decide) (by decide) (by decide) (by decide)) h21 ot (fun b _ => by rw [f.1 0 (by decide)]) (fun b hb => by rw [f.1 0 (by decide)]; exact g.2.1.2.2.2.1 b hb)
  rcases fl with ⟨s5, c2, c36, ot, fr1⟩ | ⟨n5, lv⟩
  · obtain ⟨x1, x2, x3, x4, x5⟩ := w ot
    refine ⟨x1, NUM_m x2 hp he, x3, Or.inr (x5.trans s5), T, U, L, D, W, x4, fr1, Or.inr (Or.inr ⟨Or.inr c2, ?_⟩)⟩
    rw [c36, c2]
    exact ⟨h2.1, h2.2, hg, fun c => absurd c (by decide)⟩
  · have ot : OTH t S S1 := by
      obtain ⟨_, _, _, ot, _⟩ := lv
      exact ot
    obtain ⟨x1, x2, x3, x4, x5⟩ := w ot
    have ly := g.2.2.2.2.2.1
    have tn : ty < 0 := Int.lt_of_not_ge (fun c => n5 (ly.2.1 c))
    exact RES_l x1 (NUM_m x2 hp he) x3 (x5.trans (ly.1 tn).1) x4 (ly.1 tn).2 lv g.2.2.2.2.2.2
theorem HI_as {G : Nat → Prop} {P : Nat → Int32} (g : HI h N T G U L D P S) (f : HF [] [22, 57] [] [] S S1) (a : ASI S1 h L) : HI h N T G U L D P S1 := by
  obtain ⟨g1, g2, g3, g4, g5, g6, g7, g8, g9⟩ := g
  have e1 := f.1 1 (by decide)
  have eq3 := f.2.2.2.1 3 (by decide)
  have e13 := f.1 13 (by decide)
  have mm : STM [] S S1 := STM_e STM_rf (fun o => congrFun e13 o)
  exact ⟨TKA_e g1 e1 (f.1 28 (by decide)) eq3, PAI_e g2 (f.2.1 11 (by decide)) (f.2.1 21 (by decide)) (f.2.1 23 (by decide)) (f.2.1 24 (by decide)) (f.2.1 61 (by decide)) (f.2.1 62 (by decide)) (f.2.1 63 (by decide)) e1 eq3 f.2.2.2.2, LNS_e g3 (f.2.1 12 (by decide)) (f.2.1 13 (by decide)) (f.2.1 25 (by decide)) (f.2.1 26 (by decide)) (f.2.1 27 (by decide)) e13, SGI_m g4 mm (f.1 30 (by decide)) (f.1 38 (by decide)) e1 eq3, a, RWI_e g6 e1 (f.1 3 (by decide)) (f.1 30 (by decide)) (f.2.2.1 4 (by decide)) eq3, by rw [e1, f.1 5 (by decide), f.2.2.1 10 (by decide)]; exact g7, LSI_e g8 (f.1 0 (by decide)) (f.1 35 (by decide)) e1 (f.2.1 9 (by decide)) eq3 f.2.2.2.2, LTS_e g9 (f.2.2.1 6 (by decide))⟩
/-- a part gets its child, the child its part -/
theorem NPB_c {a : Nat} {S2 : kS} (g : NPB r h pg sc t q N V Z0 k0 n0 c0 m w p e T U L D W O S) (ha : tl S h a) (e1 : S1 = cR S 22 q (some a)) (e2 : S2 = cR S1 57 a (some q)) : NPB r h pg sc t q N V Z0 k0 n0 c0 m w p e T U L D W O S2 := by
  obtain ⟨env, num, trn, ⟨c1, ⟨P, c2⟩, c3, c4, c5, c6, c7, c8⟩, fr, s5, c22, ⟨q1, q2, q3⟩, oc, ol, om, q23, qd⟩ := g
  have f : HF [] [22, 57] [] [] S S2 := HF_tr (HF_s (HF_r e1 (by decide)) (by decide) (by decide) (by decide) (by decide)) (HF_s (HF_r e2 (by decide)) (by decide) (by decide) (by decide) (by decide))
  have tle : tl S2 h = tl S h := tl_e (f.1 1 (by decide)) (f.2.2.2.1 3 (by decide))
  have as5 := c2.2.2.2.2.1
  have a2 : ASI S2 h L := by
    refine ⟨fun u x hu hx => ?_, fun u x hu hx => ?_, fun u x y hx hy => ?_⟩
    · rw [tle] at hu
      rw [e2, k_rr] at hx
      rcases Decidable.em (u = a) with c | c
      · rw [if_pos ⟨rfl, c⟩] at hx
        exact Or.inl ⟨t, by rw [← Option.some.inj hx]; exact q1⟩
      · rw [if_neg (fun z => c z.2), e1, k_rr, if_neg (fun z => absurd z.1 (by decide))] at hx
        rw [f.1 13 (by decide), f.2.2.2.2]
        exact as5.1 u x hu hx
    · rw [tle] at hu ⊢
      rw [f.2.1 56 (by decide)] at hx
      exact as5.2.1 u x hu hx
    · rw [tle]
      rw [e2, k_rr, if_neg (fun z => absurd z.1 (by decide)), e1, k_rr] at hy
      rcases Decidable.em (x = q) with c | c
      · rw [if_pos ⟨rfl, c⟩] at hy
        rw [← Option.some.inj hy]
        exact ha
      · rw [if_neg (fun z => c z.2)] at hy
        exact as5.2.2 u x y hx hy
  have n21 : 0 ≤ (S2.1 21 r).toInt ∧ (S2.1 21 r).toInt ≤ 64 := by rw [f.1 21 (by decide)]; exact num.1
  refine ⟨ENV_f env f (by decide) (by decide) (by decide) (by decide), NUM_f num f (by decide) n21 (by decide) (by decide), TRN_f trn f (by decide) (by decide), ⟨c1, ⟨P, HI_as c2 f a2⟩, KDI_e c3 f (by decide) (by decide) (by decide), INJ_hf c4 f (by decide), by rw [tle]; exact c5, fun u hu hn => ?_, by rw [f.1 38 (by decide)]; exact c7, by rw [f.1 34 (by decide)]; exact c8⟩, by rw [f.2.2.1 59 (by decide), f.2.2.1 60 (by decide)]; exact fr, by rw [f.1 30 (by decide)]; exact s5, by rw [f.1 22 (by decide)]; exact c22, ⟨q1, by rw [f.2.1 25 (by decide)]; exact q2, by rw [f.1 13 (by decide)]; exact q3⟩, by rw [f.2.1 23 (by decide), f.2.1 25 (by decide), f.2.1 63 (by decide)]; exact oc, ol, om, by rw [f.2.1 23 (by decide), f.2.1 63 (by decide)]; exact q23, qd⟩
  rw [tle] at hu
  exact OTk_e (c6 u hu hn) (by rw [f.1 36 (by decide)]) (by rw [f.1 34 (by decide)]) (fun z => by rw [f.1 30 (by decide)]; exact z) (fun j => by rw [f.2.2.1 59 (by decide)]) (fun j => by rw [f.2.2.1 60 (by decide)])
theorem NPB_x {a : Nat} {v : Int32} (g : NPB r h pg sc t q N V Z0 k0 n0 c0 m w p e T U L D W O S) (e1 : S1 = cI S 37 a v) (h2 : 2 ≤ ty) (h21 : ty ≤ 21 → ty / 2 = w) (h22 : 22 ≤ ty → w = 0) : GOS r h pg sc t N V Z0 k0 n0 c0 m ty p e T U L D W S1 := by
  obtain ⟨P, c2⟩ := g.2.2.2.1.2.1
  have x : GOS r h pg sc t N V Z0 k0 n0 c0 m ty p e T U L D W S := NPB_l (l := []) g HF_rf c2.2.2.1 STM_rf (fun _ _ => rfl) c2.2.2.2.2.2.2.2.2 h2 h21 h22
  exact GOS_f x (HF_i e1) (by decide) (by decide) (by decide) (by decide) (by decide) (by decide) (by decide) (by decide) (by decide) (by decide) (by decide) (by rw [(HF_i e1).1 21 (by decide)]; exact x.2.1.1)
theorem sk_X6_beginChild {a1 a2 : Int32} (hP : PGM V) (h18 : 1 ≤ V.1 18) (g : GOS r h pg sc t N V Z0 k0 n0 c0 m ty p e T U L D W S) (hp : 0 ≤ p) (he : 0 ≤ e) (h0 : 0 ≤ ty ∧ ty ≤ 21) (h1 : (ty ≤ 1 ∧ ty1 = 22) ∨ (2 ≤ ty1 ∧ ty1 ≤ 21 ∧ ty1 / 2 = ty / 2)) (hr : 0 ≤ a1.toInt ∧ (a1.toInt < 1 ∨ a1.toInt < V.1 18)) (h2 : 0 ≤ a2.toInt ∧ a2.toInt < V.1 17) (hgv : GV V (W t) (V.2 30 a2.toInt.toNat)) (hKf : ∀ S1, RES r h pg sc t N V Z0 k0 n0 c0 m S1 → K S1) (hK : ∀ S1 T1 U1 L1 D1 W1, GOS r h pg sc t N V Z0 k0 n0 c0 m ty1 p (e - 1) T1 U1 L1 D1 W1 S1 → W1 t = W t → S1.1 36 t = S.1 36 t → K S1) : wT_X6_beginChild r t a1 a2 S K := by
  unfold wT_X6_beginChild
  have cor := g.2.2.2.1
  obtain ⟨P, c2⟩ := cor.2.1
  have kd := cor.2.2.1
  have I := cor.2.2.2.1
  have ev := ENV_v g.1
  have r12 : V.1 18 ≤ 12 := hP.2.1.2
  intro z1 e1 q2 e2
  obtain rfl : h = q2 := Option.some.inj (g.1.1.symm.trans (e1.symm.trans e2))
  refine nk_X1_newTask (pg := pg) I kd c2.1 g.1.2.1 g.1.2.2.2.1.2.1 ⟨hr.1, by omega⟩ ⟨c2.2.2.2.2.2.1.1.1, c2.2.2.2.2.2.1.1.2.1⟩ ⟨fun _ => ?_, fun q4 c => absurd c (fun z => by cases z)⟩ (fun S3 a w hha hc => ⟨fun c => absurd c (fun z => by cases z), fun q4 c => ?_⟩)
  · refine kmT_X6_fail _ _ _ _ _ _ _ (fun S5 hF p2 => ?_) (sk_X6_fail (h := h) (pg := pg) (sc := sc) (W := W t) _ _ _ _ I g.1.1 g.1.2.1 g.1.2.2.1 (by rw [ev]; exact hP) (by rw [ev]; exact h2) (by rw [ev]; exact hgv) (by rw [ev]; exact g.2.2.2.2.1))
    have f := HF_k hF I (by decide) (by decide) (by decide)
    rw [ev] at p2
    exact hKf S5 (RES_b g hp he (HF_s f (by decide) (by decide) (by decide) (by decide)) (by rw [f.1 21 (by decide)]; exact g.2.1.1) h2 hgv p2)
  · obtain rfl : a = q4 := Option.some.inj c
    have kx := kx_int a1 hr.1
    have tg := hP.2.2.2.2.2.2.2.2.2.2.2.2.2 (ix a1) (by rw [kx]; omega)
    have ppc : PCG V (fun _ => False) (ar S 32 pg (ix a1)).toInt := by
      have x := PCG_t (W := fun _ => False) tg (GV_n (by decide))
      rw [← ev] at x ⊢
      exact x
    obtain ⟨g3, e36, ta3, tna, tt3⟩ := NTX g w hha hc ppc ⟨hr.1, by omega⟩
    have env3 := g3.1
    have I3 := g3.2.2.2.1.2.2.2.1
    intro z6 e6 q7 e7
    obtain rfl : h = q7 := Option.some.inj (env3.1.symm.trans (e6.symm.trans e7))
    intro z8 e8
    refine ⟨pg, e8.trans env3.2.1, ?_⟩
    intro z10 e10 q11 e11
    refine ⟨⟨hr.1, by show a1.toInt < 12; omega⟩, ?_⟩
    intro z12 e12 z13 e13
    refine it_rule (fun u : Nat × Nat × Nat × Int32 × kS => u.1 = r ∧ u.2.1 = t ∧ u.2.2.1 = a ∧ HF [21] [] [58] [] S3 u.2.2.2.2 ∧ (0 ≤ (u.2.2.2.2.1 21 r).toInt ∧ (u.2.2.2.2.1 21 r).toInt ≤ 64)) (fun u => (u.2.2.2.1.toInt + 1).toNat) ?_ ⟨rfl, rfl, rfl, HF_rf, g3.2.1.1⟩
    rintro ⟨x0, x1, x4, x5, Sl⟩ k41 ⟨h3, h4, h5, f, n21⟩ hk
    have h3 : x0 = r := h3
    have h4 : x1 = t := h4
    have h5 : x4 = a := h5
    subst h3
    subst h4
    subst h5
    have f : HF [21] [] [58] [] S3 Sl := f
    have n21 : 0 ≤ (Sl.1 21 x0).toInt ∧ (Sl.1 21 x0).toInt ≤ 64 := n21
    have gl := GOS_f g3 f (by decide) (by decide) (by decide) (by decide) (by decide) (by decide) (by decide) (by decide) (by decide) (by decide) (by decide) n21
    have Il := gl.2.2.2.1.2.2.2.1
    show wT_X6_beginChild_41 K k41 x0 x1 x4 x5 Sl
    unfold wT_X6_beginChild_41
    refine ⟨fun c5 => ?_, fun c5 => ?_⟩
    · intro z15 e15 q16 e16
      obtain rfl : h = q16 := Option.some.inj (gl.1.1.symm.trans (e15.symm.trans e16))
      obtain ⟨t9, kd9, hU⟩ := GOS_t gl
      refine nk_X1_newPart kd9 t9 hU (fun S17 q n hap hhp => ?_)
      obtain ⟨U1, L1, D1, O, nb, e37⟩ := NPX h0 gl n hap hhp
      refine ⟨q, rfl, ?_⟩
      intro S19 e19 S20 e20 z21 e21 z22 e22 S23 e23
      have ta17 : tl S17 h x4 := by
        have y : tl Sl h x4 := by rw [tl_e (f.1 1 (by decide)) (f.2.2.2.1 3 (by decide))]; exact ta3
        have eh : S17.1 1 h = Sl.1 1 h := n.1 1 h hhp
        have e3 : qa S17 3 h = qa Sl 3 h := funext (fun i => (n.2.2.2.2.2.2 3 h i hhp).2.2)
        unfold tl at y ⊢
        rw [eh, e3]
        exact y
      have nb2 := NPB_c nb ta17 e19 e20
      have g23 := NPB_x (ty := ty1) nb2 e23 (by omega) (fun _ => by omega) (fun _ => by omega)
      exact hK S23 _ U1 L1 D1 _ g23 (wup_ne tna) (by rw [(HF_i e23).1 36 (by decide), e20, e19]; exact e37.trans ((congrFun (f.1 36 (by decide)) x1).trans e36))
    · refine kmT_X6_pop _ _ _ _ (fun S24 r24 hF p2 => ?_) (sk_X6_pop _ Il n21)
      have f2 := HF_k hF Il (by decide) (by decide) (by decide)
      have I24 := INJ_hf Il f2 (by decide)
      refine kmT_X9_set _ _ _ _ _ _ (fun S25 hF2 _ => ?_) (sk_X9_set _ _ _ I24)
      have f3 := HF_k hF2 I24 (by decide) (by decide) (by decide)
      intro z26 e26
      have x0 : 0 ≤ x5.toInt := by
        have c6 := c5
        rw [Int32.lt_iff_toInt_lt] at c6
        have z0 : (0 : Int32).toInt = 0 := rfl
        omega
      have zz : z26.toInt = x5.toInt + (-1) := w_add e26 (by
        have zm : (-1 : Int32).toInt = -1 := rfl
        have xl := Int32.toInt_lt x5
        rw [zm]
        omega)
      exact hk _ ⟨rfl, rfl, rfl, HF_tr f (HF_tr (HF_s f2 (by decide) (by decide) (by decide) (by decide)) (HF_s f3 (by decide) (by decide) (by decide) (by decide))), by show 0 ≤ (S25.1 21 _).toInt ∧ _; rw [f3.1 21 (by decide)]; exact p2⟩ (by show (z26.toInt + 1).toNat < (x5.toInt + 1).toNat; omega)
end ATc
