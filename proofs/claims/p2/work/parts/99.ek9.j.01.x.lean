
section OCs
variable {ab ln ab1 ln1 : Nat → Option Nat} {D D1 : Nat → Nat}
/-- the open nodes of a wait that begins, the innermost first -/
def OCH (ab ln : Nat → Option Nat) (D : Nat → Nat) : Option Nat → List Nat → Prop
  | x, [] => x = none
  | x, q :: O => x = some q ∧ D q = O.length ∧ ln q = none ∧ OCH ab ln D (ab q) O
theorem OCH_e : ∀ {O : List Nat} {x : Option Nat}, (∀ q, q ∈ O → ab1 q = ab q ∧ ln1 q = ln q ∧ D1 q = D q) → OCH ab ln D x O → OCH ab1 ln1 D1 x O
  | [], _, _, h => h
  | q :: O, _, e, h => by
    obtain ⟨h1, h2, h3, h4⟩ := h
    have e0 := e q (List.mem_cons_self ..)
    exact ⟨h1, by rw [e0.2.2]; exact h2, by rw [e0.2.1]; exact h3, by rw [e0.1]; exact OCH_e (fun w hw => e w (List.mem_cons_of_mem _ hw)) h4⟩
theorem OCH_d : ∀ {O : List Nat} {x : Option Nat}, OCH ab ln D x O → ∀ q, q ∈ O → D q < O.length
  | [], _, _, q, hq => absurd hq List.not_mem_nil
  | w :: O, _, h, q, hq => by
    obtain ⟨_, h2, _, h4⟩ := h
    rcases List.mem_cons.mp hq with c | c
    · rw [c, h2]
      exact Nat.lt_succ_self _
    · exact Nat.lt_succ_of_lt (OCH_d h4 q c)
theorem OCH_m {l : List Nat} (hs : ∀ p q, p ∈ l → ab p = some q → q ∈ l) : ∀ {O : List Nat} {x : Option Nat}, OCH ab ln D x O → (∀ q, x = some q → q ∈ l) → ∀ q, q ∈ O → q ∈ l
  | [], _, _, _, q, hq => absurd hq List.not_mem_nil
  | w :: O, _, h, hx, q, hq => by
    obtain ⟨h1, _, _, h4⟩ := h
    have m := hx w h1
    rcases List.mem_cons.mp hq with c | c
    · rw [c]
      exact m
    · exact OCH_m hs h4 (fun v hv => hs w v m hv) q c
end OCs
def wup (W : Nat → Int → Prop) (t : Nat) (W1 : Int → Prop) : Nat → Int → Prop := fun u => if u = t then W1 else W u
theorem wup_at {W : Nat → Int → Prop} {t : Nat} {W1 : Int → Prop} : wup W t W1 t = W1 := if_pos rfl
theorem wup_ne {W : Nat → Int → Prop} {t u : Nat} {W1 : Int → Prop} (h : u ≠ t) : wup W t W1 u = W u := if_neg h
def pd9 (ty : Int) : Int := if ty = -1 then 1 else 0
def od9 (ty : Int) : Int := if 0 ≤ ty ∧ ty % 2 = 1 then 1 else 0
section RNs
variable {S S1 : kS} {r h pg sc t u : Nat} {N T : Nat → Prop} {G : Nat → Prop} {U : List Nat} {L : Nat → List Nat} {D : Nat → Nat} {P : Nat → Int32} {V : PV} {Z0 : kS} {W : Nat → Int → Prop} {zi zr fa fq : List Nat}
/-- what no turn touches is as in Z0: the face, tokens, parser, tables, programs, scopes -/
def FRZ (Z0 S : kS) : Prop := ((∀ x, x ∈ Z0.2.2.2.2.2 → x ∈ S.2.2.2.2.2) ∧ (∀ o, (o, Sum.inl 1) ∈ Z0.2.2.2.2.2 → S.2.1 8 o = Z0.2.1 8 o ∧ ∀ j, qa S 7 o j = qa Z0 7 o j)) ∧ ∀ o c, c ∈ [3, 5, 7, 8, 10, 11] → (o, Sum.inl c) ∈ Z0.2.2.2.2.2 → (∀ f, f ∈ [6, 7, 8, 9, 10, 11, 17, 18, 24, 25, 26, 27, 40, 41] → S.1 f o = Z0.1 f o) ∧ (∀ f, f ∈ [14, 15, 16, 17, 18, 19, 20, 28, 29, 30, 31, 32, 33, 34, 35, 36, 37, 38, 39, 43, 44, 45, 46, 47, 48, 49, 50, 51, 52, 53, 54, 55, 64, 65, 66, 67, 68, 69, 70, 71, 72, 73, 74, 75] → S.2.1 f o = Z0.2.1 f o) ∧ ∀ f, f ∈ [17, 18, 19, 28, 29, 30, 31, 32, 33, 34, 35, 36, 37, 38, 39, 43, 44, 45, 46, 47, 48, 49, 50, 51, 52, 53, 54, 64, 65, 67] → ∀ j, ar S f o j = ar Z0 f o j
theorem FRZ_rf {Z0 : kS} : FRZ Z0 Z0 := ⟨⟨fun _ h => h, fun _ _ => ⟨rfl, fun _ => rfl⟩⟩, fun _ _ _ _ => ⟨fun _ _ => rfl, fun _ _ => rfl, fun _ _ _ => rfl⟩⟩
theorem dis9_w {A B zs : List Nat} (h : dis9 A zs = true) (hs : sub9 B A = true) : dis9 B zs = true := by
  unfold dis9 at h ⊢
  rw [List.all_eq_true] at h ⊢
  intro x hx
  refine h x ?_
  refine Decidable.byContradiction (fun c => ?_)
  exact sub9_m hs c hx
theorem FRZ_f {Z0 : kS} (g : FRZ Z0 S) (f : HF zi zr fa fq S S1) (hz : dis9 [6, 7, 8, 9, 10, 11, 17, 18, 24, 25, 26, 27, 40, 41] zi = true) (hr : dis9 [14, 15, 16, 17, 18, 19, 20, 28, 29, 30, 31, 32, 33, 34, 35, 36, 37, 38, 39, 43, 44, 45, 46, 47, 48, 49, 50, 51, 52, 53, 54, 55, 64, 65, 66, 67, 68, 69, 70, 71, 72, 73, 74, 75] zr = true) (ha : dis9 [17, 18, 19, 28, 29, 30, 31, 32, 33, 34, 35, 36, 37, 38, 39, 43, 44, 45, 46, 47, 48, 49, 50, 51, 52, 53, 54, 64, 65, 67] fa = true) (h8 : dis9 [8] zr = true) (hq : dis9 [7] fq = true) : FRZ Z0 S1 := by
  refine ⟨⟨by rw [f.2.2.2.2]; exact g.1.1, fun o ho => by rw [f.2.1 8 (dis9_m h8 (by decide)), f.2.2.2.1 7 (dis9_m hq (by decide))]; exact g.1.2 o ho⟩, fun o c hc ho => ?_⟩
  obtain ⟨g1, g2, g3⟩ := g.2 o c hc ho
  exact ⟨fun x hx => by rw [f.1 x (dis9_m hz hx)]; exact g1 x hx, fun x hx => by rw [f.2.1 x (dis9_m hr hx)]; exact g2 x hx, fun x hx j => by rw [f.2.2.1 x (dis9_m ha hx)]; exact g3 x hx j⟩
/-- the objects about the runner; the program that is told is V -/
def ENV (r h pg sc : Nat) (N : Nat → Prop) (V : PV) (Z0 S : kS) : Prop := S.2.1 41 r = some h ∧ S.2.1 2 h = some pg ∧ S.2.1 31 pg = some sc ∧ ((r, Sum.inl 6) ∈ S.2.2.2.2.2 ∧ (pg, Sum.inl 5) ∈ S.2.2.2.2.2 ∧ (sc, Sum.inl 7) ∈ S.2.2.2.2.2 ∧ FRZ Z0 S) ∧ pv pg sc S = V ∧ (∀ i l, i < 8 → qa S 7 h i = some l → N l) ∧ (∀ l, S.2.1 8 h = some l → N l) ∧ ∃ b, S.2.1 40 r = some b ∧ (b, Sum.inl 0) ∈ S.2.2.2.2.2 ∧ S.2.1 9 h ≠ some b
theorem ENV_f (g : ENV r h pg sc N V Z0 S) (f : HF zi zr fa fq S S1) (hz : dis9 [6, 7, 8, 9, 10, 11, 17, 18, 24, 25, 26, 27, 40, 41] zi = true) (hr : dis9 [2, 8, 9, 40, 41, 14, 15, 16, 17, 18, 19, 20, 28, 29, 30, 31, 32, 33, 34, 35, 36, 37, 38, 39, 43, 44, 45, 46, 47, 48, 49, 50, 51, 52, 53, 54, 55, 64, 65, 66, 67, 68, 69, 70, 71, 72, 73, 74, 75] zr = true) (ha : dis9 [17, 18, 19, 28, 29, 30, 31, 32, 33, 34, 35, 36, 37, 38, 39, 43, 44, 45, 46, 47, 48, 49, 50, 51, 52, 53, 54, 64, 65, 67] fa = true) (hq : dis9 [7] fq = true) : ENV r h pg sc N V Z0 S1 := by
  obtain ⟨g1, g2, g3, ⟨g4, g5, g6, g7⟩, g8, g9⟩ := g
  have e8 : pv pg sc S1 = V := (pv_f f (dis9_w hz (by decide)) (dis9_w ha (by decide))).trans g8
  refine ⟨by rw [f.2.1 41 (dis9_m hr (by decide))]; exact g1, by rw [f.2.1 2 (dis9_m hr (by decide))]; exact g2, by rw [f.2.1 31 (dis9_m hr (by decide))]; exact g3, ⟨by rw [f.2.2.2.2]; exact g4, by rw [f.2.2.2.2]; exact g5, by rw [f.2.2.2.2]; exact g6, FRZ_f g7 f hz (dis9_w hr (by decide)) ha (dis9_w hr (by decide)) hq⟩, e8, ?_⟩
  rw [f.2.1 8 (dis9_m hr (by decide)), f.2.1 40 (dis9_m hr (by decide)), f.2.1 9 (dis9_m hr (by decide)), f.2.2.2.1 7 (dis9_m hq (by decide)), f.2.2.2.2]
  exact g9
/-- numbers, steps, notes, room -/
def NUM (r h k0 : Nat) (n0 c0 p e : Int) (S : kS) : Prop := (0 ≤ (S.1 21 r).toInt ∧ (S.1 21 r).toInt ≤ 64) ∧ (0 ≤ (S.1 19 r).toInt ∧ (S.1 19 r).toInt ≤ 100000) ∧ (0 ≤ (S.1 20 r).toInt ∧ (S.1 20 r).toInt ≤ 3000) ∧ (∀ b, S.2.1 40 r = some b → 0 ≤ (S.1 0 b).toInt ∧ (S.1 0 b).toInt + p ≤ (S.1 19 r).toInt) ∧ ∃ k : Nat, (k0 ≤ k ∧ c0 ≤ (cnt S : Int)) ∧ k ≤ 200 ∧ (∀ i : Nat, i < 200 → (qa S 3 h i = none ↔ k ≤ i)) ∧ (cnt S : Int) + e ≤ c0 + 4 * (k : Int) + (S.1 19 r).toInt ∧ (cnt S : Int) + e + 4 * (k0 : Int) ≤ n0 + 4 * (k : Int) + (S.1 20 r).toInt
theorem NUM_m {k0 : Nat} {n0 c0 p e p1 e1 : Int} (g : NUM r h k0 n0 c0 p e S) (hp : p1 ≤ p) (he : e1 ≤ e) : NUM r h k0 n0 c0 p1 e1 S := by
  obtain ⟨g1, g2, g3, g4, k, g5, g6, g7, g8, g9⟩ := g
  exact ⟨g1, g2, g3, fun b hb => ⟨(g4 b hb).1, by have := (g4 b hb).2; omega⟩, k, g5, g6, g7, by omega, by omega⟩
theorem NUM_f {k0 : Nat} {n0 c0 p e : Int} (g : NUM r h k0 n0 c0 p e S) (f : HF zi zr fa fq S S1) (hz : dis9 [0, 19, 20] zi = true) (h21 : 0 ≤ (S1.1 21 r).toInt ∧ (S1.1 21 r).toInt ≤ 64) (hr : dis9 [40] zr = true) (hq : dis9 [3] fq = true) : NUM r h k0 n0 c0 p e S1 := by
  obtain ⟨g1, g2, g3, g4, k, g5, g6, g7, g8, g9⟩ := g
  unfold NUM cnt
  unfold cnt at g5 g8 g9
  rw [f.1 19 (dis9_m hz (by decide)), f.1 20 (dis9_m hz (by decide)), f.1 0 (dis9_m hz (by decide)), f.2.1 40 (dis9_m hr (by decide)), f.2.2.2.1 3 (dis9_m hq (by decide)), f.2.2.2.2]
  exact ⟨h21, g2, g3, g4, k, g5, g6, g7, g8, g9⟩
def TRN (h : Nat) (m : Int) (S : kS) : Prop := ∀ u, tl S h u → 0 ≤ (S.1 34 u).toInt ∧ (S.1 34 u).toInt ≤ m ∧ 0 ≤ (S.1 29 u).toInt ∧ (S.1 29 u).toInt < 12
theorem TRN_f {m : Int} (g : TRN h m S) (f : HF zi zr fa fq S S1) (hz : dis9 [1, 29, 34] zi = true) (hq : dis9 [3] fq = true) : TRN h m S1 := by
  unfold TRN
  rw [f.1 29 (dis9_m hz (by decide)), f.1 34 (dis9_m hz (by decide)), tl_e (f.1 1 (dis9_m hz (by decide))) (f.2.2.2.1 3 (dis9_m hq (by decide)))]
  exact g
/-- a place of type ty -/
def PLP (V : PV) (W : Int → Prop) (ty q : Int) : Prop := 0 ≤ q ∧ q ≤ V.1 17 ∧ tyf (V.2 28) q.toNat = ty ∧ (q < V.1 17 → GV V W (V.2 30 q.toNat))
/-- a task that does not run -/
def OTk (V : PV) (W : Int → Prop) (Q : Prop) (S : kS) (u : Nat) : Prop := FRS V W (ar S 59 u) (ar S 60 u) ∧ (S.1 34 u = 0 → PCG V W (S.1 36 u).toInt) ∧ (S.1 34 u ≠ 0 → S.1 30 u ≠ 3 → 0 ≤ (S.1 36 u).toInt ∧ (S.1 36 u).toInt < V.1 17 ∧ GV V W (V.2 30 (S.1 36 u).toInt.toNat) ∧ (Q → V.2 28 (S.1 36 u).toInt.toNat = 35))
theorem OTk_e {Wu : Int → Prop} {Q : Prop} (g : OTk V Wu Q S u) (e36 : S1.1 36 u = S.1 36 u) (e34 : S1.1 34 u = S.1 34 u) (k3 : S.1 30 u = 3 → S1.1 30 u = 3) (e59 : ∀ j, ar S1 59 u j = ar S 59 u j) (e60 : ∀ j, ar S1 60 u j = ar S 60 u j) : OTk V Wu Q S1 u := by
  unfold OTk
  rw [e36, e34, funext e59, funext e60]
  exact ⟨g.1, g.2.1, fun a b => g.2.2 a (fun c => b (k3 c))⟩
def COR (h t : Nat) (N : Nat → Prop) (V : PV) (T : Nat → Prop) (U : List Nat) (L : Nat → List Nat) (D : Nat → Nat) (W : Nat → Int → Prop) (S : kS) : Prop := ¬ T t ∧ (∃ P, HI h N T (fun _ => True) U L D P S) ∧ KDI S h N ∧ INJ S ∧ tl S h t ∧ (∀ u, tl S h u → u ≠ t → OTk V (W u) (T u) S u) ∧ S.1 38 t = 0 ∧ S.1 34 t ≠ 0
theorem COR_W {W1 : Int → Prop} (g : COR h t N V T U L D W S) : COR h t N V T U L D (wup W t W1) S := ⟨g.1, g.2.1, g.2.2.1, g.2.2.2.1, g.2.2.2.2.1, fun u hu hn => by rw [wup_ne hn]; exact g.2.2.2.2.2.1 u hu hn, g.2.2.2.2.2.2⟩
theorem INJ_hf (g : INJ S) (f : HF zi zr fa fq S S1) (hr : dis9 arrL zr = true) : INJ S1 := INJ_h g (fun x hx => f.2.1 x (dis9_m hr hx))
theorem LSI_0 (g : LSI S h P) (e0 : ∀ b, S.2.1 9 h = some b → S1.1 0 b = S.1 0 b) (e35 : S1.1 35 = S.1 35) (e1 : S1.1 1 = S.1 1) (e9 : S1.2.1 9 = S.2.1 9) (eq3 : qa S1 3 = qa S 3) : LSI S1 h (S1.1 0) := by
  refine ⟨fun b hb => ?_, fun _ _ _ => rfl⟩
  rw [e9] at hb
  rw [e0 b hb, e1, cnc_e e35 eq3]
  exact g.1 b hb
/-- lines, statuses, letters may change -/
theorem HI_gen {l : List Nat} (g : HI h N T G U L D P S) (f : HF zi zr fa fq S S1) (hz : dis9 [1, 3, 5, 28, 30, 35, 38] zi = true) (hr : dis9 [9, 11, 21, 22, 23, 24, 56, 57, 61, 62] zr = true) (ha : dis9 [4, 10] fa = true) (hq : dis9 [3] fq = true) (hL : LNS N L S1 none) (m : STM l S S1) (h63 : ∀ t q, tk S h t → S1.2.1 63 t = some q → q ∈ L t) (h0 : ∀ b, S.2.1 9 h = some b → S1.1 0 b = S.1 0 b) (hl : LTS S1 h) : HI h N T G U L D (S1.1 0) S1 := by
  obtain ⟨g1, g2, g3, g4, g5, g6, g7, g8, g9⟩ := g
  obtain ⟨u1, u2, u3, u4, u5, u6, u7, u8, u9⟩ := g2
  have i := fun x (hx : x ∈ [1, 3, 5, 28, 30, 35, 38]) => f.1 x (dis9_m hz hx)
  have q := fun x (hx : x ∈ [9, 11, 21, 22, 23, 24, 56, 57, 61, 62]) => f.2.1 x (dis9_m hr hx)
  have a := fun x (hx : x ∈ [4, 10]) => f.2.2.1 x (dis9_m ha hx)
  have e1 := i 1 (by decide)
  have eq3 := f.2.2.2.1 3 (dis9_m hq (by decide))
  refine ⟨TKA_e g1 e1 (i 28 (by decide)) eq3, ⟨by rw [q 24 (by decide), q 11 (by decide)]; exact u1, u2, fun t ht => ?_, u4, u5, u6, fun t p hp => ?_, by rw [f.2.2.2.2]; exact u8, by rw [f.2.2.2.2]; exact u9⟩, hL, SGI_m g4 m (i 30 (by decide)) (i 38 (by decide)) e1 eq3, ASI_m g5 m (q 57 (by decide)) (q 56 (by decide)) (q 22 (by decide)) e1 eq3 f.2.2.2.2, RWI_e g6 e1 (i 3 (by decide)) (i 30 (by decide)) (a 4 (by decide)) eq3, by rw [e1, i 5 (by decide), a 10 (by decide)]; exact g7, LSI_0 g8 h0 (i 35 (by decide)) e1 (q 9 (by decide)) eq3, hl⟩
  · rw [tk_e eq3] at ht
    rw [q 24 (by decide), q 61 (by decide), q 62 (by decide), q 23 (by decide)]
    exact ⟨(u3 t ht).1, (u3 t ht).2.1, fun w hw => h63 t w ht hw⟩
  · rw [tl_e e1 eq3, q 21 (by decide), q 23 (by decide), q 62 (by decide)]
    exact u7 t p hp
theorem COR_gen {l : List Nat} (g : COR h t N V T U L D W S) (f : HF zi zr fa fq S S1) (hz : dis9 [1, 3, 5, 28, 30, 34, 35, 38] zi = true) (hz2 : dis9 [1, 3, 5, 28, 30, 35, 38] zi = true) (hr : dis9 [9, 11, 21, 22, 23, 24, 56, 57, 61, 62] zr = true) (hr9 : dis9 [9] zr = true) (hA : dis9 arrL zr = true) (ha : dis9 [4, 10] fa = true) (hq : dis9 [3] fq = true) (hL : LNS N L S1 none) (m : STM l S S1) (h63 : ∀ t q, tk S h t → S1.2.1 63 t = some q → q ∈ L t) (h0 : ∀ b, S.2.1 9 h = some b → S1.1 0 b = S.1 0 b) (hl : LTS S1 h) (ho : OTH t S S1) : COR h t N V T U L D W S1 := by
  obtain ⟨g1, ⟨P, g2⟩, g3, g4, g5, g6, g7, g8⟩ := g
  have e1 := f.1 1 (dis9_m hz (by decide))
  have eq3 := f.2.2.2.1 3 (dis9_m hq (by decide))
  have e34 := f.1 34 (dis9_m hz (by decide))
  have e30 := f.1 30 (dis9_m hz (by decide))
  refine ⟨g1, ⟨_, HI_gen g2 f hz2 hr ha hq hL m h63 h0 hl⟩, KDI_e g3 f hA hr9 hq, INJ_hf g4 f hA, by rw [tl_e e1 eq3]; exact g5, fun u hu hn => ?_, by rw [f.1 38 (dis9_m hz (by decide))]; exact g7, by rw [e34]; exact g8⟩
  rw [tl_e e1 eq3] at hu
  have k := ho u hn
  exact OTk_e (g6 u hu hn) k.1 (congrFun e34 u) (fun c => by rw [e30]; exact c) k.2.1 k.2.2
theorem OTH_f (f : HF zi zr fa fq S S1) (hz : dis9 [36] zi = true) (ha : dis9 [59, 60] fa = true) : OTH t S S1 := fun o _ => by
  rw [f.1 36 (dis9_m hz (by decide)), f.2.2.1 59 (dis9_m ha (by decide)), f.2.2.1 60 (dis9_m ha (by decide))]
  exact ⟨rfl, fun _ => rfl, fun _ => rfl⟩
/-- what the invariants do not speak of may change -/
theorem COR_f (g : COR h t N V T U L D W S) (f : HF zi zr fa fq S S1) (hz : dis9 [1, 3, 5, 28, 30, 34, 35, 38] zi = true) (hz2 : dis9 [1, 3, 5, 28, 30, 35, 38] zi = true) (h13 : dis9 [13] zi = true) (hr : dis9 [9, 11, 21, 22, 23, 24, 56, 57, 61, 62] zr = true) (hr9 : dis9 [9] zr = true) (hA : dis9 arrL zr = true) (hl9 : dis9 [12, 13, 25, 26, 27, 63] zr = true) (ha : dis9 [4, 10] fa = true) (ha6 : dis9 [6] fa = true) (hq : dis9 [3] fq = true) (h0 : ∀ b, S.2.1 9 h = some b → S1.1 0 b = S.1 0 b) (ho : OTH t S S1) : COR h t N V T U L D W S1 := by
  obtain ⟨P, g2⟩ := g.2.1
  have e13 := f.1 13 (dis9_m h13 (by decide))
  have q := fun x (hx : x ∈ [12, 13, 25, 26, 27, 63]) => f.2.1 x (dis9_m hl9 hx)
  exact COR_gen (l := []) g f hz hz2 hr hr9 hA ha hq (LNS_e g2.2.2.1 (q 12 (by decide)) (q 13 (by decide)) (q 25 (by decide)) (q 26 (by decide)) (q 27 (by decide)) e13) (STM_e STM_rf (fun o => congrFun e13 o)) (fun t9 w ht hw => (g2.2.1.2.2.1 t9 ht).2.2 w (by rw [← q 63 (by decide)]; exact hw)) h0 (LTS_e g2.2.2.2.2.2.2.2.2 (f.2.2.1 6 (dis9_m ha6 (by decide)))) ho
theorem COR_st {v : Int32} (g : COR h t N V T U L D W S) (e : S1 = cI S 30 t v) (hv : v ≠ 0 ∧ v ≠ 1 ∧ v ≠ 2) (hs : S.1 30 t ≠ 0) : COR h t N V T U L D W S1 := by
  obtain ⟨g1, ⟨P, g2⟩, g3, g4, g5, g6, g7, g8⟩ := g
  have f := HF_i e
  have e1 := f.1 1 (by decide)
  have eq3 := f.2.2.2.1 3 (by decide)
  refine ⟨g1, ⟨P, HI_st g2 e (fun _ => nr_q g2.2.2.2.2.2.1 hs) (fun _ q => ?_) (fun _ q => ?_)⟩, KDI_e g3 f (by decide) (by decide) (by decide), INJ_hf g4 f (by decide), by rw [tl_e e1 eq3]; exact g5, fun u hu hn => ?_, by rw [f.1 38 (by decide)]; exact g7, by rw [f.1 34 (by decide)]; exact g8⟩
  · rcases q with q | q | q
    · exact absurd q hv.1
    · exact absurd q hv.2.2
    · exact absurd q.1 hv.2.1
  · rcases q with q | q | q
    · exact absurd q hv.1
    · exact absurd q hv.2.1
    · exact absurd q hv.2.2
  · rw [tl_e e1 eq3] at hu
    exact OTk_e (g6 u hu hn) (by rw [f.1 36 (by decide)]) (by rw [f.1 34 (by decide)]) (fun c => by rw [e, k_ii, if_neg (fun w => hn w.2)]; exact c) (fun j => by rw [f.2.2.1 59 (by decide)]) (fun j => by rw [f.2.2.1 60 (by decide)])
/-- the parts of the running task by the type of its place -/
def LYR (ty : Int) (t : Nat) (L : Nat → List Nat) (D : Nat → Nat) (S : kS) : Prop := (ty < 0 → S.1 30 t = 4 ∧ L t = []) ∧ (0 ≤ ty → S.1 30 t = 5) ∧ (0 ≤ ty → ty ≤ 1 → L t = []) ∧ (0 ≤ ty → ty ≤ 21 → ∃ O, OCH (S.2.1 23) (S.2.1 25) D (S.2.1 63 t) O ∧ (O.length : Int) = ty / 2) ∧ (22 ≤ ty → S.2.1 63 t = none)
theorem LYR_e {ty : Int} (g : LYR ty t L D S) (e30 : S1.1 30 t = S.1 30 t) (e23 : S1.2.1 23 = S.2.1 23) (e25 : S1.2.1 25 = S.2.1 25) (e63 : S1.2.1 63 = S.2.1 63) : LYR ty t L D S1 := by
  unfold LYR
  rw [e30, e23, e25, e63]
  exact g
theorem LYR_t {ty ty1 : Int} (g : LYR ty t L D S) (h1 : ty < 0 → ty1 < 0) (h2 : 0 ≤ ty → ty1 = ty) : LYR ty1 t L D S := by
  rcases Decidable.em (ty < 0) with c | c
  · have := h1 c
    exact ⟨fun _ => g.1 c, fun q => by omega, fun q => by omega, fun q => by omega, fun q => by omega⟩
  · rw [h2 (by omega)]
    exact g
theorem LYR_m {ty : Int} (h : ty < 0) (h4 : S.1 30 t = 4) (hl : L t = []) : LYR ty t L D S := ⟨fun _ => ⟨h4, hl⟩, fun q => by omega, fun q => by omega, fun q => by omega, fun q => by omega⟩
theorem LYR_n (g : COR h t N V T U L D W S) (hl : L t = []) : S.2.1 63 t = none := by
  obtain ⟨P, g2⟩ := g.2.1
  refine on_none (fun q hq => ?_)
  have := (g2.2.1.2.2.1 t (tl_t g2.1 g.2.2.2.2.1)).2.2 q hq
  rw [hl] at this
  exact absurd this List.not_mem_nil
theorem LYR_s {ty : Int} (g : LYR ty t L D S) : S.1 30 t = 4 ∨ S.1 30 t = 5 := by
  rcases Decidable.em (ty < 0) with c | c
  · exact Or.inl (g.1 c).1
  · exact Or.inr (g.2.1 (by omega))
/-- the task still goes, or has done: then why -/
def RES (r h pg sc t : Nat) (N : Nat → Prop) (V : PV) (Z0 : kS) (k0 : Nat) (n0 c0 m : Int) (S : kS) : Prop := ENV r h pg sc N V Z0 S ∧ NUM r h k0 n0 c0 0 0 S ∧ TRN h m S ∧ (S.1 30 t = 4 ∨ S.1 30 t = 5) ∧ ∃ T U L D W, COR h t N V T U L D W S ∧ FRS V (W t) (ar S 59 t) (ar S 60 t) ∧ ((S.1 22 r = 0 ∧ ∃ ty, LYR ty t L D S ∧ PLP V (W t) ty (S.1 36 t).toInt ∧ NUM r h k0 n0 c0 (pd9 ty) (od9 ty) S) ∨ S.1 22 r = 3 ∨ ((S.1 22 r = 1 ∨ S.1 22 r = 2) ∧ 0 ≤ (S.1 36 t).toInt ∧ (S.1 36 t).toInt < V.1 17 ∧ GV V (W t) (V.2 30 (S.1 36 t).toInt.toNat) ∧ (S.1 22 r = 1 → V.2 28 (S.1 36 t).toInt.toNat = 35)))
theorem RES_l {k0 : Nat} {n0 c0 m : Int} {Wt : Int → Prop} (a1 : ENV r h pg sc N V Z0 S1) (a2 : NUM r h k0 n0 c0 0 0 S1) (a3 : TRN h m S1) (a4 : S1.1 30 t = 4) (a5 : COR h t N V T U L D W S1) (hl : L t = []) (lv : LVQ V Wt r t S S1) (h22 : S.1 22 r = 0) : RES r h pg sc t N V Z0 k0 n0 c0 m S1 := by
  obtain ⟨W1, _, fr, _, q⟩ := lv
  refine ⟨a1, a2, a3, Or.inl a4, T, U, L, D, wup W t W1, COR_W a5, by rw [wup_at]; exact fr, ?_⟩
  rcases q with q | ⟨q, w⟩
  · exact Or.inr (Or.inl q)
  · exact Or.inl ⟨q.trans h22, -2, LYR_m (by decide) a4 hl, by rw [wup_at]; exact w, NUM_m a2 (by decide) (by decide)⟩
theorem ty_s {q ty : Int} (hP : PGM V) (h0 : 0 ≤ q) (h1 : q < V.1 17) (e : tyf (V.2 28) q.toNat = ty) : tyf (V.2 28) (q + 1).toNat = stp (V.2 28 q.toNat) ty ∧ stp (V.2 28 q.toNat) ty ≠ -9 := by
  have e1 : (q + 1).toNat = q.toNat + 1 := by omega
  have s : tyf (V.2 28) (q.toNat + 1) = stp (V.2 28 q.toNat) ty := by
    show stp (V.2 28 q.toNat) (tyf (V.2 28) q.toNat) = _
    rw [e]
  refine ⟨by rw [e1]; exact s, ?_⟩
  rw [← s]
  exact tyf_9 (m := (V.1 17).toNat) (by omega) (by rw [hP.2.2.2.2.2.2.2.2.1]; decide)
theorem PLP_s {Wt : Int → Prop} {q ty : Int} (hP : PGM V) (pl : PLP V Wt ty q) (h1 : q < V.1 17) (hf : FLS (V.2 28 q.toNat)) : PLP V Wt (stp (V.2 28 q.toNat) ty) (q + 1) := by
  obtain ⟨p0, p1, p2, p3⟩ := pl
  refine ⟨by omega, by omega, (ty_s hP p0 h1 p2).1, fun c => ?_⟩
  have e1 : (q + 1).toNat = q.toNat + 1 := by omega
  rw [e1]
  exact GV_c (p3 h1) (hP.2.2.2.2.2.2.2.2.2.2.1 q.toNat (by omega) hf)
end RNs
