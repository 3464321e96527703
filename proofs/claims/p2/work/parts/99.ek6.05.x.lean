
def RPI (n : Int) (N : Nat → Prop) (LL : Nat → List Nat) (h t : Nat) (x : Option Nat) (S Sx : kS) : Prop := LNS N LL Sx x ∧ AGE n (Sx.1 5 h).toInt (ar Sx 10 h) ∧ STM (LL t) S Sx ∧ (∀ o, Sx.1 28 o = S.1 28 o) ∧ (∀ o, Sx.1 38 o = S.1 38 o)
/-- what report has done for task t -/
def RPF (n : Int) (N : Nat → Prop) (LL : Nat → List Nat) (h t : Nat) (S Sx : kS) : Prop := LNS N LL Sx none ∧ AGE n (Sx.1 5 h).toInt (ar Sx 10 h) ∧ STM (LL t) S Sx ∧ (∀ u, u ≠ t → Sx.1 38 u = S.1 38 u) ∧ (Sx.1 38 t = S.1 38 t ∨ (Sx.1 38 t ≠ 0 ∧ ∀ p, p ∈ LL t → Sx.1 13 p ≠ 0))
section RP
variable {n : Int} {N : Nat → Prop} {LL : Nat → List Nat} {h t : Nat} {x : Option Nat} {S S5 S7 S8 Sx S9 S20 S22 : kS}
theorem RPI_F (g : RPI n N LL h t none S Sx) : RPF n N LL h t S Sx := ⟨g.1, g.2.1, g.2.2.1, fun u _ => g.2.2.2.2 u, Or.inl (g.2.2.2.2 t)⟩
theorem RPF_t (g : RPF n N LL h t S Sx) (hG : AGE n (Sx.1 5 h).toInt (ar S9 10 h)) (e5 : S9.1 5 = Sx.1 5) (e12 : S9.2.1 12 = Sx.2.1 12) (e13 : S9.2.1 13 = Sx.2.1 13) (e25 : S9.2.1 25 = Sx.2.1 25) (e26 : S9.2.1 26 = Sx.2.1 26) (e27 : S9.2.1 27 = Sx.2.1 27) (e : S9.1 13 = Sx.1 13) (e38 : S9.1 38 = Sx.1 38) : RPF n N LL h t S S9 := ⟨LNS_e g.1 e12 e13 e25 e26 e27 e, by rw [e5]; exact hG, STM_e g.2.2.1 (fun o => congrFun e o), by rw [e38]; exact g.2.2.2.1, by rw [e38, e]; exact g.2.2.2.2⟩
theorem RPI_0 {a : Nat} {v w : Int32} (hp : a ∈ LL t) (hv : v ≠ 0) (hL : LNS N LL S none) (hG : AGE n (S5.1 5 h).toInt (ar S5 10 h)) (e12 : S5.2.1 12 = S.2.1 12) (e13 : S5.2.1 13 = S.2.1 13) (e25 : S5.2.1 25 = S.2.1 25) (e26 : S5.2.1 26 = S.2.1 26) (e27 : S5.2.1 27 = S.2.1 27) (e : S5.1 13 = S.1 13) (e28 : S5.1 28 = S.1 28) (e38 : S5.1 38 = S.1 38) (e7 : S7 = cI S5 13 a v) (e8 : S8 = cI S7 14 a w) : RPI n N LL h t (some a) S S8 ∧ S8.1 13 a ≠ 0 := by
  have x5 : ∀ f o, f ≠ 13 → f ≠ 14 → S8.1 f o = S5.1 f o := fun f o h1 h2 => by rw [e8, k_ii, if_neg (fun c => h2 c.1), e7, k_ii, if_neg (fun c => h1 c.1)]
  have x7 : ∀ o, S8.1 13 o = S7.1 13 o := fun o => by rw [e8, k_ii, if_neg (fun c => by cases c.1)]
  refine ⟨⟨LNS_i (LNS_w (LNS_e hL e12 e13 e25 e26 e27 e) e7) (by decide) e8, AGE_c hG (by rw [x5 5 h (by decide) (by decide)]) (fun i => by rw [e8, e7]; rfl), STM_e (STM_tr (STM_e STM_rf (fun o => congrFun e o)) (STM_w hp hv e7)) x7, fun o => by rw [x5 28 o (by decide) (by decide), e28], fun o => by rw [x5 38 o (by decide) (by decide), e38]⟩, ?_⟩
  rw [x7, e7, k_ii, if_pos ⟨rfl, rfl⟩]
  exact hv
theorem RPI_no {p : Nat} (g : RPI n N LL h t (some p) S Sx) (e : Sx.2.1 25 p = none) : RPI n N LL h t none S Sx := ⟨LNS_no g.1 e, g.2⟩
theorem RPI_rm {p l : Nat} (g : RPI n N LL h t (some p) S Sx) (hp : p ∈ LL t) (hl : Sx.2.1 25 p = some l) (r : RMV l p Sx S9) (e5 : S9.1 5 = Sx.1 5) (e : S9.1 13 = Sx.1 13) (e28 : S9.1 28 = Sx.1 28) (e38 : S9.1 38 = Sx.1 38) (e10 : ∀ j, ar S9 10 h j = ar Sx 10 h j) : RPI n N LL h t none S S9 := ⟨LNS_rm g.1 hp hl r e, AGE_c g.2.1 (by rw [e5]) e10, STM_e g.2.2.1 (fun o => congrFun e o), by rw [e28]; exact g.2.2.2.1, by rw [e38]; exact g.2.2.2.2⟩
theorem RPI_d {P A : Prop} {d : List Nat} (g : RPI n N LL h t none S Sx) (p : DST n N LL h t P A d Sx S9) (e38 : S9.1 38 = Sx.1 38) : RPI n N LL h t none S S9 := ⟨p.1, p.2.1, STM_tr g.2.2.1 p.2.2.2.1, fun o => (p.2.2.2.2.2.1 o).trans (g.2.2.2.1 o), fun o => (congrFun e38 o).trans (g.2.2.2.2 o)⟩
theorem RPI_h {q : Nat} (g : RPI n N LL h t none S Sx) (hq : q ∈ LL t) (ho : ∀ o, o ≠ q → S9.1 13 o = Sx.1 13 o) (hz : S9.1 13 q = Sx.1 13 q ∨ S9.1 13 q ≠ 0) (e5 : S9.1 5 = Sx.1 5) (e12 : S9.2.1 12 = Sx.2.1 12) (e13 : S9.2.1 13 = Sx.2.1 13) (e25 : S9.2.1 25 = Sx.2.1 25) (e26 : S9.2.1 26 = Sx.2.1 26) (e27 : S9.2.1 27 = Sx.2.1 27) (e28 : S9.1 28 = Sx.1 28) (e38 : S9.1 38 = Sx.1 38) (e10 : ∀ j, ar S9 10 h j = ar Sx 10 h j) : RPI n N LL h t (some q) S S9 := by
  refine ⟨LNS_h g.1 e12 e13 e25 e26 e27 ho, AGE_c g.2.1 (by rw [e5]) e10, STM_tr g.2.2.1 (fun o => ?_), by rw [e28]; exact g.2.2.2.1, by rw [e38]; exact g.2.2.2.2⟩
  rcases Decidable.em (o = q) with c | c
  · rcases hz with hz | hz
    · exact Or.inl (by rw [c]; exact hz)
    · exact Or.inr (by rw [c]; exact ⟨hq, hz⟩)
  · exact Or.inl (ho o c)
theorem RPI_g {q : Nat} (g : RPI n N LL h t none S Sx) (ho : ∀ o, o ≠ q → S9.1 13 o = Sx.1 13 o) (hz : S9.1 13 q = Sx.1 13 q) (e5 : S9.1 5 = Sx.1 5) (e12 : S9.2.1 12 = Sx.2.1 12) (e13 : S9.2.1 13 = Sx.2.1 13) (e25 : S9.2.1 25 = Sx.2.1 25) (e26 : S9.2.1 26 = Sx.2.1 26) (e27 : S9.2.1 27 = Sx.2.1 27) (e28 : S9.1 28 = Sx.1 28) (e38 : S9.1 38 = Sx.1 38) (e10 : ∀ j, ar S9 10 h j = ar Sx 10 h j) : RPI n N LL h t none S S9 := by
  have e : S9.1 13 = Sx.1 13 := by
    funext o
    rcases Decidable.em (o = q) with c | c
    · rw [c]; exact hz
    · exact ho o c
  exact ⟨LNS_e g.1 e12 e13 e25 e26 e27 e, AGE_c g.2.1 (by rw [e5]) e10, STM_e g.2.2.1 (fun o => congrFun e o), by rw [e28]; exact g.2.2.2.1, by rw [e38]; exact g.2.2.2.2⟩
/-- the outcome is set: all parts have come, failed or been let go -/
theorem RPF_o {v w : Int32} (g : RPI n N LL h t none S Sx) (hv : v ≠ 0) (hd : ∀ p, p ∈ LL t → Sx.1 13 p ≠ 0) (e20 : S20 = cI Sx 38 t v) (e22 : S22 = cI S20 39 t w) : RPF n N LL h t S S22 := by
  have x5 : ∀ f o, f ≠ 38 → f ≠ 39 → S22.1 f o = Sx.1 f o := fun f o h1 h2 => by rw [e22, k_ii, if_neg (fun c => h2 c.1), e20, k_ii, if_neg (fun c => h1 c.1)]
  have x38 : ∀ o, S22.1 38 o = if o = t then v else Sx.1 38 o := fun o => by
    rw [e22, k_ii, if_neg (fun c => by cases c.1), e20, k_ii]
    rcases Decidable.em (o = t) with c | c
    · rw [if_pos ⟨rfl, c⟩, if_pos c]
    · rw [if_neg (fun q => c q.2), if_neg c]
  refine ⟨LNS_i (LNS_i g.1 (by decide) e20) (by decide) e22, AGE_c g.2.1 (by rw [x5 5 h (by decide) (by decide)]) (fun i => by rw [e22, e20]; rfl), STM_e g.2.2.1 (fun o => x5 13 o (by decide) (by decide)), fun u hu => by rw [x38, if_neg hu]; exact g.2.2.2.2 u, Or.inr ⟨by rw [x38, if_pos rfl]; exact hv, fun p hp => by rw [x5 13 p (by decide) (by decide)]; exact hd p hp⟩⟩
end RP
