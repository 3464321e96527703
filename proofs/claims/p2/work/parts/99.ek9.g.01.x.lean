
/-- a failure: the wait is broken off, or the place is left -/
def FLX (V : PV) (W : Int → Prop) (r a : Nat) (at9 : Int32) (S S1 : kS) : Prop := (S.1 30 a = 5 ∧ S1.1 22 r = 2 ∧ S1.1 36 a = at9 ∧ OTH a S S1 ∧ FRS V W (ar S1 59 a) (ar S1 60 a)) ∨ (S.1 30 a ≠ 5 ∧ LVQ V W r a S S1)
theorem FLX_p {V : PV} {W : Int → Prop} {r a : Nat} {at9 : Int32} {S S0 S1 : kS} {zi zr fa fq : List Nat} (f : HF zi zr fa fq S S0) (hz : dis9 [22, 30, 36] zi = true) (h2 : dis9 [22, 36] zi = true) (ha : dis9 [59, 60] fa = true) (g : FLX V W r a at9 S0 S1) : FLX V W r a at9 S S1 := by
  have e30 := f.1 30 (dis9_m hz (by decide))
  rcases g with ⟨g1, g2, g3, g4, g5⟩ | ⟨g1, g2⟩
  · refine Or.inl ⟨by rw [← e30]; exact g1, g2, g3, fun o ho => ?_, g5⟩
    have k := g4 o ho
    rw [f.1 36 (dis9_m hz (by decide)), f.2.2.1 59 (dis9_m ha (by decide)), f.2.2.1 60 (dis9_m ha (by decide))] at k
    exact k
  · exact Or.inr ⟨by rw [← e30]; exact g1, LVQ_p f h2 ha g2⟩
