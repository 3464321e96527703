
theorem pl_c {S : kS} {h t : Nat} {z3 z4 : Int32} (g : TKA S h) (ht : tl S h t) (e3 : z3 = S.1 28 t) (e4 : z4 = z3 ^^^ (-1)) : AEV (S.1 1 h).toInt z4.toInt := by
  obtain ⟨n0, n1, _⟩ := tl_n g ht
  have g2 := g.2.1
  have e := w_not e4 (by rw [e3]; exact ⟨by omega, by omega⟩)
  rw [e3] at e
  exact Or.inr ⟨by omega, by omega⟩
theorem HI_a5 {S S1 : kS} {h : Nat} {N T G : Nat → Prop} {U : List Nat} {L : Nat → List Nat} {D : Nat → Nat} {P : Nat → Int32} {v : Int32} (g : HI h N T G U L D P S) (e : S1 = cI S 5 h v) (h0 : 0 ≤ v.toInt) (h1 : v.toInt ≤ (S.1 5 h).toInt) : HI h N T G U L D P S1 := by
  have a := g.2.2.2.2.2.2.1
  refine HI_pl g (HF_s (HF_i e) (by decide) (by decide) (by decide) (by decide)) ?_
  have e5 : S1.1 5 h = v := by rw [e, k_ii, if_pos ⟨rfl, rfl⟩]
  have e10 : ar S1 10 h = ar S 10 h := by rw [e]; rfl
  rw [e5, e10]
  exact ⟨h0, Int.le_trans h1 a.2.1, fun i hi => a.2.2 i (by omega)⟩
theorem cnc_e {S S1 : kS} {h n : Nat} (e35 : S1.1 35 = S.1 35) (eq3 : qa S1 3 = qa S 3) : lcn (cnc S1 h) n = lcn (cnc S h) n := by
  have e : cnc S1 h = cnc S h := by
    funext i
    unfold cnc
    rw [e35, eq3]
  rw [e]
