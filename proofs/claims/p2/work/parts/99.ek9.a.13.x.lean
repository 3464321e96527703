
theorem HF_a {S S1 : kS} {f a q i : Nat} {v : Int32} (e : S1 = cA S q i v) (w : ∀ g b j, ar S1 g b j = if g = f ∧ b = a ∧ j = i then v else ar S g b j) : HF [] [] [f] [] S S1 := by
  refine ⟨fun _ _ => by rw [e]; rfl, fun _ _ => by rw [e]; rfl, fun g hg => ?_, fun _ _ => by rw [e]; rfl, by rw [e]; rfl⟩
  funext b j
  rw [w g b j, if_neg (fun c => hg (by rw [c.1]; exact List.mem_cons_self ..))]
theorem HI_l6 {S S1 : kS} {h : Nat} {N T G : Nat → Prop} {U : List Nat} {L : Nat → List Nat} {D : Nat → Nat} {P : Nat → Int32} (g : HI h N T G U L D P S) (f : HF [] [] [6] [] S S1) (l : LTS S1 h) : HI h N T G U L D P S1 := by
  obtain ⟨g1, g2, g3, g4, g5, g6, g7, g8, g9⟩ := g
  have e1 := f.1 1 (by decide)
  have eq3 := f.2.2.2.1 3 (by decide)
  have e13 := f.1 13 (by decide)
  have m : STM [] S S1 := STM_e STM_rf (fun o => congrFun e13 o)
  exact ⟨TKA_e g1 e1 (f.1 28 (by decide)) eq3, PAI_e g2 (f.2.1 11 (by decide)) (f.2.1 21 (by decide)) (f.2.1 23 (by decide)) (f.2.1 24 (by decide)) (f.2.1 61 (by decide)) (f.2.1 62 (by decide)) (f.2.1 63 (by decide)) e1 eq3 f.2.2.2.2, LNS_e g3 (f.2.1 12 (by decide)) (f.2.1 13 (by decide)) (f.2.1 25 (by decide)) (f.2.1 26 (by decide)) (f.2.1 27 (by decide)) e13, SGI_m g4 m (f.1 30 (by decide)) (f.1 38 (by decide)) e1 eq3, ASI_m g5 m (f.2.1 57 (by decide)) (f.2.1 56 (by decide)) (f.2.1 22 (by decide)) e1 eq3 f.2.2.2.2, RWI_e g6 e1 (f.1 3 (by decide)) (f.1 30 (by decide)) (f.2.2.1 4 (by decide)) eq3, by rw [e1, f.1 5 (by decide), f.2.2.1 10 (by decide)]; exact g7, LSI_e g8 (f.1 0 (by decide)) (f.1 35 (by decide)) e1 (f.2.1 9 (by decide)) eq3 f.2.2.2.2, l⟩
theorem LTS_u {S S1 : kS} {h k : Nat} {v : Int32} (g : LTS S h) (hv : 0 ≤ v.toInt ∧ v.toInt ≤ 50) (w : ∀ j, ar S1 6 h j = if j = k then v else ar S 6 h j) : LTS S1 h := fun b hb => by
  rw [w b]
  rcases Decidable.em (b = k) with c | c
  · rw [if_pos c]; exact hv
  · rw [if_neg c]; exact g b hb
theorem jix_lt {z : Int32} {n : Nat} (h0 : 0 ≤ z.toInt) (h1 : z.toInt < (n : Int)) : ix z < n := by
  have := kx_int z h0
  omega
