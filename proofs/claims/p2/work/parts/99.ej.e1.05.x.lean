
theorem vw_ca {t0 tk pg sc f o q i k : Nat} {v : Int32} {S S1 : kS} (e : S1 = cA S q i v) (h : ∀ g b j, ar S1 g b j = if g = f ∧ b = o ∧ j = k then v else ar S g b j) (hf : f ≠ 49) : VF [] [f] (vw t0 tk pg sc S) (vw t0 tk pg sc S1) := by
  refine ⟨fun g _ => ?_, fun g hg _ => ?_⟩
  · subst e
    rfl
  · have h9 : g ≠ f := fun q => hg (by rw [q]; exact List.mem_singleton_self f)
    funext j
    unfold vw
    dsimp only
    rcases Decidable.em (g = 149) with c | c
    · rw [if_pos c, if_pos c, h 49 sc j]
      rw [if_neg]
      exact fun q => hf q.1.symm
    · rw [if_neg c, if_neg c, h g _ j]
      rw [if_neg]
      exact fun q => h9 q.1
theorem NL_v {f : Int} {V V1 : PV} (h : NL f V V1) : VF [25] [50, 51] V V1 := h.2.2.2
