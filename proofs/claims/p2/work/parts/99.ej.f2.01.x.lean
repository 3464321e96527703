
theorem FCI_pt {k v : Int} {V V1 V2 : PV} (h : FCI V V1) (q : V1.1 7 = 0) (hP : jPT k v V1 V2) (ho : V.2 28 k.toNat = 30) (h0 : 0 ≤ k) (hv : 0 ≤ v ∧ v < V.1 18) : FCI V V2 := by
  obtain ⟨i1, i2⟩ := PT_i hP
  refine ⟨⟨fun f hf => by rw [i1]; exact h.1.1 f hf, fun f hf h9 => by rw [i2 f (fun e => hf (by rw [e]; decide))]; exact h.1.2 f hf h9⟩, fun _ => ⟨(h.2 q).1, fun i => ?_⟩⟩
  rw [hP.1 i]
  rcases Decidable.em ((i : Int) = k) with c | c
  · rw [if_pos c]
    have e : i = k.toNat := by omega
    exact Or.inr ⟨by rw [e]; exact ho, hv⟩
  · rw [if_neg c]
    exact (h.2 q).2 i
theorem FCI_f {V V1 V2 : PV} (h : FCI V V1) (q : V1.1 7 = 0) (hv : VF [7] [] V1 V2) : FCI V V2 := by
  refine ⟨⟨fun f hf => by rw [hv.1 f hf]; exact h.1.1 f hf, fun f hf h9 => by rw [hv.2 f List.not_mem_nil (fun _ => List.not_mem_nil)]; exact h.1.2 f hf h9⟩, fun _ => ⟨(h.2 q).1, fun i => ?_⟩⟩
  rw [hv.2 29 (by decide) (by decide)]
  exact (h.2 q).2 i
