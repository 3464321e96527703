
theorem EMr_o {o a r c : Int} {V V1 : PV} (hG : RG V) (hB : BG c V) (hc : c ≤ 60) (h : EMr o a r V V1) (q : V1.1 7 = 0) : r < V1.1 17 ∧ V1.2 28 r.toNat = o := by
  rw [(EMr_i h).1 7 (by decide)] at q
  obtain ⟨e1, m⟩ := EMr_f hG hB hc h q
  have l := m.1
  exact ⟨by omega, by rw [e1]; exact (EM_1 hG.2.1.1 (EM_z m)).1⟩
