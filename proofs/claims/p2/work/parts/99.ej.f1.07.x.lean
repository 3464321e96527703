
theorem Rx_cr {c : Int} {V V1 : PV} (hG : RG V) (hB : BG c V) (hc : c ≤ 60) (hT : TY (-2) V) (hs : V.1 8 = -1) (h1 : V1.1 17 = V.1 17 + 1) (h8 : V.1 17 < 8064) (h2 : ∀ i : Nat, V1.2 28 i = if (i : Int) = V.1 17 then 24 else V.2 28 i) (h3 : ∀ i : Nat, V1.2 29 i = if (i : Int) = V.1 17 then 0 else V.2 29 i) (h4 : ∀ i : Nat, V1.2 30 i = if (i : Int) = V.1 17 then -1 else V.2 30 i) (hv : VF [17] [28, 29, 30, 33] V V1) : Rx 1 V V1 ∧ TY (-2) V1 := by
  have g0 := hG.2.1
  let Va : PV := (V1.1, fun f => if f = 33 then V.2 33 else V1.2 f)
  have hE : jEM 24 0 V Va := by
    refine ⟨h1, h2, h3, fun i => by rw [hs]; exact h4 i, hv.1, fun f hf h9 => ?_⟩
    show (if f = 33 then V.2 33 else V1.2 f) = V.2 f
    rcases Decidable.em (f = 33) with c | c
    · rw [if_pos c, c]
    · rw [if_neg c]
      exact hv.2 f (fun q => by
        rcases List.mem_cons.mp q with q | q
        · exact hf (by rw [q]; decide)
        rcases List.mem_cons.mp q with q | q
        · exact hf (by rw [q]; decide)
        rcases List.mem_cons.mp q with q | q
        · exact hf (by rw [q]; decide)
        · exact c (List.mem_singleton.mp q)) (fun _ => by decide)
  have hM : EMr 24 0 (V.1 17) V Va := ⟨g0.1, by omega, Or.inl ⟨h8, rfl, hE⟩⟩
  have hv1 : VF [] [33] Va V1 := ⟨fun _ _ => rfl, fun f hf _ => by
    show V1.2 f = if f = 33 then V.2 33 else V1.2 f
    rw [if_neg (fun q => hf (by rw [q]; decide))]⟩
  have r1 := EMr_R hG hB hc hM (fun _ => ACTn_s (by decide))
  have r2 : Rx 0 Va V1 := Rx_ir hv1 (by decide) (by decide) (by decide) (fun g => RG_ir (hv_sub hv1 (by decide) (by decide)) g)
  exact ⟨Rx_tr hG r1 r2, TY_v hv1 (by decide) (by decide) (EMr_T hG hB hc hM hT (by decide))⟩
theorem VF_33 {V V1 : PV} (hv : VF [17] [28, 29, 30, 33] V V1) (h1 : V1.1 17 = V.1 17) (h2 : V1.2 28 = V.2 28) (h3 : V1.2 29 = V.2 29) (h4 : V1.2 30 = V.2 30) : VF [] [33] V V1 := by
  refine ⟨fun f _ => ?_, fun f hf _ => ?_⟩
  · rcases Decidable.em (f = 17) with c | c
    · rw [c, h1]
    · exact hv.1 f (fun q => c (List.mem_singleton.mp q))
  · rcases Decidable.em (f = 28) with c | c
    · rw [c, h2]
    rcases Decidable.em (f = 29) with c1 | c1
    · rw [c1, h3]
    rcases Decidable.em (f = 30) with c2 | c2
    · rw [c2, h4]
    exact hv.2 f (fun q => by
      rcases List.mem_cons.mp q with q | q
      · exact c q
      rcases List.mem_cons.mp q with q | q
      · exact c1 q
      rcases List.mem_cons.mp q with q | q
      · exact c2 q
      · exact hf q) (fun _ => by decide)
theorem TY_0 {t : Int} {V : PV} {S S1 : kS} (h : S1 = S) (f : kS → PV) (ht : TY t (f S)) : TY t (f S1) := by rw [h]; exact ht
