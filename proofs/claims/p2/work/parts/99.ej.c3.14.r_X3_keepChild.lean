
theorem sr_X3_keepChild {tk pg sc : Nat} (t0 : Nat) (a0 : Int32) (a1 : Int32) (a2 : Int32) {S : kS} (hI : INJ S) (hO14_t0 : S.2.1 14 t0 = some tk) (hO15_t0 : S.2.1 15 t0 = some pg) (hO16_t0 : S.2.1 16 t0 = some sc) (hG : RG (vw t0 tk pg sc S)) (ha : 0 ≤ a0.toInt ∧ a0.toInt ≤ 4001) (hb : 0 ≤ a2.toInt ∧ a2.toInt ≤ 8063) (hc : (vw t0 tk pg sc S).1 7 = 0 → a2.toInt < (vw t0 tk pg sc S).1 17 ∧ (vw t0 tk pg sc S).2 28 a2.toInt.toNat = 30) : wT_X3_keepChild t0 a0 a1 a2 S (fun S1 => Rx 0 (vw t0 tk pg sc S) (vw t0 tk pg sc S1)) := by
  refine kmT_X3_keepChild _ _ _ _ _ _ _ (fun S1 hF p => ?_) (sk_X3_keepChild (tk := tk) _ _ _ _ hI hO14_t0 hG.2.2.2.2.2.1 ha)
  have hv := vw_k (t0 := t0) (tk := tk) (pg := pg) (sc := sc) hF hI (by decide) (by decide)
  refine Rx_ir hv (by decide) (by decide) (by decide) (fun g => ?_)
  have h0 : 0 ≤ (S.1 11 t0).toInt := hG.2.2.2.2.2.1.1
  rcases p with ⟨q1, q2⟩ | ⟨q1, q2, q3⟩
  · rw [q2]; exact g
  have u := up_v h0 q3
  refine RG_kc (V := (vw t0 tk pg sc S)) (V1 := (vw t0 tk pg sc S1)) (fun i => ?_) ⟨by show 0 ≤ (S1.1 11 t0).toInt; omega, by show (S1.1 11 t0).toInt ≤ 460; omega⟩ (fun q i hi => ?_) (hv_sub hv (by decide) (by decide)) g
  · show 0 ≤ (ar S1 17 t0 i).toInt ∧ (ar S1 17 t0 i).toInt ≤ 8063
    rw [u i]
    split
    · exact hb
    · exact hG.2.2.2.2.2.2.2.2.2.2.2.2.2.2.2 i
  · have e28 := hv.2 28 (by decide) (by decide)
    have e17 := hv.1 17 (by decide)
    have e7 := hv.1 7 (by decide)
    rw [e7] at q
    rw [e28, e17]
    show 0 ≤ (ar S1 17 t0 i).toInt ∧ (ar S1 17 t0 i).toInt < _ ∧ (vw t0 tk pg sc S).2 28 ((ar S1 17 t0 i).toInt).toNat = 30
    have hi : (i : Int) < (S1.1 11 t0).toInt := hi
    rw [u i]
    rcases Decidable.em ((i : Int) = (S.1 11 t0).toInt) with c | c
    · rw [if_pos c]; exact ⟨hb.1, hc q⟩
    · rw [if_neg c]; exact hG.1.2.2.2.2.2.2.2.2.2 q i (show (i : Int) < (S.1 11 t0).toInt by omega)
