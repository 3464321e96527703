
set_option maxHeartbeats 400000 in
theorem sk_X6_closePart {N : Nat → Prop} {LL : Nat → List Nat} {h qq : Nat} (t0 : Nat) (a0 : Nat) {S : kS} (hI : INJ S) (hO41_t0 : S.2.1 41 t0 = some h) (hL : LNS N LL S none) (h63 : S.2.1 63 a0 = some qq) (hp : qq ∈ LL a0) (hl : S.2.1 25 qq = none) (hq : ∀ q, S.2.1 23 qq = some q → q ∈ LL a0 ∧ S.2.1 25 q = none ∧ q ≠ qq) (hN8 : ∀ l, S.2.1 8 h = some l → N l) : wT_X6_closePart t0 a0 S (fun S1 => LNS N LL S1 none ∧ STM (LL a0) S S1 ∧ S1.2.1 63 a0 = S.2.1 23 qq ∧ (∀ o, o ≠ a0 → S1.2.1 63 o = S.2.1 63 o) ∧ ∀ o, o ≠ qq → S1.2.1 25 o = S.2.1 25 o) := by
  have nS : FX [12, 13, 25, 26, 27, 63] S S := FX_rf
  unfold wT_X6_closePart
  have j67 : ∀ (x0 : Nat) (x2 : Nat) (Sx : kS), ((FX [12, 13, 25, 26, 27, 63] S Sx) ∧ (t0 = x0 ∧ qq = x2 ∧ LNS N LL Sx none ∧ STM (LL a0) S Sx ∧ Sx.2.1 63 a0 = S.2.1 23 qq ∧ (∀ o, o ≠ a0 → Sx.2.1 63 o = S.2.1 63 o) ∧ (∀ o, o ≠ qq → Sx.2.1 25 o = S.2.1 25 o) ∧ Sx.2.1 23 = S.2.1 23)) → wT_X6_closePart_67 (fun S1 => LNS N LL S1 none ∧ STM (LL a0) S S1 ∧ S1.2.1 63 a0 = S.2.1 23 qq ∧ (∀ o, o ≠ a0 → S1.2.1 63 o = S.2.1 63 o) ∧ ∀ o, o ≠ qq → S1.2.1 25 o = S.2.1 25 o) x0 x2 Sx := by
    intro x0 x2 Sx hJ67
    obtain ⟨nSx, hJ67⟩ := hJ67
    unfold wT_X6_closePart_67
    obtain ⟨rfl, hJ67⟩ := hJ67
    obtain ⟨rfl, hJ67⟩ := hJ67
    obtain ⟨hx, hm, h6, h7, h25, e23⟩ := hJ67
    intro z17 ez17
    refine ⟨fun c1 => ?_, fun c1 => ?_⟩
    · exact ⟨hx, hm, h6, h7, h25⟩
    · refine kmT_X6_tellAbout _ _ _ _ _ (fun S19 hF2 pS19 => ?_) (sk_X6_tellAbout (N := N) (LL := LL) (t9 := a0) _ _ (INJ_x nSx (by decide) hI) hx (by (try clear j67); grind [k_ii, k_ir, k_ri, k_rr, k_ai, k_ar, k_li, k_lr, k_qi, k_qr, ar_ci, ar_cl, ar_cq, la_ci, la_ca, la_cq, qa_ci, qa_ca, qa_cl, tk_link]) (by rw [e23]; exact fun q e => ⟨(hq q e).1, by rw [h25 q (hq q e).2.2]; exact (hq q e).2.1⟩))
      have nS19 : FX [12, 13, 25, 26, 27, 63] S S19 := FX_k hF2 (by decide) nSx
      have fS19 := HF_k hF2 (INJ_x nSx (by decide) hI) (by decide) (by decide) (by decide)
      clear hF2
      exact ⟨pS19.1, STM_tr hm pS19.2, by rw [fS19.2.1 63 (by decide)]; exact h6, fun o ho => by rw [fS19.2.1 63 (by decide)]; exact h7 o ho, fun o ho => by rw [fS19.2.1 25 (by decide)]; exact h25 o ho⟩
  intro z1 ez1
  refine ⟨fun c3 => ?_, fun q2 c3 => ?_⟩
  · exact absurd (c3) (by rw [ez1, h63]; intro c9; cases c9)
  · intro z3 ez3
    obtain rfl : qq = q2 := Option.some.inj (h63.symm.trans (by (try clear j67); grind [k_ii, k_ir, k_ri, k_rr, k_ai, k_ar, k_li, k_lr, k_qi, k_qr, ar_ci, ar_cl, ar_cq, la_ci, la_ca, la_cq, qa_ci, qa_ca, qa_cl, tk_link]))
    intro S4 eS4
    have nS4 : FX [12, 13, 25, 26, 27, 63] S S4 := FX_r eS4 (by decide) nS
    have arS4 := ar_cr eS4 (by decide)
    have laS4 := la_cr eS4 (by decide)
    have qaS4 := qa_cr eS4 (by decide)
    have f4 := HF_r eS4 (by decide)
    have l4 : LNS N LL S4 none := LNS_e hL (f4.2.1 12 (by decide)) (f4.2.1 13 (by decide)) (f4.2.1 25 (by decide)) (f4.2.1 26 (by decide)) (f4.2.1 27 (by decide)) (f4.1 13 (by decide))
    have h64 : S4.2.1 63 a0 = S.2.1 23 qq := by rw [eS4, k_rr, if_pos ⟨rfl, rfl⟩]; (try clear j67); grind [k_ii, k_ir, k_ri, k_rr, k_ai, k_ar, k_li, k_lr, k_qi, k_qr, ar_ci, ar_cl, ar_cq, la_ci, la_ca, la_cq, qa_ci, qa_ca, qa_cl, tk_link]
    have h74 : ∀ o, o ≠ a0 → S4.2.1 63 o = S.2.1 63 o := fun o ho => by rw [eS4, k_rr, if_neg (fun c => ho c.2)]
    intro z5 ez5
    refine ⟨fun c4 => ?_, fun c4 => ?_⟩
    · exact j67 _ _ _ (by exact ⟨nS4, rfl, rfl, l4, STM_e STM_rf (fun o => by rw [f4.1 13 (by decide)]), h64, h74, fun o _ => by rw [f4.2.1 25 (by decide)], f4.2.1 23 (by decide)⟩)
    · intro z7 ez7
      refine ⟨fun c5 => ?_, fun c5 => ?_⟩
      · exact j67 _ _ _ (by exact ⟨nS4, rfl, rfl, l4, STM_e STM_rf (fun o => by rw [f4.1 13 (by decide)]), h64, h74, fun o _ => by rw [f4.2.1 25 (by decide)], f4.2.1 23 (by decide)⟩)
      · intro z9 ez9
        refine ⟨fun c6 => ?_, fun c6 => ?_⟩
        · intro S11 eS11
          have nS11 : FX [12, 13, 25, 26, 27, 63] S S11 := FX_i eS11 nS4
          intro S12 eS12
          have nS12 : FX [12, 13, 25, 26, 27, 63] S S12 := FX_i eS12 nS11
          have l12 : LNS N LL S12 none := LNS_i (LNS_no (LNS_w l4 eS11) (by rw [eS11]; exact (congrFun (f4.2.1 25 (by decide)) qq).trans hl)) (by decide) eS12
          have m12 : STM (LL a0) S S12 := STM_tr (STM_e STM_rf (fun o => by rw [f4.1 13 (by decide)])) (STM_e (STM_w hp (by decide) eS11) (fun o => by rw [(HF_i eS12).1 13 (by decide)]))
          have f12 : HF [13, 14] [63] [] [] S S12 := HF_tr (HF_s f4 (by decide) (by decide) (by decide) (by decide)) (HF_tr (HF_s (HF_i eS11) (by decide) (by decide) (by decide) (by decide)) (HF_s (HF_i eS12) (by decide) (by decide) (by decide) (by decide)))
          exact j67 _ _ _ (by exact ⟨nS12, rfl, rfl, l12, m12, by rw [eS12, eS11]; exact h64, fun o ho => by rw [eS12, eS11]; exact h74 o ho, fun o _ => by rw [f12.2.1 25 (by decide)], f12.2.1 23 (by decide)⟩)
        · intro z13 ez13
          intro z14 ez14
          intro q15 eq15
          obtain rfl := ob_q nS4 (by decide) hO41_t0 ez13 eq15
          refine kmT_X1_setAlarm _ _ _ _ _ _ (fun S16 hF7 pS16 => ?_) (s5_X1_setAlarm (N := N) (LL := LL) (t9 := a0) _ _ _ (INJ_x nS4 (by decide) hI) l4 hp (by rw [f4.2.1 25 (by decide)]; exact hl) (by (try clear j67); grind [k_ii, k_ir, k_ri, k_rr, k_ai, k_ar, k_li, k_lr, k_qi, k_qr, ar_ci, ar_cl, ar_cq, la_ci, la_ca, la_cq, qa_ci, qa_ca, qa_cl, tk_link]) (by rw [f4.2.1 8 (by decide)]; exact hN8))
          have nS16 : FX [12, 13, 25, 26, 27, 63] S S16 := FX_k hF7 (by decide) nS4
          have fS16 := HF_k hF7 (INJ_x nS4 (by decide) hI) (by decide) (by decide) (by decide)
          clear hF7
          have f16 : HF [16] [12, 13, 25, 26, 27, 63] [] [] S S16 := HF_tr (HF_s f4 (by decide) (by decide) (by decide) (by decide)) (HF_s fS16 (by decide) (by decide) (by decide) (by decide))
          exact j67 _ _ _ (by exact ⟨nS16, rfl, rfl, pS16.1, STM_e STM_rf (fun o => by rw [f16.1 13 (by decide)]), by rw [fS16.2.1 63 (by decide)]; exact h64, fun o ho => by rw [fS16.2.1 63 (by decide)]; exact h74 o ho, fun o ho => by rw [pS16.2 o ho, f4.2.1 25 (by decide)], f16.2.1 23 (by decide)⟩)
