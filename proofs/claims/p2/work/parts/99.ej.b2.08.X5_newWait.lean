
set_option maxHeartbeats 400000 in
theorem sk_X5_newWait (t0 : Nat) {S : kS} (hI : INJ S) (hc : ∀ i, 0 ≤ (ar S 36 t0 i).toInt ∧ (ar S 36 t0 i).toInt ≤ 16) (hr : 0 ≤ (S.1 18 t0).toInt ∧ (S.1 18 t0).toInt ≤ 12) : wT_X5_newWait t0 S (fun S1 r => (∀ i, 0 ≤ (ar S1 36 t0 i).toInt ∧ (ar S1 36 t0 i).toInt ≤ 16) ∧ -1 ≤ r.toInt ∧ r.toInt ≤ 15 ∧ (0 ≤ r.toInt → 1 ≤ (S.1 18 t0).toInt ∧ (ar S 36 t0 ((S.1 18 t0).toInt - 1).toNat).toInt = r.toInt ∧ ∀ i : Nat, (ar S1 36 t0 i).toInt = if (i : Int) = (S.1 18 t0).toInt - 1 then r.toInt + 1 else (ar S 36 t0 i).toInt)) := by
  have nS : FX [] S S := FX_rf
  unfold wT_X5_newWait
  intro z1 ez1
  intro z2 ez2
  have hrz2 : -2147483648 ≤ z1.toInt - 1 ∧ z1.toInt - 1 < 2147483648 := by grind [k_ii, k_ir, k_ri, k_rr, k_ai, k_ar, k_li, k_lr, k_qi, k_qr, ar_ci, ar_cl, ar_cq, la_ci, la_ca, la_cq, qa_ci, qa_ca, qa_cl, tk_link, kn12]
  replace ez2 : z2.toInt = z1.toInt - 1 := w_sub ez2 hrz2
  clear hrz2
  refine ⟨fun c1 => ?_, fun c1 => ?_⟩
  · exact ⟨hc, by grind [k_ii, k_ir, k_ri, k_rr, k_ai, k_ar, k_li, k_lr, k_qi, k_qr, ar_ci, ar_cl, ar_cq, la_ci, la_ca, la_cq, qa_ci, qa_ca, qa_cl, tk_link, kn12], by grind [k_ii, k_ir, k_ri, k_rr, k_ai, k_ar, k_li, k_lr, k_qi, k_qr, ar_ci, ar_cl, ar_cq, la_ci, la_ca, la_cq, qa_ci, qa_ca, qa_cl, tk_link, kn12], fun q9 => absurd q9 (by grind [k_ii, k_ir, k_ri, k_rr, k_ai, k_ar, k_li, k_lr, k_qi, k_qr, ar_ci, ar_cl, ar_cq, la_ci, la_ca, la_cq, qa_ci, qa_ca, qa_cl, tk_link, kn12])⟩
  · intro z4 ez4
    intro q5 eq5
    have wq5 := rd_w nS (by decide) ez4 eq5
    refine ⟨by grind [k_ii, k_ir, k_ri, k_rr, k_ai, k_ar, k_li, k_lr, k_qi, k_qr, ar_ci, ar_cl, ar_cq, la_ci, la_ca, la_cq, qa_ci, qa_ca, qa_cl, tk_link, kn12], ?_⟩
    intro z6 ez6
    replace ez6 := ez6.trans (ar_rd nS (by decide) (by decide) wq5)
    have z2p : 0 ≤ z2.toInt := by grind [k_ii, k_ir, k_ri, k_rr, k_ai, k_ar, k_li, k_lr, k_qi, k_qr, ar_ci, ar_cl, ar_cq, la_ci, la_ca, la_cq, qa_ci, qa_ca, qa_cl, tk_link, kn12]
    have k2 : ((ix z2 : Nat) : Int) = (S.1 18 t0).toInt - 1 := by rw [kx_int z2 z2p]; grind [k_ii, k_ir, k_ri, k_rr, k_ai, k_ar, k_li, k_lr, k_qi, k_qr, ar_ci, ar_cl, ar_cq, la_ci, la_ca, la_cq, qa_ci, qa_ca, qa_cl, tk_link, kn12]
    have i2 : ix z2 = ((S.1 18 t0).toInt - 1).toNat := by omega
    refine ⟨fun c2 => ?_, fun c2 => ?_⟩
    · intro z8 ez8
      intro q9 eq9
      have wq9 := rd_w nS (by decide) ez8 eq9
      refine ⟨by grind [k_ii, k_ir, k_ri, k_rr, k_ai, k_ar, k_li, k_lr, k_qi, k_qr, ar_ci, ar_cl, ar_cq, la_ci, la_ca, la_cq, qa_ci, qa_ca, qa_cl, tk_link, kn12], ?_⟩
      intro z10 ez10
      replace ez10 := ez10.trans (ar_rd nS (by decide) (by decide) wq9)
      intro z11 ez11
      have hrz11 : -2147483648 ≤ z10.toInt + 1 ∧ z10.toInt + 1 < 2147483648 := by grind [k_ii, k_ir, k_ri, k_rr, k_ai, k_ar, k_li, k_lr, k_qi, k_qr, ar_ci, ar_cl, ar_cq, la_ci, la_ca, la_cq, qa_ci, qa_ca, qa_cl, tk_link, kn12]
      replace ez11 : z11.toInt = z10.toInt + 1 := w_add ez11 hrz11
      clear hrz11
      refine ⟨by grind [k_ii, k_ir, k_ri, k_rr, k_ai, k_ar, k_li, k_lr, k_qi, k_qr, ar_ci, ar_cl, ar_cq, la_ci, la_ca, la_cq, qa_ci, qa_ca, qa_cl, tk_link, kn12], ?_⟩
      intro S12 eS12
      have nS12 : FX [] S S12 := FX_a eS12 nS
      have arS12 := ar_wr hI nS (by decide) (by decide) wq9 eS12
      intro z13 ez13
      intro q14 eq14
      have wq14 := rd_w nS12 (by decide) ez13 eq14
      refine ⟨by grind [k_ii, k_ir, k_ri, k_rr, k_ai, k_ar, k_li, k_lr, k_qi, k_qr, ar_ci, ar_cl, ar_cq, la_ci, la_ca, la_cq, qa_ci, qa_ca, qa_cl, tk_link, kn12], ?_⟩
      intro z15 ez15
      replace ez15 := ez15.trans (ar_rd nS12 (by decide) (by decide) wq14)
      intro z16 ez16
      have hrz16 : -2147483648 ≤ z15.toInt - 1 ∧ z15.toInt - 1 < 2147483648 := by grind [k_ii, k_ir, k_ri, k_rr, k_ai, k_ar, k_li, k_lr, k_qi, k_qr, ar_ci, ar_cl, ar_cq, la_ci, la_ca, la_cq, qa_ci, qa_ca, qa_cl, tk_link, kn12]
      replace ez16 : z16.toInt = z15.toInt - 1 := w_sub ez16 hrz16
      clear hrz16
      exact ⟨by grind [k_ii, k_ir, k_ri, k_rr, k_ai, k_ar, k_li, k_lr, k_qi, k_qr, ar_ci, ar_cl, ar_cq, la_ci, la_ca, la_cq, qa_ci, qa_ca, qa_cl, tk_link, kn12], by grind [k_ii, k_ir, k_ri, k_rr, k_ai, k_ar, k_li, k_lr, k_qi, k_qr, ar_ci, ar_cl, ar_cq, la_ci, la_ca, la_cq, qa_ci, qa_ca, qa_cl, tk_link, kn12], by grind [k_ii, k_ir, k_ri, k_rr, k_ai, k_ar, k_li, k_lr, k_qi, k_qr, ar_ci, ar_cl, ar_cq, la_ci, la_ca, la_cq, qa_ci, qa_ca, qa_cl, tk_link, kn12], fun _ => ⟨by grind [k_ii, k_ir, k_ri, k_rr, k_ai, k_ar, k_li, k_lr, k_qi, k_qr, ar_ci, ar_cl, ar_cq, la_ci, la_ca, la_cq, qa_ci, qa_ca, qa_cl, tk_link, kn12], by rw [← i2]; grind [k_ii, k_ir, k_ri, k_rr, k_ai, k_ar, k_li, k_lr, k_qi, k_qr, ar_ci, ar_cl, ar_cq, la_ci, la_ca, la_cq, qa_ci, qa_ca, qa_cl, tk_link, kn12], fun i => by rw [arS12 36 t0 i]; rcases Decidable.em (i = ix z2) with c9 | c9; (rw [if_pos ⟨rfl, rfl, c9⟩, if_pos (by rw [c9]; exact k2)]; grind [k_ii, k_ir, k_ri, k_rr, k_ai, k_ar, k_li, k_lr, k_qi, k_qr, ar_ci, ar_cl, ar_cq, la_ci, la_ca, la_cq, qa_ci, qa_ca, qa_cl, tk_link, kn12]); (rw [if_neg (fun q => c9 q.2.2), if_neg (fun q => c9 (by omega))])⟩⟩
    · exact ⟨hc, by grind [k_ii, k_ir, k_ri, k_rr, k_ai, k_ar, k_li, k_lr, k_qi, k_qr, ar_ci, ar_cl, ar_cq, la_ci, la_ca, la_cq, qa_ci, qa_ca, qa_cl, tk_link, kn12], by grind [k_ii, k_ir, k_ri, k_rr, k_ai, k_ar, k_li, k_lr, k_qi, k_qr, ar_ci, ar_cl, ar_cq, la_ci, la_ca, la_cq, qa_ci, qa_ca, qa_cl, tk_link, kn12], fun q9 => absurd q9 (by grind [k_ii, k_ir, k_ri, k_rr, k_ai, k_ar, k_li, k_lr, k_qi, k_qr, ar_ci, ar_cl, ar_cq, la_ci, la_ca, la_cq, qa_ci, qa_ca, qa_cl, tk_link, kn12])⟩
