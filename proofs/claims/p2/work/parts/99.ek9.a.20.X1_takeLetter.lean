
set_option maxHeartbeats 400000 in
theorem sk_X1_takeLetter (t0 : Nat) (a0 : Int32) {S : kS} (hI : INJ S) (hl : LTS S t0) (ha : 0 ≤ a0.toInt ∧ a0.toInt < 8) (hc : 0 < (ar S 6 t0 (ix a0)).toInt) : wT_X1_takeLetter t0 a0 S (fun S1 r => LTS S1 t0) := by
  have nS : FX [] S S := FX_rf
  have i8 : ix a0 < 8 := jix_lt (n := 8) ha.1 ha.2
  have l0 := hl (ix a0) i8
  unfold wT_X1_takeLetter
  intro z1 ez1
  have hrz1 : -100000 ≤ a0.toInt ∧ a0.toInt ≤ 100000 := by (try clear hk25); grind [k_ii, k_ir, k_ri, k_rr, k_ai, k_ar, k_li, k_lr, k_qi, k_qr, ar_ci, ar_cl, ar_cq, la_ci, la_ca, la_cq, qa_ci, qa_ca, qa_cl, tk_link, kn400, kn8]
  replace ez1 : z1.toInt = 50 * a0.toInt := w_mc ez1 rfl (by decide) hrz1
  intro z2 ez2
  intro q3 eq3
  have wq3 := rd_w nS (by decide) ez2 eq3
  refine ⟨by (try clear hk25); grind [k_ii, k_ir, k_ri, k_rr, k_ai, k_ar, k_li, k_lr, k_qi, k_qr, ar_ci, ar_cl, ar_cq, la_ci, la_ca, la_cq, qa_ci, qa_ca, qa_cl, tk_link, kn400, kn8], ?_⟩
  intro z4 ez4
  replace ez4 := ez4.trans (ar_rd nS (by decide) (by decide) wq3)
  intro z5 ez5
  intro q6 eq6
  have wq6 := rd_w nS (by decide) ez5 eq6
  refine ⟨by (try clear hk25); grind [k_ii, k_ir, k_ri, k_rr, k_ai, k_ar, k_li, k_lr, k_qi, k_qr, ar_ci, ar_cl, ar_cq, la_ci, la_ca, la_cq, qa_ci, qa_ca, qa_cl, tk_link, kn400, kn8], ?_⟩
  intro z7 ez7
  replace ez7 := ez7.trans (ar_rd nS (by decide) (by decide) wq6)
  intro z8 ez8
  have hrz8 : -2147483648 ≤ z7.toInt - 1 ∧ z7.toInt - 1 < 2147483648 := by (try clear hk25); grind [k_ii, k_ir, k_ri, k_rr, k_ai, k_ar, k_li, k_lr, k_qi, k_qr, ar_ci, ar_cl, ar_cq, la_ci, la_ca, la_cq, qa_ci, qa_ca, qa_cl, tk_link, kn400, kn8]
  replace ez8 : z8.toInt = z7.toInt - 1 := w_sub ez8 hrz8
  clear hrz8
  refine ⟨by (try clear hk25); grind [k_ii, k_ir, k_ri, k_rr, k_ai, k_ar, k_li, k_lr, k_qi, k_qr, ar_ci, ar_cl, ar_cq, la_ci, la_ca, la_cq, qa_ci, qa_ca, qa_cl, tk_link, kn400, kn8], ?_⟩
  intro S9 eS9
  have nS9 : FX [] S S9 := FX_a eS9 nS
  have arS9 := ar_wr hI nS (by decide) (by decide) wq6 eS9
  have l9 : LTS S9 t0 := LTS_u (k := ix a0) (v := z8) hl (by (try clear hk25); grind [k_ii, k_ir, k_ri, k_rr, k_ai, k_ar, k_li, k_lr, k_qi, k_qr, ar_ci, ar_cl, ar_cq, la_ci, la_ca, la_cq, qa_ci, qa_ca, qa_cl, tk_link, kn400, kn8]) (fun j => by rw [arS9 6 t0 j]; rcases Decidable.em (j = ix a0) with c9 | c9; (rw [if_pos ⟨rfl, rfl, c9⟩, if_pos c9]); (rw [if_neg (fun q => c9 q.2.2), if_neg c9]))
  refine it_rule (fun u : Nat × Int32 × Int32 × Int32 × Int32 × kS => (FX [] S u.2.2.2.2.2) ∧ (t0 = u.1 ∧ a0 = u.2.1 ∧ z1 = u.2.2.1 ∧ LTS u.2.2.2.2.2 t0 ∧ (ar u.2.2.2.2.2 6 t0 (ix a0)).toInt ≤ 49 ∧ 0 ≤ u.2.2.2.2.1.toInt ∧ u.2.2.2.2.1.toInt ≤ 50)) (fun u => (50 - u.2.2.2.2.1.toInt).toNat) ?_ (by (try clear hk25); grind [k_ii, k_ir, k_ri, k_rr, k_ai, k_ar, k_li, k_lr, k_qi, k_qr, ar_ci, ar_cl, ar_cq, la_ci, la_ca, la_cq, qa_ci, qa_ca, qa_cl, tk_link, kn400, kn8])
  rintro ⟨x0, x1, x2, x3, x4, Sl25⟩ k25 hI25 hk25
  replace hI25 : (FX [] S Sl25) ∧ (t0 = x0 ∧ a0 = x1 ∧ z1 = x2 ∧ LTS Sl25 t0 ∧ (ar Sl25 6 t0 (ix a0)).toInt ≤ 49 ∧ 0 ≤ x4.toInt ∧ x4.toInt ≤ 50) := hI25
  obtain ⟨nSl25, hI25⟩ := hI25
  replace hk25 : ∀ v : Nat × Int32 × Int32 × Int32 × Int32 × kS, (FX [] S v.2.2.2.2.2) ∧ (t0 = v.1 ∧ a0 = v.2.1 ∧ z1 = v.2.2.1 ∧ LTS v.2.2.2.2.2 t0 ∧ (ar v.2.2.2.2.2 6 t0 (ix a0)).toInt ≤ 49 ∧ 0 ≤ v.2.2.2.2.1.toInt ∧ v.2.2.2.2.1.toInt ≤ 50) → (50 - v.2.2.2.2.1.toInt).toNat < (50 - x4.toInt).toNat → k25 v := hk25
  show wT_X1_takeLetter_25 _ k25 x0 x1 x2 x3 x4 Sl25
  unfold wT_X1_takeLetter_25
  obtain ⟨rfl, hI25⟩ := hI25
  obtain ⟨rfl, hI25⟩ := hI25
  obtain ⟨rfl, hI25⟩ := hI25
  obtain ⟨lx, k0, k1, k2⟩ := hI25
  have l25 := lx (ix a0) i8
  intro z10 ez10
  intro q11 eq11
  have wq11 := rd_w nSl25 (by decide) ez10 eq11
  refine ⟨by (try clear hk25); grind [k_ii, k_ir, k_ri, k_rr, k_ai, k_ar, k_li, k_lr, k_qi, k_qr, ar_ci, ar_cl, ar_cq, la_ci, la_ca, la_cq, qa_ci, qa_ca, qa_cl, tk_link, kn400, kn8], ?_⟩
  intro z12 ez12
  replace ez12 := ez12.trans (ar_rd nSl25 (by decide) (by decide) wq11)
  refine ⟨fun c1 => ?_, fun c1 => ?_⟩
  · exact by (try clear hk25); grind [k_ii, k_ir, k_ri, k_rr, k_ai, k_ar, k_li, k_lr, k_qi, k_qr, ar_ci, ar_cl, ar_cq, la_ci, la_ca, la_cq, qa_ci, qa_ca, qa_cl, tk_link, kn400, kn8]
  · intro z14 ez14
    intro z15 ez15
    have hrz15 : -2147483648 ≤ z1.toInt + x4.toInt ∧ z1.toInt + x4.toInt < 2147483648 := by (try clear hk25); grind [k_ii, k_ir, k_ri, k_rr, k_ai, k_ar, k_li, k_lr, k_qi, k_qr, ar_ci, ar_cl, ar_cq, la_ci, la_ca, la_cq, qa_ci, qa_ca, qa_cl, tk_link, kn400, kn8]
    replace ez15 : z15.toInt = z1.toInt + x4.toInt := w_add ez15 hrz15
    clear hrz15
    intro z16 ez16
    intro z17 ez17
    have hrz17 : -2147483648 ≤ z1.toInt + x4.toInt ∧ z1.toInt + x4.toInt < 2147483648 := by (try clear hk25); grind [k_ii, k_ir, k_ri, k_rr, k_ai, k_ar, k_li, k_lr, k_qi, k_qr, ar_ci, ar_cl, ar_cq, la_ci, la_ca, la_cq, qa_ci, qa_ca, qa_cl, tk_link, kn400, kn8]
    replace ez17 : z17.toInt = z1.toInt + x4.toInt := w_add ez17 hrz17
    clear hrz17
    intro z18 ez18
    have hrz18 : -2147483648 ≤ z17.toInt + 1 ∧ z17.toInt + 1 < 2147483648 := by (try clear hk25); grind [k_ii, k_ir, k_ri, k_rr, k_ai, k_ar, k_li, k_lr, k_qi, k_qr, ar_ci, ar_cl, ar_cq, la_ci, la_ca, la_cq, qa_ci, qa_ca, qa_cl, tk_link, kn400, kn8]
    replace ez18 : z18.toInt = z17.toInt + 1 := w_add ez18 hrz18
    clear hrz18
    intro q19 eq19
    have wq19 := rd_w nSl25 (by decide) ez16 eq19
    refine ⟨by (try clear hk25); grind [k_ii, k_ir, k_ri, k_rr, k_ai, k_ar, k_li, k_lr, k_qi, k_qr, ar_ci, ar_cl, ar_cq, la_ci, la_ca, la_cq, qa_ci, qa_ca, qa_cl, tk_link, kn400, kn8], ?_⟩
    intro z20 ez20
    replace ez20 := ez20.trans (ar_rd nSl25 (by decide) (by decide) wq19)
    intro q21 eq21
    have wq21 := rd_w nSl25 (by decide) ez14 eq21
    refine ⟨by (try clear hk25); grind [k_ii, k_ir, k_ri, k_rr, k_ai, k_ar, k_li, k_lr, k_qi, k_qr, ar_ci, ar_cl, ar_cq, la_ci, la_ca, la_cq, qa_ci, qa_ca, qa_cl, tk_link, kn400, kn8], ?_⟩
    intro S22 eS22
    have nS22 : FX [] S S22 := FX_a eS22 nSl25
    have arS22 := ar_wr hI nSl25 (by decide) (by decide) wq21 eS22
    have l22 : LTS S22 t0 := LTS_e lx ((HF_a eS22 arS22).2.2.1 6 (by decide))
    intro z23 ez23
    have hrz23 : -2147483648 ≤ x4.toInt + 1 ∧ x4.toInt + 1 < 2147483648 := by (try clear hk25); grind [k_ii, k_ir, k_ri, k_rr, k_ai, k_ar, k_li, k_lr, k_qi, k_qr, ar_ci, ar_cl, ar_cq, la_ci, la_ca, la_cq, qa_ci, qa_ca, qa_cl, tk_link, kn400, kn8]
    replace ez23 : z23.toInt = x4.toInt + 1 := w_add ez23 hrz23
    clear hrz23
    exact hk25 _ (by (try clear hk25); grind [k_ii, k_ir, k_ri, k_rr, k_ai, k_ar, k_li, k_lr, k_qi, k_qr, ar_ci, ar_cl, ar_cq, la_ci, la_ca, la_cq, qa_ci, qa_ca, qa_cl, tk_link, kn400, kn8]) (by (try clear hk25); grind [k_ii, k_ir, k_ri, k_rr, k_ai, k_ar, k_li, k_lr, k_qi, k_qr, ar_ci, ar_cl, ar_cq, la_ci, la_ca, la_cq, qa_ci, qa_ca, qa_cl, tk_link, kn400, kn8])
