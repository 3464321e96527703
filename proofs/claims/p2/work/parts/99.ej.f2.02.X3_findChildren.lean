
set_option maxHeartbeats 400000 in
theorem sk_X3_findChildren {tk pg sc : Nat} (t0 : Nat) {S : kS} (hI : INJ S) (hO14_t0 : S.2.1 14 t0 = some tk) (hO15_t0 : S.2.1 15 t0 = some pg) (hO16_t0 : S.2.1 16 t0 = some sc) (hG : RG (vw t0 tk pg sc S)) : wT_X3_findChildren t0 S (fun S1 => FCI (vw t0 tk pg sc S) (vw t0 tk pg sc S1)) := by
  have nS : FX [] S S := FX_rf
  have fc0 : FCI (vw t0 tk pg sc S) (vw t0 tk pg sc S) := FCI_rf
  unfold wT_X3_findChildren
  refine it_rule (fun u : Nat × Int32 × kS => (FX [] S u.2.2) ∧ (t0 = u.1 ∧ FCI (vw t0 tk pg sc S) (vw t0 tk pg sc u.2.2) ∧ 0 ≤ u.2.1.toInt ∧ u.2.1.toInt ≤ 460)) (fun u => (460 - u.2.1.toInt).toNat) ?_ (by (try clear hk2); grind [k_ii, k_ir, k_ri, k_rr, k_ai, k_ar, k_li, k_lr, k_qi, k_qr, ar_ci, ar_cl, ar_cq, la_ci, la_ca, la_cq, qa_ci, qa_ca, qa_cl, tk_link, kn12, kn460, kn8064])
  rintro ⟨x0, x1, Sl2⟩ k2 hI2 hk2
  replace hI2 : (FX [] S Sl2) ∧ (t0 = x0 ∧ FCI (vw t0 tk pg sc S) (vw t0 tk pg sc Sl2) ∧ 0 ≤ x1.toInt ∧ x1.toInt ≤ 460) := hI2
  obtain ⟨nSl2, hI2⟩ := hI2
  replace hk2 : ∀ v : Nat × Int32 × kS, (FX [] S v.2.2) ∧ (t0 = v.1 ∧ FCI (vw t0 tk pg sc S) (vw t0 tk pg sc v.2.2) ∧ 0 ≤ v.2.1.toInt ∧ v.2.1.toInt ≤ 460) → (460 - v.2.1.toInt).toNat < (460 - x1.toInt).toNat → k2 v := hk2
  show wT_X3_findChildren_2 _ k2 x0 x1 Sl2
  unfold wT_X3_findChildren_2
  obtain ⟨rfl, hI2⟩ := hI2
  obtain ⟨fc, hx⟩ := hI2
  intro z1 ez1
  have d1 : z1.toInt ≤ 460 ∧ z1.toInt = (vw t0 tk pg sc S).1 11 := by rw [ez1]; exact ⟨show (vw t0 tk pg sc Sl2).1 11 ≤ 460 by rw [fc.1.1 11 (by decide)]; exact hG.2.2.2.2.2.1.2, fc.1.1 11 (by decide)⟩
  refine ⟨fun c1 => ?_, fun c1 => ?_⟩
  · exact by (try clear hk2); grind [k_ii, k_ir, k_ri, k_rr, k_ai, k_ar, k_li, k_lr, k_qi, k_qr, ar_ci, ar_cl, ar_cq, la_ci, la_ca, la_cq, qa_ci, qa_ca, qa_cl, tk_link, kn12, kn460, kn8064]
  · intro z3 ez3
    refine ⟨fun c2 => ?_, fun c2 => ?_⟩
    · exact by (try clear hk2); grind [k_ii, k_ir, k_ri, k_rr, k_ai, k_ar, k_li, k_lr, k_qi, k_qr, ar_ci, ar_cl, ar_cq, la_ci, la_ca, la_cq, qa_ci, qa_ca, qa_cl, tk_link, kn12, kn460, kn8064]
    · intro z5 ez5
      intro z6 ez6
      intro q7 eq7
      have wq7 := rd_w nSl2 (by decide) ez6 eq7
      refine ⟨by (try clear hk2); grind [k_ii, k_ir, k_ri, k_rr, k_ai, k_ar, k_li, k_lr, k_qi, k_qr, ar_ci, ar_cl, ar_cq, la_ci, la_ca, la_cq, qa_ci, qa_ca, qa_cl, tk_link, kn12, kn460, kn8064], ?_⟩
      intro z8 ez8
      replace ez8 := ez8.trans (la_rd nSl2 (by decide) (by decide) wq7)
      have q7 : (vw t0 tk pg sc Sl2).1 7 = 0 := by show (Sl2.1 7 t0).toInt = 0; rw [← ez3, show z3 = 0 by assumption]; rfl
      refine ⟨pg, ob_e nSl2 (by decide) hO15_t0 ez5, ?_⟩
      refine kmT_X5_routineNamed _ _ _ _ _ (fun S10 r10 hF3 pS10 => ?_) (sk_X5_routineNamed _ _ (INJ_x nSl2 (by decide) hI) (⟨by show 0 ≤ (vw t0 tk pg sc Sl2).1 18; rw [fc.1.1 18 (by decide)]; exact hG.2.2.1.1, by show (vw t0 tk pg sc Sl2).1 18 ≤ 12; rw [fc.1.1 18 (by decide)]; exact hG.2.2.1.2⟩))
      obtain ⟨rfl, pS10⟩ := pS10
      clear hF3
      refine ⟨fun c4 => ?_, fun c4 => ?_⟩
      · intro z12 ez12
        refine ⟨pg, ob_e nSl2 (by decide) hO15_t0 ez12, ?_⟩
        intro z14 ez14
        intro q15 eq15
        have wq15 := rd_w nSl2 (by decide) ez14 eq15
        refine ⟨by (try clear hk2); grind [k_ii, k_ir, k_ri, k_rr, k_ai, k_ar, k_li, k_lr, k_qi, k_qr, ar_ci, ar_cl, ar_cq, la_ci, la_ca, la_cq, qa_ci, qa_ca, qa_cl, tk_link, kn12, kn460, kn8064], ?_⟩
        intro z16 ez16
        replace ez16 := ez16.trans (ar_rd nSl2 (by decide) (by decide) wq15)
        intro z17 ez17
        intro q18 eq18
        have wq18 := rd_w nSl2 (by decide) ez17 eq18
        refine ⟨by (try clear hk2); grind [k_ii, k_ir, k_ri, k_rr, k_ai, k_ar, k_li, k_lr, k_qi, k_qr, ar_ci, ar_cl, ar_cq, la_ci, la_ca, la_cq, qa_ci, qa_ca, qa_cl, tk_link, kn12, kn460, kn8064], ?_⟩
        intro z19 ez19
        replace ez19 := ez19.trans (ar_rd nSl2 (by decide) (by decide) wq18)
        refine ⟨fun c5 => ?_, fun c5 => ?_⟩
        · intro z21 ez21
          refine ⟨pg, ob_e nSl2 (by decide) hO15_t0 ez21, ?_⟩
          intro z23 ez23
          intro z24 ez24
          intro q25 eq25
          have wq25 := rd_w nSl2 (by decide) ez24 eq25
          refine ⟨by (try clear hk2); grind [k_ii, k_ir, k_ri, k_rr, k_ai, k_ar, k_li, k_lr, k_qi, k_qr, ar_ci, ar_cl, ar_cq, la_ci, la_ca, la_cq, qa_ci, qa_ca, qa_cl, tk_link, kn12, kn460, kn8064], ?_⟩
          intro z26 ez26
          replace ez26 := ez26.trans (ar_rd nSl2 (by decide) (by decide) wq25)
          have e26 : z26.toInt = (vw t0 tk pg sc S).2 17 (ix x1) := by rw [ez26]; exact congrFun (fc.1.2 17 (by decide) (by decide)) (ix x1)
          have d26 : 0 ≤ z26.toInt ∧ z26.toInt ≤ 8063 := by rw [e26]; exact hG.2.2.2.2.2.2.2.2.2.2.2.2.2.2.2 (ix x1)
          intro q27 eq27
          have wq27 := rd_w nSl2 (by decide) ez23 eq27
          refine ⟨by (try clear hk2); grind [k_ii, k_ir, k_ri, k_rr, k_ai, k_ar, k_li, k_lr, k_qi, k_qr, ar_ci, ar_cl, ar_cq, la_ci, la_ca, la_cq, qa_ci, qa_ca, qa_cl, tk_link, kn12, kn460, kn8064], ?_⟩
          intro S28 eS28
          have nS28 : FX [] S S28 := FX_a eS28 nSl2
          have arS28 := ar_wr hI nSl2 (by decide) (by decide) wq27 eS28
          have fcS28 : FCI (vw t0 tk pg sc S) (vw t0 tk pg sc S28) := FCI_pt fc q7 (PT_of (t0 := t0) (tk := tk) (pg := pg) (sc := sc) eS28 arS28 d26.1) (by rw [e26]; exact (hG.1.2.2.2.2.2.2.2.2.2 (fc.2 q7).1 (ix x1) (by have e9 : ((ix x1 : Nat) : Int) = x1.toInt := kx_int x1 hx.1; rw [e9, ← d1.2]; (try clear hk2); grind [k_ii, k_ir, k_ri, k_rr, k_ai, k_ar, k_li, k_lr, k_qi, k_qr, ar_ci, ar_cl, ar_cq, la_ci, la_ca, la_cq, qa_ci, qa_ca, qa_cl, tk_link, kn12, kn460, kn8064])).2.2) d26.1 ⟨by (try clear hk2); grind [k_ii, k_ir, k_ri, k_rr, k_ai, k_ar, k_li, k_lr, k_qi, k_qr, ar_ci, ar_cl, ar_cq, la_ci, la_ca, la_cq, qa_ci, qa_ca, qa_cl, tk_link, kn12, kn460, kn8064], by have w9 : (Sl2.1 18 pg).toInt = (vw t0 tk pg sc S).1 18 := fc.1.1 18 (by decide); have w8 : 0 ≤ r10.toInt := (by (try clear hk2); grind [k_ii, k_ir, k_ri, k_rr, k_ai, k_ar, k_li, k_lr, k_qi, k_qr, ar_ci, ar_cl, ar_cq, la_ci, la_ca, la_cq, qa_ci, qa_ca, qa_cl, tk_link, kn12, kn460, kn8064]); rcases pS10.2.2 with w7 | w7; (rw [w7] at w8; exact absurd w8 (by decide)); (rw [← w9]; exact w7)⟩
          unfold wT_X3_findChildren_106
          intro z41 ez41
          have hrz41 : -2147483648 ≤ x1.toInt + 1 ∧ x1.toInt + 1 < 2147483648 := by (try clear hk2); grind [k_ii, k_ir, k_ri, k_rr, k_ai, k_ar, k_li, k_lr, k_qi, k_qr, ar_ci, ar_cl, ar_cq, la_ci, la_ca, la_cq, qa_ci, qa_ca, qa_cl, tk_link, kn12, kn460, kn8064]
          replace ez41 : z41.toInt = x1.toInt + 1 := w_add ez41 hrz41
          clear hrz41
          exact hk2 _ (by (try clear hk2); grind [k_ii, k_ir, k_ri, k_rr, k_ai, k_ar, k_li, k_lr, k_qi, k_qr, ar_ci, ar_cl, ar_cq, la_ci, la_ca, la_cq, qa_ci, qa_ca, qa_cl, tk_link, kn12, kn460, kn8064]) (by (try clear hk2); grind [k_ii, k_ir, k_ri, k_rr, k_ai, k_ar, k_li, k_lr, k_qi, k_qr, ar_ci, ar_cl, ar_cq, la_ci, la_ca, la_cq, qa_ci, qa_ca, qa_cl, tk_link, kn12, kn460, kn8064])
        · intro z29 ez29
          intro q30 eq30
          have wq30 := rd_w nSl2 (by decide) ez29 eq30
          refine ⟨by (try clear hk2); grind [k_ii, k_ir, k_ri, k_rr, k_ai, k_ar, k_li, k_lr, k_qi, k_qr, ar_ci, ar_cl, ar_cq, la_ci, la_ca, la_cq, qa_ci, qa_ca, qa_cl, tk_link, kn12, kn460, kn8064], ?_⟩
          intro z31 ez31
          replace ez31 := ez31.trans (ar_rd nSl2 (by decide) (by decide) wq30)
          intro z32 ez32
          intro z33 ez33
          intro S34 eS34
          have nS34 : FX [] S S34 := FX_i eS34 nSl2
          have fcS34 : FCI (vw t0 tk pg sc S) (vw t0 tk pg sc S34) := FCI_f fc q7 (vw_ci (tk := tk) (pg := pg) (sc := sc) eS34 (by decide)).1
          unfold wT_X3_findChildren_106
          intro z41 ez41
          have hrz41 : -2147483648 ≤ x1.toInt + 1 ∧ x1.toInt + 1 < 2147483648 := by (try clear hk2); grind [k_ii, k_ir, k_ri, k_rr, k_ai, k_ar, k_li, k_lr, k_qi, k_qr, ar_ci, ar_cl, ar_cq, la_ci, la_ca, la_cq, qa_ci, qa_ca, qa_cl, tk_link, kn12, kn460, kn8064]
          replace ez41 : z41.toInt = x1.toInt + 1 := w_add ez41 hrz41
          clear hrz41
          exact hk2 _ (by (try clear hk2); grind [k_ii, k_ir, k_ri, k_rr, k_ai, k_ar, k_li, k_lr, k_qi, k_qr, ar_ci, ar_cl, ar_cq, la_ci, la_ca, la_cq, qa_ci, qa_ca, qa_cl, tk_link, kn12, kn460, kn8064]) (by (try clear hk2); grind [k_ii, k_ir, k_ri, k_rr, k_ai, k_ar, k_li, k_lr, k_qi, k_qr, ar_ci, ar_cl, ar_cq, la_ci, la_ca, la_cq, qa_ci, qa_ca, qa_cl, tk_link, kn12, kn460, kn8064])
      · intro z35 ez35
        intro q36 eq36
        have wq36 := rd_w nSl2 (by decide) ez35 eq36
        refine ⟨by (try clear hk2); grind [k_ii, k_ir, k_ri, k_rr, k_ai, k_ar, k_li, k_lr, k_qi, k_qr, ar_ci, ar_cl, ar_cq, la_ci, la_ca, la_cq, qa_ci, qa_ca, qa_cl, tk_link, kn12, kn460, kn8064], ?_⟩
        intro z37 ez37
        replace ez37 := ez37.trans (ar_rd nSl2 (by decide) (by decide) wq36)
        intro z38 ez38
        intro z39 ez39
        intro S40 eS40
        have nS40 : FX [] S S40 := FX_i eS40 nSl2
        have fcS40 : FCI (vw t0 tk pg sc S) (vw t0 tk pg sc S40) := FCI_f fc q7 (vw_ci (tk := tk) (pg := pg) (sc := sc) eS40 (by decide)).1
        unfold wT_X3_findChildren_106
        intro z41 ez41
        have hrz41 : -2147483648 ≤ x1.toInt + 1 ∧ x1.toInt + 1 < 2147483648 := by (try clear hk2); grind [k_ii, k_ir, k_ri, k_rr, k_ai, k_ar, k_li, k_lr, k_qi, k_qr, ar_ci, ar_cl, ar_cq, la_ci, la_ca, la_cq, qa_ci, qa_ca, qa_cl, tk_link, kn12, kn460, kn8064]
        replace ez41 : z41.toInt = x1.toInt + 1 := w_add ez41 hrz41
        clear hrz41
        exact hk2 _ (by (try clear hk2); grind [k_ii, k_ir, k_ri, k_rr, k_ai, k_ar, k_li, k_lr, k_qi, k_qr, ar_ci, ar_cl, ar_cq, la_ci, la_ca, la_cq, qa_ci, qa_ca, qa_cl, tk_link, kn12, kn460, kn8064]) (by (try clear hk2); grind [k_ii, k_ir, k_ri, k_rr, k_ai, k_ar, k_li, k_lr, k_qi, k_qr, ar_ci, ar_cl, ar_cq, la_ci, la_ca, la_cq, qa_ci, qa_ca, qa_cl, tk_link, kn12, kn460, kn8064])
