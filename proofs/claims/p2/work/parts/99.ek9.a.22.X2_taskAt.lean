
set_option maxHeartbeats 400000 in
theorem sk_X2_taskAt {Q : List Nat} (t0 : Nat) (a0 : Int32) {S : kS} (hI : INJ S) (hw : LWK S t0 Q) : wT_X2_taskAt t0 a0 S (fun S1 r => S = S1) := by
  have nS : FX [] S S := FX_rf
  obtain ⟨hw1, hw2⟩ := hw
  unfold wT_X2_taskAt
  refine ⟨fun c1 => ?_, fun c1 => ?_⟩
  · intro z2 ez2
    unfold wT_X2_taskAt_12
    refine it_rule (fun u : Int32 × Option Nat × Int32 × kS => (FX [] S u.2.2.2) ∧ (S = u.2.2.2 ∧ a0 = u.1 ∧ (∀ q, u.2.1 = some q → q ∈ Q) ∧ 0 ≤ u.2.2.1.toInt ∧ (u.2.2.1.toInt ≤ a0.toInt ∨ u.2.2.1 = 0))) (fun u => (a0.toInt - u.2.2.1.toInt).toNat) ?_ (by (try clear hk15); grind [k_ii, k_ir, k_ri, k_rr, k_ai, k_ar, k_li, k_lr, k_qi, k_qr, ar_ci, ar_cl, ar_cq, la_ci, la_ca, la_cq, qa_ci, qa_ca, qa_cl, tk_link])
    rintro ⟨x1, x2, x3, Sl15⟩ k15 hI15 hk15
    replace hI15 : (FX [] S Sl15) ∧ (S = Sl15 ∧ a0 = x1 ∧ (∀ q, x2 = some q → q ∈ Q) ∧ 0 ≤ x3.toInt ∧ (x3.toInt ≤ a0.toInt ∨ x3 = 0)) := hI15
    obtain ⟨nSl15, hI15⟩ := hI15
    replace hk15 : ∀ v : Int32 × Option Nat × Int32 × kS, (FX [] S v.2.2.2) ∧ (S = v.2.2.2 ∧ a0 = v.1 ∧ (∀ q, v.2.1 = some q → q ∈ Q) ∧ 0 ≤ v.2.2.1.toInt ∧ (v.2.2.1.toInt ≤ a0.toInt ∨ v.2.2.1 = 0)) → (a0.toInt - v.2.2.1.toInt).toNat < (a0.toInt - x3.toInt).toNat → k15 v := hk15
    show wT_X2_taskAt_15 _ k15 x1 x2 x3 Sl15
    unfold wT_X2_taskAt_15
    obtain ⟨rfl, hI15⟩ := hI15
    obtain ⟨rfl, hI15⟩ := hI15
    refine ⟨fun c2 => ?_, fun c2 => ?_⟩
    · unfold wT_X2_taskAt_35
      refine ⟨fun c3 => ?_, fun q7 c3 => ?_⟩
      · exact by (try clear hk15); grind [k_ii, k_ir, k_ri, k_rr, k_ai, k_ar, k_li, k_lr, k_qi, k_qr, ar_ci, ar_cl, ar_cq, la_ci, la_ca, la_cq, qa_ci, qa_ca, qa_cl, tk_link]
      · intro z8 ez8
        obtain ⟨t8, e8⟩ := (hw2 q7 (by (try clear hk15); grind [k_ii, k_ir, k_ri, k_rr, k_ai, k_ar, k_li, k_lr, k_qi, k_qr, ar_ci, ar_cl, ar_cq, la_ci, la_ca, la_cq, qa_ci, qa_ca, qa_cl, tk_link])).2
        refine ⟨t8, by (try clear hk15); grind [k_ii, k_ir, k_ri, k_rr, k_ai, k_ar, k_li, k_lr, k_qi, k_qr, ar_ci, ar_cl, ar_cq, la_ci, la_ca, la_cq, qa_ci, qa_ca, qa_cl, tk_link], ?_⟩
        intro z10 ez10
        exact by (try clear hk15); grind [k_ii, k_ir, k_ri, k_rr, k_ai, k_ar, k_li, k_lr, k_qi, k_qr, ar_ci, ar_cl, ar_cq, la_ci, la_ca, la_cq, qa_ci, qa_ca, qa_cl, tk_link]
    · refine ⟨fun c4 => ?_, fun q4 c4 => ?_⟩
      · unfold wT_X2_taskAt_35
        refine ⟨fun c5 => ?_, fun q7 c5 => ?_⟩
        · exact by (try clear hk15); grind [k_ii, k_ir, k_ri, k_rr, k_ai, k_ar, k_li, k_lr, k_qi, k_qr, ar_ci, ar_cl, ar_cq, la_ci, la_ca, la_cq, qa_ci, qa_ca, qa_cl, tk_link]
        · intro z8 ez8
          obtain ⟨t8, e8⟩ := (hw2 q7 (by (try clear hk15); grind [k_ii, k_ir, k_ri, k_rr, k_ai, k_ar, k_li, k_lr, k_qi, k_qr, ar_ci, ar_cl, ar_cq, la_ci, la_ca, la_cq, qa_ci, qa_ca, qa_cl, tk_link])).2
          refine ⟨t8, by (try clear hk15); grind [k_ii, k_ir, k_ri, k_rr, k_ai, k_ar, k_li, k_lr, k_qi, k_qr, ar_ci, ar_cl, ar_cq, la_ci, la_ca, la_cq, qa_ci, qa_ca, qa_cl, tk_link], ?_⟩
          intro z10 ez10
          exact by (try clear hk15); grind [k_ii, k_ir, k_ri, k_rr, k_ai, k_ar, k_li, k_lr, k_qi, k_qr, ar_ci, ar_cl, ar_cq, la_ci, la_ca, la_cq, qa_ci, qa_ca, qa_cl, tk_link]
      · intro z5 ez5
        have w5 := (hw2 q4 (hI15.1 q4 c4)).1
        intro z6 ez6
        have hrz6 : -2147483648 ≤ x3.toInt + 1 ∧ x3.toInt + 1 < 2147483648 := by (try clear hk15); grind [k_ii, k_ir, k_ri, k_rr, k_ai, k_ar, k_li, k_lr, k_qi, k_qr, ar_ci, ar_cl, ar_cq, la_ci, la_ca, la_cq, qa_ci, qa_ca, qa_cl, tk_link]
        replace ez6 : z6.toInt = x3.toInt + 1 := w_add ez6 hrz6
        clear hrz6
        exact hk15 _ (by (try clear hk15); grind [k_ii, k_ir, k_ri, k_rr, k_ai, k_ar, k_li, k_lr, k_qi, k_qr, ar_ci, ar_cl, ar_cq, la_ci, la_ca, la_cq, qa_ci, qa_ca, qa_cl, tk_link]) (by (try clear hk15); grind [k_ii, k_ir, k_ri, k_rr, k_ai, k_ar, k_li, k_lr, k_qi, k_qr, ar_ci, ar_cl, ar_cq, la_ci, la_ca, la_cq, qa_ci, qa_ca, qa_cl, tk_link])
  · unfold wT_X2_taskAt_12
    refine it_rule (fun u : Int32 × Option Nat × Int32 × kS => (FX [] S u.2.2.2) ∧ (S = u.2.2.2 ∧ a0 = u.1 ∧ (∀ q, u.2.1 = some q → q ∈ Q) ∧ 0 ≤ u.2.2.1.toInt ∧ (u.2.2.1.toInt ≤ a0.toInt ∨ u.2.2.1 = 0))) (fun u => (a0.toInt - u.2.2.1.toInt).toNat) ?_ (by (try clear hk15); grind [k_ii, k_ir, k_ri, k_rr, k_ai, k_ar, k_li, k_lr, k_qi, k_qr, ar_ci, ar_cl, ar_cq, la_ci, la_ca, la_cq, qa_ci, qa_ca, qa_cl, tk_link])
    rintro ⟨x1, x2, x3, Sl15⟩ k15 hI15 hk15
    replace hI15 : (FX [] S Sl15) ∧ (S = Sl15 ∧ a0 = x1 ∧ (∀ q, x2 = some q → q ∈ Q) ∧ 0 ≤ x3.toInt ∧ (x3.toInt ≤ a0.toInt ∨ x3 = 0)) := hI15
    obtain ⟨nSl15, hI15⟩ := hI15
    replace hk15 : ∀ v : Int32 × Option Nat × Int32 × kS, (FX [] S v.2.2.2) ∧ (S = v.2.2.2 ∧ a0 = v.1 ∧ (∀ q, v.2.1 = some q → q ∈ Q) ∧ 0 ≤ v.2.2.1.toInt ∧ (v.2.2.1.toInt ≤ a0.toInt ∨ v.2.2.1 = 0)) → (a0.toInt - v.2.2.1.toInt).toNat < (a0.toInt - x3.toInt).toNat → k15 v := hk15
    show wT_X2_taskAt_15 _ k15 x1 x2 x3 Sl15
    unfold wT_X2_taskAt_15
    obtain ⟨rfl, hI15⟩ := hI15
    obtain ⟨rfl, hI15⟩ := hI15
    refine ⟨fun c6 => ?_, fun c6 => ?_⟩
    · unfold wT_X2_taskAt_35
      refine ⟨fun c7 => ?_, fun q7 c7 => ?_⟩
      · exact by (try clear hk15); grind [k_ii, k_ir, k_ri, k_rr, k_ai, k_ar, k_li, k_lr, k_qi, k_qr, ar_ci, ar_cl, ar_cq, la_ci, la_ca, la_cq, qa_ci, qa_ca, qa_cl, tk_link]
      · intro z8 ez8
        obtain ⟨t8, e8⟩ := (hw2 q7 (by (try clear hk15); grind [k_ii, k_ir, k_ri, k_rr, k_ai, k_ar, k_li, k_lr, k_qi, k_qr, ar_ci, ar_cl, ar_cq, la_ci, la_ca, la_cq, qa_ci, qa_ca, qa_cl, tk_link])).2
        refine ⟨t8, by (try clear hk15); grind [k_ii, k_ir, k_ri, k_rr, k_ai, k_ar, k_li, k_lr, k_qi, k_qr, ar_ci, ar_cl, ar_cq, la_ci, la_ca, la_cq, qa_ci, qa_ca, qa_cl, tk_link], ?_⟩
        intro z10 ez10
        exact by (try clear hk15); grind [k_ii, k_ir, k_ri, k_rr, k_ai, k_ar, k_li, k_lr, k_qi, k_qr, ar_ci, ar_cl, ar_cq, la_ci, la_ca, la_cq, qa_ci, qa_ca, qa_cl, tk_link]
    · refine ⟨fun c8 => ?_, fun q4 c8 => ?_⟩
      · unfold wT_X2_taskAt_35
        refine ⟨fun c9 => ?_, fun q7 c9 => ?_⟩
        · exact by (try clear hk15); grind [k_ii, k_ir, k_ri, k_rr, k_ai, k_ar, k_li, k_lr, k_qi, k_qr, ar_ci, ar_cl, ar_cq, la_ci, la_ca, la_cq, qa_ci, qa_ca, qa_cl, tk_link]
        · intro z8 ez8
          obtain ⟨t8, e8⟩ := (hw2 q7 (by (try clear hk15); grind [k_ii, k_ir, k_ri, k_rr, k_ai, k_ar, k_li, k_lr, k_qi, k_qr, ar_ci, ar_cl, ar_cq, la_ci, la_ca, la_cq, qa_ci, qa_ca, qa_cl, tk_link])).2
          refine ⟨t8, by (try clear hk15); grind [k_ii, k_ir, k_ri, k_rr, k_ai, k_ar, k_li, k_lr, k_qi, k_qr, ar_ci, ar_cl, ar_cq, la_ci, la_ca, la_cq, qa_ci, qa_ca, qa_cl, tk_link], ?_⟩
          intro z10 ez10
          exact by (try clear hk15); grind [k_ii, k_ir, k_ri, k_rr, k_ai, k_ar, k_li, k_lr, k_qi, k_qr, ar_ci, ar_cl, ar_cq, la_ci, la_ca, la_cq, qa_ci, qa_ca, qa_cl, tk_link]
      · intro z5 ez5
        have w5 := (hw2 q4 (hI15.1 q4 c8)).1
        intro z6 ez6
        have hrz6 : -2147483648 ≤ x3.toInt + 1 ∧ x3.toInt + 1 < 2147483648 := by (try clear hk15); grind [k_ii, k_ir, k_ri, k_rr, k_ai, k_ar, k_li, k_lr, k_qi, k_qr, ar_ci, ar_cl, ar_cq, la_ci, la_ca, la_cq, qa_ci, qa_ca, qa_cl, tk_link]
        replace ez6 : z6.toInt = x3.toInt + 1 := w_add ez6 hrz6
        clear hrz6
        exact hk15 _ (by (try clear hk15); grind [k_ii, k_ir, k_ri, k_rr, k_ai, k_ar, k_li, k_lr, k_qi, k_qr, ar_ci, ar_cl, ar_cq, la_ci, la_ca, la_cq, qa_ci, qa_ca, qa_cl, tk_link]) (by (try clear hk15); grind [k_ii, k_ir, k_ri, k_rr, k_ai, k_ar, k_li, k_lr, k_qi, k_qr, ar_ci, ar_cl, ar_cq, la_ci, la_ca, la_cq, qa_ci, qa_ca, qa_cl, tk_link])
