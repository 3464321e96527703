
set_option maxHeartbeats 400000 in
theorem sk_X4_isAdrift {L : List Nat} {D : Nat → Nat} {ro : Nat} (t0 : Nat) {S : kS} (hI : INJ S) (hA : ∀ p, (p ∈ L ∨ p = t0) → (∀ q, S.2.1 23 p = some q → q ∈ L ∧ D p = D q + 1) ∧ (S.2.1 23 p = none → p = ro)) : wT_X4_isAdrift t0 S (fun S1 r => S = S1 ∧ (r = 0 → t0 = ro ∨ S.1 13 ro = 0) ∧ (S.2.1 23 t0 = none → r = 0)) := by
  have nS : FX [] S S := FX_rf
  unfold wT_X4_isAdrift
  intro z1 ez1
  refine it_rule (fun u : Option Nat × kS => (FX [] S u.2) ∧ (S = u.2 ∧ (∀ q, u.1 = some q → q ∈ L) ∧ (u.1 = none → t0 = ro ∨ S.1 13 ro = 0) ∧ (S.2.1 23 t0 = none → u.1 = none))) (fun u => (((dpx D u.1 : Nat) : Int)).toNat) ?_ (by exact ⟨nS, rfl, fun q hq => ((hA t0 (Or.inr rfl)).1 q (ez1.symm.trans hq)).1, fun hq => Or.inl ((hA t0 (Or.inr rfl)).2 (ez1.symm.trans hq)), fun hq => ez1.trans hq⟩)
  rintro ⟨x1, Sl5⟩ k5 hI5 hk5
  replace hI5 : (FX [] S Sl5) ∧ (S = Sl5 ∧ (∀ q, x1 = some q → q ∈ L) ∧ (x1 = none → t0 = ro ∨ S.1 13 ro = 0) ∧ (S.2.1 23 t0 = none → x1 = none)) := hI5
  obtain ⟨nSl5, hI5⟩ := hI5
  replace hk5 : ∀ v : Option Nat × kS, (FX [] S v.2) ∧ (S = v.2 ∧ (∀ q, v.1 = some q → q ∈ L) ∧ (v.1 = none → t0 = ro ∨ S.1 13 ro = 0) ∧ (S.2.1 23 t0 = none → v.1 = none)) → (((dpx D v.1 : Nat) : Int)).toNat < (((dpx D x1 : Nat) : Int)).toNat → k5 v := hk5
  show wT_X4_isAdrift_5 _ k5 x1 Sl5
  unfold wT_X4_isAdrift_5
  obtain ⟨rfl, hI5⟩ := hI5
  obtain ⟨hI5, hJ5⟩ := hI5
  refine ⟨fun c1 => ?_, fun q2 c1 => ?_⟩
  · exact by (try clear hk5); grind [k_ii, k_ir, k_ri, k_rr, k_ai, k_ar, k_li, k_lr, k_qi, k_qr, ar_ci, ar_cl, ar_cq, la_ci, la_ca, la_cq, qa_ci, qa_ca, qa_cl, tk_link]
  · intro z3 ez3
    refine ⟨fun c2 => ?_, fun c2 => ?_⟩
    · intro z5 ez5
      have m5 : dpx D z5 < dpx D x1 := by rw [c1]; exact dpx_s (fun p hp => ((hA q2 (Or.inl (hI5 q2 c1))).1 p (ez5.symm.trans hp)).2)
      have h51 : ∀ q, z5 = some q → q ∈ L := fun q hq => ((hA q2 (Or.inl (hI5 q2 c1))).1 q (ez5.symm.trans hq)).1
      have h52 : z5 = none → q2 = ro := fun hq => (hA q2 (Or.inl (hI5 q2 c1))).2 (ez5.symm.trans hq)
      exact hk5 _ (by (try clear hk5); grind [k_ii, k_ir, k_ri, k_rr, k_ai, k_ar, k_li, k_lr, k_qi, k_qr, ar_ci, ar_cl, ar_cq, la_ci, la_ca, la_cq, qa_ci, qa_ca, qa_cl, tk_link]) (by (try clear hk5); grind [k_ii, k_ir, k_ri, k_rr, k_ai, k_ar, k_li, k_lr, k_qi, k_qr, ar_ci, ar_cl, ar_cq, la_ci, la_ca, la_cq, qa_ci, qa_ca, qa_cl, tk_link])
    · exact by (try clear hk5); grind [k_ii, k_ir, k_ri, k_rr, k_ai, k_ar, k_li, k_lr, k_qi, k_qr, ar_ci, ar_cl, ar_cq, la_ci, la_ca, la_cq, qa_ci, qa_ca, qa_cl, tk_link]
