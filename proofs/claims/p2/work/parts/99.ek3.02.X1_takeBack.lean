
set_option maxHeartbeats 400000 in
theorem sk_X1_takeBack {L U : List Nat} (t0 : Nat) (a0 : Nat) {S : kS} (hI : INJ S) (hu : CH (S.2.1 24) (S.2.1 11 t0) U) (hl : CH (S.2.1 24) (S.2.1 61 a0) L) (hn : L.Nodup) (hd0 : ∀ p, p ∈ L → p ∉ U) : wT_X1_takeBack t0 a0 S (fun S1 => CH (S1.2.1 24) (S1.2.1 11 t0) (L.reverse ++ U) ∧ (∀ x, x ∉ L → S1.2.1 24 x = S.2.1 24 x) ∧ ((∀ x, x ≠ t0 → S1.2.1 11 x = S.2.1 11 x) ∧ (∀ x, S1.2.1 61 x = if x = a0 then none else S.2.1 61 x) ∧ (∀ x, S1.2.1 62 x = if x = a0 then none else S.2.1 62 x) ∧ (∀ x, S1.2.1 63 x = if x = a0 then none else S.2.1 63 x))) := by
  have nS : FX [11, 24, 61, 62, 63] S S := FX_rf
  unfold wT_X1_takeBack
  intro z1 ez1
  refine it_rule (fun u : Nat × Nat × Option Nat × kS => (FX [11, 24, 61, 62, 63] S u.2.2.2) ∧ (t0 = u.1 ∧ a0 = u.2.1 ∧ ∃ d r, L = d ++ r ∧ CH (u.2.2.2.2.1 24) u.2.2.1 r ∧ CH (u.2.2.2.2.1 24) (u.2.2.2.2.1 11 t0) (d.reverse ++ U) ∧ (∀ x, x ∉ L → u.2.2.2.2.1 24 x = S.2.1 24 x) ∧ ((∀ x, x ≠ t0 → u.2.2.2.2.1 11 x = S.2.1 11 x) ∧ (∀ x, u.2.2.2.2.1 61 x = S.2.1 61 x) ∧ (∀ x, u.2.2.2.2.1 62 x = S.2.1 62 x) ∧ (∀ x, u.2.2.2.2.1 63 x = S.2.1 63 x)))) (fun u => (((rst L u.2.2.1 : Nat) : Int)).toNat) ?_ (by exact ⟨nS, rfl, rfl, [], L, rfl, by rw [ez1]; exact hl, hu, fun _ _ => rfl, fun _ _ => rfl, fun _ => rfl, fun _ => rfl, fun _ => rfl⟩)
  rintro ⟨x0, x1, x2, Sl5⟩ k5 hI5 hk5
  replace hI5 : (FX [11, 24, 61, 62, 63] S Sl5) ∧ (t0 = x0 ∧ a0 = x1 ∧ ∃ d r, L = d ++ r ∧ CH (Sl5.2.1 24) x2 r ∧ CH (Sl5.2.1 24) (Sl5.2.1 11 t0) (d.reverse ++ U) ∧ (∀ x, x ∉ L → Sl5.2.1 24 x = S.2.1 24 x) ∧ ((∀ x, x ≠ t0 → Sl5.2.1 11 x = S.2.1 11 x) ∧ (∀ x, Sl5.2.1 61 x = S.2.1 61 x) ∧ (∀ x, Sl5.2.1 62 x = S.2.1 62 x) ∧ (∀ x, Sl5.2.1 63 x = S.2.1 63 x))) := hI5
  obtain ⟨nSl5, hI5⟩ := hI5
  replace hk5 : ∀ v : Nat × Nat × Option Nat × kS, (FX [11, 24, 61, 62, 63] S v.2.2.2) ∧ (t0 = v.1 ∧ a0 = v.2.1 ∧ ∃ d r, L = d ++ r ∧ CH (v.2.2.2.2.1 24) v.2.2.1 r ∧ CH (v.2.2.2.2.1 24) (v.2.2.2.2.1 11 t0) (d.reverse ++ U) ∧ (∀ x, x ∉ L → v.2.2.2.2.1 24 x = S.2.1 24 x) ∧ ((∀ x, x ≠ t0 → v.2.2.2.2.1 11 x = S.2.1 11 x) ∧ (∀ x, v.2.2.2.2.1 61 x = S.2.1 61 x) ∧ (∀ x, v.2.2.2.2.1 62 x = S.2.1 62 x) ∧ (∀ x, v.2.2.2.2.1 63 x = S.2.1 63 x))) → (((rst L v.2.2.1 : Nat) : Int)).toNat < (((rst L x2 : Nat) : Int)).toNat → k5 v := hk5
  show wT_X1_takeBack_5 _ k5 x0 x1 x2 Sl5
  unfold wT_X1_takeBack_5
  obtain ⟨rfl, hI5⟩ := hI5
  obtain ⟨rfl, hI5⟩ := hI5
  obtain ⟨d, r0, hd, hc, hu5, hs24, hs5⟩ := hI5
  refine ⟨fun c1 => ?_, fun q2 c1 => ?_⟩
  · intro S3 eS3
    have nS3 : FX [11, 24, 61, 62, 63] S S3 := FX_r eS3 (by decide) nSl5
    have arS3 := ar_cr eS3 (by decide)
    have laS3 := la_cr eS3 (by decide)
    have qaS3 := qa_cr eS3 (by decide)
    have rr : r0 = [] := CH_nil (by rw [← c1]; exact hc)
    intro S4 eS4
    have nS4 : FX [11, 24, 61, 62, 63] S S4 := FX_r eS4 (by decide) nS3
    have arS4 := ar_cr eS4 (by decide)
    have laS4 := la_cr eS4 (by decide)
    have qaS4 := qa_cr eS4 (by decide)
    intro S5 eS5
    have nS5 : FX [11, 24, 61, 62, 63] S S5 := FX_r eS5 (by decide) nS4
    have arS5 := ar_cr eS5 (by decide)
    have laS5 := la_cr eS5 (by decide)
    have qaS5 := qa_cr eS5 (by decide)
    exact ⟨by rw [rr] at hd; rw [List.append_nil] at hd; rw [hd]; exact CH_eq (fun p _ => by (try clear hk5); grind [k_ii, k_ir, k_ri, k_rr, k_ai, k_ar, k_li, k_lr, k_qi, k_qr, ar_ci, ar_cl, ar_cq, la_ci, la_ca, la_cq, qa_ci, qa_ca, qa_cl, tk_link]) (show CH (Sl5.2.1 24) (S5.2.1 11 t0) (d.reverse ++ U) by rw [show S5.2.1 11 t0 = Sl5.2.1 11 t0 by (try clear hk5); grind [k_ii, k_ir, k_ri, k_rr, k_ai, k_ar, k_li, k_lr, k_qi, k_qr, ar_ci, ar_cl, ar_cq, la_ci, la_ca, la_cq, qa_ci, qa_ca, qa_cl, tk_link]]; exact hu5), fun x hx9 => (show S5.2.1 24 x = Sl5.2.1 24 x by (try clear hk5); grind [k_ii, k_ir, k_ri, k_rr, k_ai, k_ar, k_li, k_lr, k_qi, k_qr, ar_ci, ar_cl, ar_cq, la_ci, la_ca, la_cq, qa_ci, qa_ca, qa_cl, tk_link]).trans (hs24 x hx9), by (try clear hk5); grind [k_ii, k_ir, k_ri, k_rr, k_ai, k_ar, k_li, k_lr, k_qi, k_qr, ar_ci, ar_cl, ar_cq, la_ci, la_ca, la_cq, qa_ci, qa_ca, qa_cl, tk_link]⟩
  · intro z6 ez6
    obtain ⟨r, er, hr⟩ := CH_cons (show CH (Sl5.2.1 24) (some q2) r0 by rw [← c1]; exact hc)
    subst er
    intro z7 ez7
    intro S8 eS8
    have nS8 : FX [11, 24, 61, 62, 63] S S8 := FX_r eS8 (by decide) nSl5
    have arS8 := ar_cr eS8 (by decide)
    have laS8 := la_cr eS8 (by decide)
    have qaS8 := qa_cr eS8 (by decide)
    intro S9 eS9
    have nS9 : FX [11, 24, 61, 62, 63] S S9 := FX_r eS9 (by decide) nS8
    have arS9 := ar_cr eS9 (by decide)
    have laS9 := la_cr eS9 (by decide)
    have qaS9 := qa_cr eS9 (by decide)
    have e24 : ∀ x, S9.2.1 24 x = if x = q2 then z7 else Sl5.2.1 24 x := by (try clear hk5); grind [k_ii, k_ir, k_ri, k_rr, k_ai, k_ar, k_li, k_lr, k_qi, k_qr, ar_ci, ar_cl, ar_cq, la_ci, la_ca, la_cq, qa_ci, qa_ca, qa_cl, tk_link]
    have e11 : S9.2.1 11 t0 = some q2 := by (try clear hk5); grind [k_ii, k_ir, k_ri, k_rr, k_ai, k_ar, k_li, k_lr, k_qi, k_qr, ar_ci, ar_cl, ar_cq, la_ci, la_ca, la_cq, qa_ci, qa_ca, qa_cl, tk_link]
    have tbx := tb_s (g := S9.2.1 24) (z := z7) hd hn hd0 ⟨rfl, hr⟩ (by rw [ez7]; exact hu5) e24
    exact hk5 _ (by exact ⟨nS9, rfl, rfl, d ++ [q2], r, tbx.1, by rw [ez6]; exact tbx.2.1, by rw [e11]; exact tbx.2.2, fun x hx9 => (e24 x).trans (by rw [if_neg (fun h9 => hx9 (by rw [h9, hd]; exact List.mem_append_right _ (List.mem_cons_self ..)))]; exact hs24 x hx9), by (try clear hk5); grind [k_ii, k_ir, k_ri, k_rr, k_ai, k_ar, k_li, k_lr, k_qi, k_qr, ar_ci, ar_cl, ar_cq, la_ci, la_ca, la_cq, qa_ci, qa_ca, qa_cl, tk_link]⟩) (by show ((rst L z6 : Nat) : Int).toNat < ((rst L x2 : Nat) : Int).toNat; rw [rst_l tbx.1 hn (by rw [ez6]; exact tbx.2.1), rst_l hd hn hc]; simp)
