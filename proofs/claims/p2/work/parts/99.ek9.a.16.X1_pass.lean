
set_option maxHeartbeats 400000 in
theorem sk_X1_pass {N T G : Nat → Prop} {U : List Nat} {L : Nat → List Nat} {D : Nat → Nat} {P : Nat → Int32} (t0 : Nat) (a0 : Int32) {S : kS} (hI : INJ S) (h5 : (S.1 5 t0).toInt = 0) (hH : HI t0 N T G U L D P S) (hg : ∀ u, G u) (hN8 : ∀ l, S.2.1 8 t0 = some l → N l) : wT_X1_pass t0 a0 S (fun S1 => HI t0 N T G U L D P S1 ∧ (S1.1 5 t0).toInt = 0 ∧ K3 S S1) := by
  have nS : FX [12, 13, 25, 26, 27] S S := FX_rf
  unfold wT_X1_pass
  intro z1 ez1
  intro z2 ez2
  refine it_rule (fun u : Nat × Int32 × Int32 × kS => (FX [12, 13, 25, 26, 27] S u.2.2.2) ∧ (t0 = u.1 ∧ z2 = u.2.1 ∧ HI t0 N T G U L D P u.2.2.2 ∧ (u.2.2.2.1 5 t0).toInt = 0 ∧ 0 ≤ u.2.2.1.toInt ∧ u.2.2.1.toInt ≤ 1000000 ∧ K3 S u.2.2.2)) (fun u => (1000000 - u.2.2.1.toInt).toNat) ?_ (by exact ⟨nS, rfl, rfl, hH, h5, (show (0 : Int) ≤ (0 : Int32).toInt by decide), (show (0 : Int32).toInt ≤ 1000000 by decide), K3_rf⟩)
  rintro ⟨x0, x2, x3, Sl9⟩ k9 hI9 hk9
  replace hI9 : (FX [12, 13, 25, 26, 27] S Sl9) ∧ (t0 = x0 ∧ z2 = x2 ∧ HI t0 N T G U L D P Sl9 ∧ (Sl9.1 5 t0).toInt = 0 ∧ 0 ≤ x3.toInt ∧ x3.toInt ≤ 1000000 ∧ K3 S Sl9) := hI9
  obtain ⟨nSl9, hI9⟩ := hI9
  replace hk9 : ∀ v : Nat × Int32 × Int32 × kS, (FX [12, 13, 25, 26, 27] S v.2.2.2) ∧ (t0 = v.1 ∧ z2 = v.2.1 ∧ HI t0 N T G U L D P v.2.2.2 ∧ (v.2.2.2.1 5 t0).toInt = 0 ∧ 0 ≤ v.2.2.1.toInt ∧ v.2.2.1.toInt ≤ 1000000 ∧ K3 S v.2.2.2) → (1000000 - v.2.2.1.toInt).toNat < (1000000 - x3.toInt).toNat → k9 v := hk9
  show wT_X1_pass_9 _ k9 x0 x2 x3 Sl9
  unfold wT_X1_pass_9
  obtain ⟨rfl, hI9⟩ := hI9
  obtain ⟨rfl, hI9⟩ := hI9
  obtain ⟨hx, x5, k0, k1, k3⟩ := hI9
  refine ⟨fun c1 => ?_, fun c1 => ?_⟩
  · intro S4 eS4
    have nS4 : FX [12, 13, 25, 26, 27] S S4 := FX_i eS4 nSl9
    have h4 := HI_i hx eS4 (by decide)
    exact ⟨h4, by rw [(HF_i eS4).1 5 (by decide)]; exact x5, K3_tr k3 (K3_f (HF_i eS4) (by decide))⟩
  · intro z5 ez5
    intro q6 eq6
    have wq6 := rd_w nSl9 (by decide) ez5 eq6
    intro z7 ez7
    have n6 := hN8 q6 wq6
    refine ⟨fun c2 => ?_, fun q8 c2 => ?_⟩
    · intro S9 eS9
      have nS9 : FX [12, 13, 25, 26, 27] S S9 := FX_i eS9 nSl9
      have h9 := HI_i hx eS9 (by decide)
      exact ⟨h9, by rw [(HF_i eS9).1 5 (by decide)]; exact x5, K3_tr k3 (K3_f (HF_i eS9) (by decide))⟩
    · intro z10 ez10
      obtain ⟨⟨u9, m9⟩, s90⟩ := LNS_first hx.2.2.1 n6 (ez7.symm.trans c2)
      refine ⟨fun c3 => ?_, fun c3 => ?_⟩
      · intro z12 ez12
        intro S13 eS13
        have nS13 : FX [12, 13, 25, 26, 27] S S13 := FX_i eS13 nSl9
        have h13 := HI_i hx eS13 (by decide)
        have s9 : S13.1 13 q8 = 0 := by rw [(HF_i eS13).1 13 (by decide)]; exact s90
        have ow9 := HI_own h13 m9
        obtain ⟨d1, d2, d3, ro, d4, _⟩ := HI_dr h13 ow9.1
        intro z14 ez14
        refine ⟨fun c4 => ?_, fun c4 => ?_⟩
        · refine kmT_X1_report _ _ _ _ _ _ _ (fun S16 hF5 pS16 => ?_) (sk_X1_report (n := (S13.1 1 t0).toInt) (N := N) (LL := L) (D := D) (ro := ro) (t9 := u9) _ _ _ _ (INJ_x nS13 (by decide) hI) ow9.2.1 m9 (by decide) ow9.2.2.2 h13.1.2.1 h13.2.2.1 h13.2.2.2.2.2.2.1 d1 d2 d4 ow9.2.2.1 d3)
          have nS16 : FX [12, 13, 25, 26, 27] S S16 := FX_k hF5 (by decide) nS13
          have fS16 := HF_k hF5 (INJ_x nS13 (by decide) hI) (by decide) (by decide) (by decide)
          clear hF5
          have h16 := HI_rp h13 (hg u9) m9 s9 (HF_s fS16 (by decide) (by decide) (by decide) (by decide)) pS16
          have k16 : K3 S S16 := K3_tr (K3_tr k3 (K3_f (HF_i eS13) (by decide))) (K3_f fS16 (by decide))
          unfold wT_X1_pass_80
          refine kmT_X1_work _ _ _ _ (fun S19 hF6 pS19 => ?_) (sk_X1_work (N := N) (T := T) (G := G) (U := U) (L := L) (D := D) (P := P) _ (INJ_x nS16 (by decide) hI) h16 hg)
          have nS19 : FX [12, 13, 25, 26, 27] S S19 := FX_k hF6 (by decide) nS16
          have fS19 := HF_k hF6 (INJ_x nS16 (by decide) hI) (by decide) (by decide) (by decide)
          clear hF6
          have k19 : K3 S S19 := K3_tr k16 pS19.2.2
          intro z20 ez20
          have hrz20 : -2147483648 ≤ x3.toInt + 1 ∧ x3.toInt + 1 < 2147483648 := by (try clear hk9); grind [k_ii, k_ir, k_ri, k_rr, k_ai, k_ar, k_li, k_lr, k_qi, k_qr, ar_ci, ar_cl, ar_cq, la_ci, la_ca, la_cq, qa_ci, qa_ca, qa_cl, tk_link]
          replace ez20 : z20.toInt = x3.toInt + 1 := w_add ez20 hrz20
          clear hrz20
          exact hk9 _ (by (try clear hk9); grind [k_ii, k_ir, k_ri, k_rr, k_ai, k_ar, k_li, k_lr, k_qi, k_qr, ar_ci, ar_cl, ar_cq, la_ci, la_ca, la_cq, qa_ci, qa_ca, qa_cl, tk_link]) (by (try clear hk9); grind [k_ii, k_ir, k_ri, k_rr, k_ai, k_ar, k_li, k_lr, k_qi, k_qr, ar_ci, ar_cl, ar_cq, la_ci, la_ca, la_cq, qa_ci, qa_ca, qa_cl, tk_link])
        · refine kmT_X1_report _ _ _ _ _ _ _ (fun S17 hF7 pS17 => ?_) (sk_X1_report (n := (S13.1 1 t0).toInt) (N := N) (LL := L) (D := D) (ro := ro) (t9 := u9) _ _ _ _ (INJ_x nS13 (by decide) hI) ow9.2.1 m9 (by decide) ow9.2.2.2 h13.1.2.1 h13.2.2.1 h13.2.2.2.2.2.2.1 d1 d2 d4 ow9.2.2.1 d3)
          have nS17 : FX [12, 13, 25, 26, 27] S S17 := FX_k hF7 (by decide) nS13
          have fS17 := HF_k hF7 (INJ_x nS13 (by decide) hI) (by decide) (by decide) (by decide)
          clear hF7
          have h16 := HI_rp h13 (hg u9) m9 s9 (HF_s fS17 (by decide) (by decide) (by decide) (by decide)) pS17
          have k16 : K3 S S17 := K3_tr (K3_tr k3 (K3_f (HF_i eS13) (by decide))) (K3_f fS17 (by decide))
          unfold wT_X1_pass_80
          refine kmT_X1_work _ _ _ _ (fun S19 hF8 pS19 => ?_) (sk_X1_work (N := N) (T := T) (G := G) (U := U) (L := L) (D := D) (P := P) _ (INJ_x nS17 (by decide) hI) h16 hg)
          have nS19 : FX [12, 13, 25, 26, 27] S S19 := FX_k hF8 (by decide) nS17
          have fS19 := HF_k hF8 (INJ_x nS17 (by decide) hI) (by decide) (by decide) (by decide)
          clear hF8
          have k19 : K3 S S19 := K3_tr k16 pS19.2.2
          intro z20 ez20
          have hrz20 : -2147483648 ≤ x3.toInt + 1 ∧ x3.toInt + 1 < 2147483648 := by (try clear hk9); grind [k_ii, k_ir, k_ri, k_rr, k_ai, k_ar, k_li, k_lr, k_qi, k_qr, ar_ci, ar_cl, ar_cq, la_ci, la_ca, la_cq, qa_ci, qa_ca, qa_cl, tk_link]
          replace ez20 : z20.toInt = x3.toInt + 1 := w_add ez20 hrz20
          clear hrz20
          exact hk9 _ (by (try clear hk9); grind [k_ii, k_ir, k_ri, k_rr, k_ai, k_ar, k_li, k_lr, k_qi, k_qr, ar_ci, ar_cl, ar_cq, la_ci, la_ca, la_cq, qa_ci, qa_ca, qa_cl, tk_link]) (by (try clear hk9); grind [k_ii, k_ir, k_ri, k_rr, k_ai, k_ar, k_li, k_lr, k_qi, k_qr, ar_ci, ar_cl, ar_cq, la_ci, la_ca, la_cq, qa_ci, qa_ca, qa_cl, tk_link])
      · intro S18 eS18
        have nS18 : FX [12, 13, 25, 26, 27] S S18 := FX_i eS18 nSl9
        have h18 := HI_i hx eS18 (by decide)
        exact ⟨h18, by rw [(HF_i eS18).1 5 (by decide)]; exact x5, K3_tr k3 (K3_f (HF_i eS18) (by decide))⟩
