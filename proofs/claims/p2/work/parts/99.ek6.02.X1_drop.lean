
set_option maxHeartbeats 400000 in
theorem sk_X1_drop {n : Int} {N : Nat → Prop} {LL : Nat → List Nat} {D : Nat → Nat} {ro : Nat} (t0 : Nat) (a0 : Nat) (a1 : Int32) {S : kS} (hI : INJ S) (hL : LNS N LL S none) (hG : AGE n (S.1 5 t0).toInt (ar S 10 t0)) (hc : CH (S.2.1 24) (S.2.1 61 a0) (LL a0)) (hn : (LL a0).Nodup) (hA : ∀ p, p ∈ LL a0 → (∀ q, S.2.1 23 p = some q → q ∈ LL a0 ∧ D p = D q + 1) ∧ (S.2.1 23 p = none → p = ro)) (hC : ∀ p c, p ∈ LL a0 → S.2.1 22 p = some c → 0 ≤ (S.1 28 c).toInt ∧ (S.1 28 c).toInt < n) : wT_X1_drop t0 a0 a1 S (fun S1 => DST n N LL t0 a0 (a1 ≠ 0 ∨ S.1 13 ro ≠ 0) (a1 = 0) (LL a0) S S1) := by
  have nS : FX [12, 13, 25, 26, 27] S S := FX_rf
  unfold wT_X1_drop
  intro z1 ez1
  refine it_rule (fun u : Nat × Int32 × Option Nat × kS => (FX [12, 13, 25, 26, 27] S u.2.2.2) ∧ (t0 = u.1 ∧ a1 = u.2.1 ∧ ∃ d r0, LL a0 = d ++ r0 ∧ CH (S.2.1 24) u.2.2.1 r0 ∧ DST n N LL t0 a0 (a1 ≠ 0 ∨ S.1 13 ro ≠ 0) (a1 = 0) d S u.2.2.2)) (fun u => (((rst (LL a0) u.2.2.1 : Nat) : Int)).toNat) ?_ (by exact ⟨nS, rfl, rfl, [], LL a0, rfl, by rw [ez1]; exact hc, DST_0 hL hG⟩)
  rintro ⟨x0, x2, x3, Sl5⟩ k5 hI5 hk5
  replace hI5 : (FX [12, 13, 25, 26, 27] S Sl5) ∧ (t0 = x0 ∧ a1 = x2 ∧ ∃ d r0, LL a0 = d ++ r0 ∧ CH (S.2.1 24) x3 r0 ∧ DST n N LL t0 a0 (a1 ≠ 0 ∨ S.1 13 ro ≠ 0) (a1 = 0) d S Sl5) := hI5
  obtain ⟨nSl5, hI5⟩ := hI5
  replace hk5 : ∀ v : Nat × Int32 × Option Nat × kS, (FX [12, 13, 25, 26, 27] S v.2.2.2) ∧ (t0 = v.1 ∧ a1 = v.2.1 ∧ ∃ d r0, LL a0 = d ++ r0 ∧ CH (S.2.1 24) v.2.2.1 r0 ∧ DST n N LL t0 a0 (a1 ≠ 0 ∨ S.1 13 ro ≠ 0) (a1 = 0) d S v.2.2.2) → (((rst (LL a0) v.2.2.1 : Nat) : Int)).toNat < (((rst (LL a0) x3 : Nat) : Int)).toNat → k5 v := hk5
  show wT_X1_drop_5 _ k5 x0 x2 x3 Sl5
  unfold wT_X1_drop_5
  obtain ⟨rfl, hI5⟩ := hI5
  obtain ⟨rfl, hI5⟩ := hI5
  obtain ⟨d, r0, hd, hx3, hD9⟩ := hI5
  have hm5 : rst (LL a0) x3 = r0.length := rst_l hd hn hx3
  have j65 : ∀ (x0 : Nat) (x2 : Int32) (x3 : Nat) (Sx : kS), ((FX [12, 13, 25, 26, 27] S Sx) ∧ (t0 = x0 ∧ a1 = x2 ∧ ∃ r, r0 = x3 :: r ∧ CH (S.2.1 24) (S.2.1 24 x3) r ∧ DST n N LL t0 a0 (a1 ≠ 0 ∨ S.1 13 ro ≠ 0) (a1 = 0) d S Sx ∧ ((a1 ≠ 0 ∨ S.1 13 ro ≠ 0) → Sx.1 13 x3 ≠ 0))) → wT_X1_drop_65 (fun S1 => DST n N LL t0 a0 (a1 ≠ 0 ∨ S.1 13 ro ≠ 0) (a1 = 0) (LL a0) S S1) k5 x0 x2 x3 Sx := by
    intro x0 x2 x3 Sx hJ65
    obtain ⟨nSx, hJ65⟩ := hJ65
    unfold wT_X1_drop_65
    obtain ⟨rfl, hJ65⟩ := hJ65
    obtain ⟨rfl, hJ65⟩ := hJ65
    obtain ⟨r, er, hr, hd9, hq9⟩ := hJ65
    intro z20 ez20
    have e20 : z20 = S.2.1 24 x3 := ez20.trans (congrFun (nSx 24 (by decide)) x3)
    have l20 : LL a0 = (d ++ [x3]) ++ r := by rw [hd, er, List.append_assoc]; rfl
    exact hk5 _ (by exact ⟨nSx, rfl, rfl, d ++ [x3], r, l20, by rw [e20]; exact hr, DST_e hd9 hq9⟩) (by show ((rst (LL a0) z20 : Nat) : Int).toNat < _; rw [hm5, rst_l l20 hn (by rw [e20]; exact hr), er]; simp)
  have j47 : ∀ (x0 : Nat) (x2 : Int32) (x3 : Nat) (Sx : kS), ((FX [12, 13, 25, 26, 27] S Sx) ∧ (t0 = x0 ∧ a1 = x2 ∧ ∃ r, r0 = x3 :: r ∧ CH (S.2.1 24) (S.2.1 24 x3) r ∧ DST n N LL t0 a0 (a1 ≠ 0 ∨ S.1 13 ro ≠ 0) (a1 = 0) d S Sx ∧ Sx.1 13 x3 ≠ 0)) → wT_X1_drop_47 (fun S1 => DST n N LL t0 a0 (a1 ≠ 0 ∨ S.1 13 ro ≠ 0) (a1 = 0) (LL a0) S S1) k5 x0 x2 x3 Sx := by
    intro x0 x2 x3 Sx hJ47
    obtain ⟨nSx, hJ47⟩ := hJ47
    unfold wT_X1_drop_47
    obtain ⟨rfl, hJ47⟩ := hJ47
    obtain ⟨rfl, hJ47⟩ := hJ47
    obtain ⟨r, er, hr, hd9, hq9⟩ := hJ47
    have mx : x3 ∈ LL a0 := by rw [hd, er]; exact List.mem_append_right _ (List.mem_cons_self ..)
    intro z14 ez14
    refine ⟨fun c1 => ?_, fun q15 c1 => ?_⟩
    · exact j65 _ _ _ _ (by exact ⟨nSx, rfl, rfl, r, er, hr, hd9, fun _ => hq9⟩)
    · intro z16 ez16
      have hl16 : S.2.1 22 x3 = some q15 := (congrFun (nSx 22 (by decide)) x3).symm.trans (ez14.symm.trans c1)
      refine ⟨q15, by (try clear j27); (try clear j47); (try clear j65); (try clear hk5); grind [k_ii, k_ir, k_ri, k_rr, k_ai, k_ar, k_li, k_lr, k_qi, k_qr, ar_ci, ar_cl, ar_cq, la_ci, la_ca, la_cq, qa_ci, qa_ca, qa_cl, tk_link], ?_⟩
      intro z18 ez18
      have h18 : 0 ≤ z18.toInt ∧ z18.toInt < n := by rw [ez18, hd9.2.2.2.2.2.1 q15]; exact hC x3 q15 mx hl16
      refine kmT_X1_plan _ _ _ _ _ (fun S19 hF2 pS19 => ?_) (sk_X1_plan (n := n) _ _ (INJ_x nSx (by decide) hI) hd9.2.1 (Or.inl h18))
      have nS19 : FX [12, 13, 25, 26, 27] S S19 := FX_k hF2 (by decide) nSx
      have y13_S19 : S19.1 13 = Sx.1 13 := hF2.1 13 (by decide)
      have y28_S19 : S19.1 28 = Sx.1 28 := hF2.1 28 (by decide)
      have r12_S19 : S19.2.1 12 = Sx.2.1 12 := hF2.2.1 12 (by decide)
      have r13_S19 : S19.2.1 13 = Sx.2.1 13 := hF2.2.1 13 (by decide)
      have r25_S19 : S19.2.1 25 = Sx.2.1 25 := hF2.2.1 25 (by decide)
      have r26_S19 : S19.2.1 26 = Sx.2.1 26 := hF2.2.1 26 (by decide)
      have r27_S19 : S19.2.1 27 = Sx.2.1 27 := hF2.2.1 27 (by decide)
      clear hF2
      have w19 := DST_p hd9 pS19 r12_S19 r13_S19 r25_S19 r26_S19 r27_S19 y13_S19 y28_S19
      exact j65 _ _ _ _ (by exact ⟨nS19, rfl, rfl, r, er, hr, w19, fun _ => by rw [y13_S19]; exact hq9⟩)
  have j27 : ∀ (x0 : Nat) (x2 : Int32) (x3 : Nat) (Sx : kS), ((FX [12, 13, 25, 26, 27] S Sx) ∧ (t0 = x0 ∧ a1 = x2 ∧ ∃ r, r0 = x3 :: r ∧ CH (S.2.1 24) (S.2.1 24 x3) r ∧ DST n N LL t0 a0 (a1 ≠ 0 ∨ S.1 13 ro ≠ 0) (a1 = 0) d S Sx ∧ Sx.1 13 x3 = 0 ∧ (a1 = 0 → S.2.1 23 x3 ≠ none))) → wT_X1_drop_27 (fun S1 => DST n N LL t0 a0 (a1 ≠ 0 ∨ S.1 13 ro ≠ 0) (a1 = 0) (LL a0) S S1) k5 x0 x2 x3 Sx := by
    intro x0 x2 x3 Sx hJ27
    obtain ⟨nSx, hJ27⟩ := hJ27
    unfold wT_X1_drop_27
    obtain ⟨rfl, hJ27⟩ := hJ27
    obtain ⟨rfl, hJ27⟩ := hJ27
    obtain ⟨r, er, hr, hd9, hq9⟩ := hJ27
    have mx : x3 ∈ LL a0 := by rw [hd, er]; exact List.mem_append_right _ (List.mem_cons_self ..)
    intro S8 eS8
    have nS8 : FX [12, 13, 25, 26, 27] S S8 := FX_i eS8 nSx
    have l8 : LNS N LL S8 (some x3) := LNS_w hd9.1 eS8
    intro z9 ez9
    refine ⟨fun c3 => ?_, fun q10 c3 => ?_⟩
    · exact j47 _ _ _ _ (by exact ⟨nS8, rfl, rfl, r, er, hr, DST_w hd9 mx hq9.2 (by decide) eS8 (LNS_no l8 (ez9.symm.trans c3)) rfl rfl rfl (fun _ => rfl)⟩)
    · intro z11 ez11
      have hl8 : S8.2.1 25 x3 = some q10 := ez9.symm.trans c3
      refine ⟨q10, by (try clear j27); (try clear j47); (try clear j65); (try clear hk5); grind [k_ii, k_ir, k_ri, k_rr, k_ai, k_ar, k_li, k_lr, k_qi, k_qr, ar_ci, ar_cl, ar_cq, la_ci, la_ca, la_cq, qa_ci, qa_ca, qa_cl, tk_link], ?_⟩
      refine kmT_X2_remove _ _ _ _ _ (fun S13 hF4 pS13 => ?_) (sk_X2_remove _ _ (INJ_x nS8 (by decide) hI) ((LNS_self l8 mx hl8).1) ((LNS_self l8 mx hl8).2))
      have nS13 : FX [12, 13, 25, 26, 27] S S13 := FX_k hF4 (by decide) nS8
      have ar10_S13 := KF_ar hF4 (INJ_x nS8 (by decide) hI) (by decide) (by decide) (f := 10) (by decide)
      have y5_S13 : S13.1 5 = S8.1 5 := hF4.1 5 (by decide)
      have y13_S13 : S13.1 13 = S8.1 13 := hF4.1 13 (by decide)
      have y28_S13 : S13.1 28 = S8.1 28 := hF4.1 28 (by decide)
      clear hF4
      have w13 := DST_w hd9 mx hq9.2 (by decide) eS8 (LNS_rm l8 mx hl8 pS13 y13_S13) y5_S13 y13_S13 y28_S13 (fun j => ar10_S13 t0 j)
      exact j47 _ _ _ _ (by exact ⟨nS13, rfl, rfl, r, er, hr, w13⟩)
  refine ⟨fun c5 => ?_, fun q2 c5 => ?_⟩
  · exact (by rw [show LL a0 = d by rw [hd, CH_nil (show CH (S.2.1 24) none r0 by rw [← c5]; exact hx3), List.append_nil]]; exact hD9)
  · intro z3 ez3
    obtain ⟨r1, er1, hr1⟩ := CH_cons (show CH (S.2.1 24) (some q2) r0 by rw [← c5]; exact hx3)
    have m2 : q2 ∈ LL a0 := by rw [hd, er1]; exact List.mem_append_right _ (List.mem_cons_self ..)
    refine ⟨fun c6 => ?_, fun c6 => ?_⟩
    · exact j65 _ _ _ _ (by exact ⟨nSl5, rfl, rfl, r1, er1, hr1, hD9, fun hP => by rw [← ez3]; have sm9 := STM_n hD9.2.2.2.1 (p := ro); (try clear j27); (try clear j47); (try clear j65); (try clear hk5); grind [k_ii, k_ir, k_ri, k_rr, k_ai, k_ar, k_li, k_lr, k_qi, k_qr, ar_ci, ar_cl, ar_cq, la_ci, la_ca, la_cq, qa_ci, qa_ca, qa_cl, tk_link]⟩)
    · refine ⟨fun c7 => ?_, fun c7 => ?_⟩
      · exact j27 _ _ _ _ (by exact ⟨nSl5, rfl, rfl, r1, er1, hr1, hD9, by rw [← ez3]; (try clear j27); (try clear j47); (try clear j65); (try clear hk5); grind [k_ii, k_ir, k_ri, k_rr, k_ai, k_ar, k_li, k_lr, k_qi, k_qr, ar_ci, ar_cl, ar_cq, la_ci, la_ca, la_cq, qa_ci, qa_ca, qa_cl, tk_link], by have n23 : Sl5.2.1 23 = S.2.1 23 := nSl5 23 (by decide); rw [← n23]; (try clear j27); (try clear j47); (try clear j65); (try clear hk5); grind [k_ii, k_ir, k_ri, k_rr, k_ai, k_ar, k_li, k_lr, k_qi, k_qr, ar_ci, ar_cl, ar_cq, la_ci, la_ca, la_cq, qa_ci, qa_ca, qa_cl, tk_link]⟩)
      · refine kmT_X4_isAdrift _ _ _ _ (fun S6 r6 hF8 pS6 => ?_) (sk_X4_isAdrift (L := LL a0) (D := D) (ro := ro) _ (INJ_x nSl5 (by decide) hI) (fun p hp => by rw [nSl5 23 (by decide)]; rcases hp with hp | hp; (exact hA p hp); (rw [hp]; exact hA q2 m2)))
        obtain ⟨rfl, pS6⟩ := pS6
        clear hF8
        refine ⟨fun c9 => ?_, fun c9 => ?_⟩
        · exact j65 _ _ _ _ (by exact ⟨nSl5, rfl, rfl, r1, er1, hr1, hD9, fun hP => by rw [← ez3]; have sm9 := STM_n hD9.2.2.2.1 (p := ro); (try clear j27); (try clear j47); (try clear j65); (try clear hk5); grind [k_ii, k_ir, k_ri, k_rr, k_ai, k_ar, k_li, k_lr, k_qi, k_qr, ar_ci, ar_cl, ar_cq, la_ci, la_ca, la_cq, qa_ci, qa_ca, qa_cl, tk_link]⟩)
        · exact j27 _ _ _ _ (by exact ⟨nSl5, rfl, rfl, r1, er1, hr1, hD9, by rw [← ez3]; (try clear j27); (try clear j47); (try clear j65); (try clear hk5); grind [k_ii, k_ir, k_ri, k_rr, k_ai, k_ar, k_li, k_lr, k_qi, k_qr, ar_ci, ar_cl, ar_cq, la_ci, la_ca, la_cq, qa_ci, qa_ca, qa_cl, tk_link], by have n23 : Sl5.2.1 23 = S.2.1 23 := nSl5 23 (by decide); rw [← n23]; (try clear j27); (try clear j47); (try clear j65); (try clear hk5); grind [k_ii, k_ir, k_ri, k_rr, k_ai, k_ar, k_li, k_lr, k_qi, k_qr, ar_ci, ar_cl, ar_cq, la_ci, la_ca, la_cq, qa_ci, qa_ca, qa_cl, tk_link]⟩)
