
set_option maxHeartbeats 400000 in
theorem sk_X3_tried {n : Int} {r_X3_block : Nat → Int32 → kS → (kS → Prop) → Prop} (hf_X3_block : ∀ t0 : Nat, ∀ a0 : Int32, KmV [6, 7, 8, 9, 10, 11, 17, 24, 25] [] [17, 18, 19, 28, 29, 30, 35, 36, 37, 43, 44, 45, 46, 47, 48, 49, 50, 51, 52] [20, 39] [] (r_X3_block t0 a0)) (hr_X3_block : ∀ (tk pg sc : Nat) (t0 : Nat) (a0 : Int32) (S : kS), INJ S → S.2.1 14 t0 = some tk → S.2.1 15 t0 = some pg → S.2.1 16 t0 = some sc → RG (vw t0 tk pg sc S) → BG 12 (vw t0 tk pg sc S) → TY ((-2)) (vw t0 tk pg sc S) → (LK (vw t0 tk pg sc S)) → (DK (a0.toInt + 1) (vw t0 tk pg sc S)) → (0 ≤ a0.toInt ∧ a0.toInt ≤ 10) → (11 - a0.toInt ≤ n) → r_X3_block t0 a0 S (fun S1 => Rx (-4) (vw t0 tk pg sc S) (vw t0 tk pg sc S1) ∧ TY ((-2)) (vw t0 tk pg sc S1) ∧ N1e (vw t0 tk pg sc S) (vw t0 tk pg sc S1))) {tk pg sc : Nat} (t0 : Nat) (a0 : Int32) {S : kS} (hI : INJ S) (hO14_t0 : S.2.1 14 t0 = some tk) (hO15_t0 : S.2.1 15 t0 = some pg) (hO16_t0 : S.2.1 16 t0 = some sc) (hG_S : RG (vw t0 tk pg sc S)) (hB_S : BG 12 (vw t0 tk pg sc S)) (hT_S : TY (-2) (vw t0 tk pg sc S)) (hL_S : LK (vw t0 tk pg sc S)) (hD_S : DK a0.toInt (vw t0 tk pg sc S)) (ha : 1 ≤ a0.toInt ∧ a0.toInt ≤ 10) (hn : 11 - a0.toInt ≤ n) (hq : (vw t0 tk pg sc S).1 7 = 0) : wT_X3_tried r_X3_block t0 a0 S (fun S1 => Rx (-3) (vw t0 tk pg sc S) (vw t0 tk pg sc S1) ∧ TY (-2) (vw t0 tk pg sc S1)) := by
  have nS : FX [] S S := FX_rf
  have PS : Rx 0 (vw t0 tk pg sc S) (vw t0 tk pg sc S) := Rx_rf
  have yS := hT_S
  unfold wT_X3_tried
  have j170 : ∀ (x0 : Nat) (x2 : Int32) (x3 : Int32) (Sx : kS), ((FX [] S Sx) ∧ (t0 = x0 ∧ x2.toInt = (vw t0 tk pg sc S).1 8 ∧ (0 ≤ x3.toInt ∧ x3.toInt < 460) ∧ ∃ m : Int, TX m (-3) x3.toInt a0.toInt (vw t0 tk pg sc S) (vw t0 tk pg sc Sx))) → wT_X3_tried_170 r_X3_block (fun S1 => Rx (-3) (vw t0 tk pg sc S) (vw t0 tk pg sc S1) ∧ TY (-2) (vw t0 tk pg sc S1)) x0 x2 x3 Sx := by
    intro x0 x2 x3 Sx hJ170
    obtain ⟨nSx, hJ170⟩ := hJ170
    unfold wT_X3_tried_170
    obtain ⟨rfl, hJ170⟩ := hJ170
    obtain ⟨hx2, hx3, m, xSx⟩ := hJ170
    intro z44 ez44
    refine ⟨sc, ob_e nSx (by decide) hO16_t0 ez44, ?_⟩
    intro z46 ez46
    intro z47 ez47
    refine ⟨pg, ob_e nSx (by decide) hO15_t0 ez47, ?_⟩
    intro z49 ez49
    intro q50 eq50
    have wq50 := rd_w nSx (by decide) ez46 eq50
    refine ⟨by (try clear j76); (try clear j136); (try clear j170); grind [NZ, k_ii, k_ir, k_ri, k_rr, k_ai, k_ar, k_li, k_lr, k_qi, k_qr, ar_ci, ar_cl, ar_cq, la_ci, la_ca, la_cq, qa_ci, qa_ca, qa_cl, tk_link, kn460], ?_⟩
    intro S51 eS51
    have nS51 : FX [] S S51 := FX_a eS51 nSx
    have arS51 := ar_wr hI nSx (by decide) (by decide) wq50 eS51
    have w48 := up_v (A := ar Sx 48 sc) (A1 := ar S51 48 sc) (z := x3) (v := z49) hx3.1 (fun j => by rw [arS51 48 sc j]; rcases Decidable.em (j = ix x3) with h9 | h9; (rw [if_pos ⟨rfl, rfl, h9⟩, if_pos h9]); (rw [if_neg (fun q => h9 q.2.2), if_neg h9]))
    have vS51 := vw_ca (t0 := t0) (tk := tk) (pg := pg) (sc := sc) eS51 arS51 (by decide)
    intro S52 eS52
    have nS52 : FX [] S S52 := FX_i eS52 nS51
    have vS52 := vw_ci (tk := tk) (pg := pg) (sc := sc) eS52 (by decide)
    have dX := TX_d hG_S xSx w48 vS51 (by rw [ez49]; rfl) vS52.1 (vS52.2.trans hx2)
    exact ⟨Rx_m dX.1 (by decide), dX.2⟩
  have j136 : ∀ (x0 : Nat) (x1 : Int32) (x2 : Int32) (x3 : Int32) (Sx : kS), ((FX [] S Sx) ∧ (t0 = x0 ∧ a0 = x1 ∧ x2.toInt = (vw t0 tk pg sc S).1 8 ∧ (0 ≤ x3.toInt ∧ x3.toInt < 460) ∧ ∃ m : Int, (0 ≤ m ∧ m ≤ 1) ∧ TX m (-3) x3.toInt a0.toInt (vw t0 tk pg sc S) (vw t0 tk pg sc Sx))) → wT_X3_tried_136 r_X3_block (fun S1 => Rx (-3) (vw t0 tk pg sc S) (vw t0 tk pg sc S1) ∧ TY (-2) (vw t0 tk pg sc S1)) x0 x1 x2 x3 Sx := by
    intro x0 x1 x2 x3 Sx hJ136
    obtain ⟨nSx, hJ136⟩ := hJ136
    unfold wT_X3_tried_136
    obtain ⟨rfl, hJ136⟩ := hJ136
    obtain ⟨rfl, hJ136⟩ := hJ136
    obtain ⟨hx2, hx3, m, hm0, xSx⟩ := hJ136
    refine kmT_X3_take _ _ _ _ _ (fun S35 r35 hF1 pS35 => ?_) (sr_X3_take (tk := tk) (pg := pg) (sc := sc) _ _ (INJ_x nSx (by decide) hI) (ob_h nSx (by decide) hO14_t0) (ob_h nSx (by decide) hO15_t0) (ob_h nSx (by decide) hO16_t0) xSx.2.1)
    have nS35 : FX [] S S35 := FX_k hF1 (by decide) nSx
    have VS35 := vw_k (t0 := t0) (tk := tk) (pg := pg) (sc := sc) hF1 (INJ_x nSx (by decide) hI) (by decide) (by decide)
    clear hF1
    have xS35 := TX_tk xSx VS35 pS35.1
    refine ⟨fun c2 => ?_, fun c2 => ?_⟩
    · exact j170 _ _ _ _ (by exact ⟨nS35, rfl, hx2, hx3, m, xS35⟩)
    · intro z37 ez37
      have hrz37 : -100000 ≤ x3.toInt ∧ x3.toInt ≤ 100000 := by (try clear j76); (try clear j136); (try clear j170); grind [NZ, k_ii, k_ir, k_ri, k_rr, k_ai, k_ar, k_li, k_lr, k_qi, k_qr, ar_ci, ar_cl, ar_cq, la_ci, la_ca, la_cq, qa_ci, qa_ca, qa_cl, tk_link, kn460]
      replace ez37 : z37.toInt = 3 * x3.toInt := w_mc ez37 rfl (by decide) hrz37
      intro z38 ez38
      have hrz38 : -2147483648 ≤ z37.toInt + 2 ∧ z37.toInt + 2 < 2147483648 := by (try clear j76); (try clear j136); (try clear j170); grind [NZ, k_ii, k_ir, k_ri, k_rr, k_ai, k_ar, k_li, k_lr, k_qi, k_qr, ar_ci, ar_cl, ar_cq, la_ci, la_ca, la_cq, qa_ci, qa_ca, qa_cl, tk_link, kn460]
      replace ez38 : z38.toInt = z37.toInt + 2 := w_add ez38 hrz38
      clear hrz38
      intro S39 eS39
      have nS39 : FX [] S S39 := FX_i eS39 nS35
      intro z40 ez40
      refine ⟨sc, ob_e nS39 (by decide) hO16_t0 ez40, ?_⟩
      refine kmT_X7_mark _ _ _ _ _ _ (fun S42 hF3 pS42 => ?_) (sk_X7_mark _ _ _ (INJ_x nS39 (by decide) hI) (by (try clear j76); (try clear j136); (try clear j170); grind [NZ, k_ii, k_ir, k_ri, k_rr, k_ai, k_ar, k_li, k_lr, k_qi, k_qr, ar_ci, ar_cl, ar_cq, la_ci, la_ca, la_cq, qa_ci, qa_ca, qa_cl, tk_link, kn460]))
      have nS42 : FX [] S S42 := FX_k hF3 (by decide) nS39
      have VS42 := vw_k (t0 := t0) (tk := tk) (pg := pg) (sc := sc) hF3 (INJ_x nS39 (by decide) hI) (by decide) (by decide)
      clear hF3
      have vS39 := vw_ci (tk := tk) (pg := pg) (sc := sc) eS39 (by decide)
      have v2 : VF [8] [49, 149] (vw t0 tk pg sc S35) (vw t0 tk pg sc S42) := VF_tt (hv_sub vS39.1 (by decide) (by decide)) (hv_sub VS42 (by decide) (by decide))
      have e28 : (vw t0 tk pg sc S42).1 8 = 3 * x3.toInt + 2 := (VS42.1 8 (by decide)).trans (vS39.2.trans (by (try clear j76); (try clear j136); (try clear j170); grind [NZ, k_ii, k_ir, k_ri, k_rr, k_ai, k_ar, k_li, k_lr, k_qi, k_qr, ar_ci, ar_cl, ar_cq, la_ci, la_ca, la_cq, qa_ci, qa_ca, qa_cl, tk_link, kn460]))
      have hm9 : ∀ i : Nat, (i : Int) ≠ x3.toInt → (vw t0 tk pg sc S42).2 149 i = (vw t0 tk pg sc S35).2 149 i := fun i hi => by show (ar S42 49 sc i &&& 3).toInt = (ar S35 49 sc i &&& 3).toInt; rw [pS42 i, if_neg (fun q => hi (by rw [q]; unfold ix; have := hx3.1; omega)), eS39]; rfl
      have hmk : (vw t0 tk pg sc S35).1 7 = 0 → (vw t0 tk pg sc S42).2 149 x3.toInt.toNat = m + 2 := fun q => by show (ar S42 49 sc x3.toInt.toNat &&& 3).toInt = _; rw [pS42 x3.toInt.toNat, if_pos (show x3.toInt.toNat = ix x3 from rfl), eS39]; exact mk2 ((xS35.2.2.2.2.2 q).2.2.2.2.1) hm0
      have hG_S42 : RG (vw t0 tk pg sc S42) := RG_ir (hv_sub VS42 (by decide) (by decide)) (RG_8 (by rw [vS39.2, vS39.1.1 24 (by decide)]; have := xS35.2.2.2.2.1; (try clear j76); (try clear j136); (try clear j170); grind [NZ, k_ii, k_ir, k_ri, k_rr, k_ai, k_ar, k_li, k_lr, k_qi, k_qr, ar_ci, ar_cl, ar_cq, la_ci, la_ca, la_cq, qa_ci, qa_ca, qa_cl, tk_link, kn460]) vS39.1 xS35.2.1)
      have hB_S42 : BG 12 (vw t0 tk pg sc S42) := BG_v v2 (by decide) (BG_tx xS35 hB_S (by decide))
      have yS42 : TY (-2) (vw t0 tk pg sc S42) := TY_v v2 (by decide) (by decide) (TY_tx xS35)
      have PS42 : Rx 0 (vw t0 tk pg sc S42) (vw t0 tk pg sc S42) := Rx_rf
      have hL_S42 : LK (vw t0 tk pg sc S42) := LK_tx hG_S hL_S xS35 v2 e28 (by decide)
      have hD_S42 : DK (a0.toInt + 1) (vw t0 tk pg sc S42) := DK_tx xS35 v2 e28 (by decide)
      refine kmT_X3_finished hf_X3_block _ _ _ _ _ _ (fun S43 hF4 pS43 => ?_) (sk_X3_finished hf_X3_block hr_X3_block (tk := tk) (pg := pg) (sc := sc) _ _ _ (INJ_x nS42 (by decide) hI) (ob_h nS42 (by decide) hO14_t0) (ob_h nS42 (by decide) hO15_t0) (ob_h nS42 (by decide) hO16_t0) (Rx_g PS42 hG_S42) (BG_r PS42 hB_S42 (by decide)) yS42 (DK_m (DK_r hG_S42 PS42 hD_S42) (by (try clear j76); (try clear j136); (try clear j170); grind [NZ, k_ii, k_ir, k_ri, k_rr, k_ai, k_ar, k_li, k_lr, k_qi, k_qr, ar_ci, ar_cl, ar_cq, la_ci, la_ca, la_cq, qa_ci, qa_ca, qa_cl, tk_link, kn460])) (by (try clear j76); (try clear j136); (try clear j170); grind [NZ, k_ii, k_ir, k_ri, k_rr, k_ai, k_ar, k_li, k_lr, k_qi, k_qr, ar_ci, ar_cl, ar_cq, la_ci, la_ca, la_cq, qa_ci, qa_ca, qa_cl, tk_link, kn460]) (by (try clear j76); (try clear j136); (try clear j170); grind [NZ, k_ii, k_ir, k_ri, k_rr, k_ai, k_ar, k_li, k_lr, k_qi, k_qr, ar_ci, ar_cl, ar_cq, la_ci, la_ca, la_cq, qa_ci, qa_ca, qa_cl, tk_link, kn460]) (by (try clear j76); (try clear j136); (try clear j170); grind [NZ, k_ii, k_ir, k_ri, k_rr, k_ai, k_ar, k_li, k_lr, k_qi, k_qr, ar_ci, ar_cl, ar_cq, la_ci, la_ca, la_cq, qa_ci, qa_ca, qa_cl, tk_link, kn460]))
      have nS43 : FX [] S S43 := FX_k hF4 (by decide) nS42
      have VS43 := vw_k (t0 := t0) (tk := tk) (pg := pg) (sc := sc) hF4 (INJ_x nS42 (by decide) hI) (by decide) (by decide)
      clear hF4
      have xS43 := TX_f hG_S xS35 hm0 v2 e28 hm9 hmk hG_S42 pS43
      exact j170 _ _ _ _ (by exact ⟨nS43, rfl, hx2, hx3, m + 2, TX_m xS43 (by decide)⟩)
  have j76 : ∀ (x0 : Nat) (x1 : Int32) (x2 : Int32) (x3 : Int32) (Sx : kS), ((FX [] S Sx) ∧ (t0 = x0 ∧ a0 = x1 ∧ x2.toInt = (vw t0 tk pg sc S).1 8 ∧ (0 ≤ x3.toInt ∧ x3.toInt < 460) ∧ TX 0 (-3) x3.toInt a0.toInt (vw t0 tk pg sc S) (vw t0 tk pg sc Sx))) → wT_X3_tried_76 r_X3_block (fun S1 => Rx (-3) (vw t0 tk pg sc S) (vw t0 tk pg sc S1) ∧ TY (-2) (vw t0 tk pg sc S1)) x0 x1 x2 x3 Sx := by
    intro x0 x1 x2 x3 Sx hJ76
    obtain ⟨nSx, hJ76⟩ := hJ76
    unfold wT_X3_tried_76
    obtain ⟨rfl, hJ76⟩ := hJ76
    obtain ⟨rfl, hJ76⟩ := hJ76
    obtain ⟨hx2, hx3, xSx⟩ := hJ76
    refine kmT_X3_take _ _ _ _ _ (fun S18 r18 hF5 pS18 => ?_) (sr_X3_take (tk := tk) (pg := pg) (sc := sc) _ _ (INJ_x nSx (by decide) hI) (ob_h nSx (by decide) hO14_t0) (ob_h nSx (by decide) hO15_t0) (ob_h nSx (by decide) hO16_t0) xSx.2.1)
    have nS18 : FX [] S S18 := FX_k hF5 (by decide) nSx
    have VS18 := vw_k (t0 := t0) (tk := tk) (pg := pg) (sc := sc) hF5 (INJ_x nSx (by decide) hI) (by decide) (by decide)
    clear hF5
    have xS18 := TX_tk xSx VS18 pS18.1
    refine ⟨fun c6 => ?_, fun c6 => ?_⟩
    · exact j136 _ _ _ _ _ (by exact ⟨nS18, rfl, rfl, hx2, hx3, 0, by decide, xS18⟩)
    · intro z20 ez20
      have hrz20 : -100000 ≤ x3.toInt ∧ x3.toInt ≤ 100000 := by (try clear j76); (try clear j136); (try clear j170); grind [NZ, k_ii, k_ir, k_ri, k_rr, k_ai, k_ar, k_li, k_lr, k_qi, k_qr, ar_ci, ar_cl, ar_cq, la_ci, la_ca, la_cq, qa_ci, qa_ca, qa_cl, tk_link, kn460]
      replace ez20 : z20.toInt = 3 * x3.toInt := w_mc ez20 rfl (by decide) hrz20
      intro z21 ez21
      have hrz21 : -2147483648 ≤ z20.toInt + 1 ∧ z20.toInt + 1 < 2147483648 := by (try clear j76); (try clear j136); (try clear j170); grind [NZ, k_ii, k_ir, k_ri, k_rr, k_ai, k_ar, k_li, k_lr, k_qi, k_qr, ar_ci, ar_cl, ar_cq, la_ci, la_ca, la_cq, qa_ci, qa_ca, qa_cl, tk_link, kn460]
      replace ez21 : z21.toInt = z20.toInt + 1 := w_add ez21 hrz21
      clear hrz21
      intro S22 eS22
      have nS22 : FX [] S S22 := FX_i eS22 nS18
      intro z23 ez23
      refine ⟨sc, ob_e nS22 (by decide) hO16_t0 ez23, ?_⟩
      refine kmT_X7_mark _ _ _ _ _ _ (fun S25 hF7 pS25 => ?_) (sk_X7_mark _ _ _ (INJ_x nS22 (by decide) hI) (by (try clear j76); (try clear j136); (try clear j170); grind [NZ, k_ii, k_ir, k_ri, k_rr, k_ai, k_ar, k_li, k_lr, k_qi, k_qr, ar_ci, ar_cl, ar_cq, la_ci, la_ca, la_cq, qa_ci, qa_ca, qa_cl, tk_link, kn460]))
      have nS25 : FX [] S S25 := FX_k hF7 (by decide) nS22
      have VS25 := vw_k (t0 := t0) (tk := tk) (pg := pg) (sc := sc) hF7 (INJ_x nS22 (by decide) hI) (by decide) (by decide)
      clear hF7
      have vS22 := vw_ci (tk := tk) (pg := pg) (sc := sc) eS22 (by decide)
      have v2 : VF [8] [49, 149] (vw t0 tk pg sc S18) (vw t0 tk pg sc S25) := VF_tt (hv_sub vS22.1 (by decide) (by decide)) (hv_sub VS25 (by decide) (by decide))
      have e28 : (vw t0 tk pg sc S25).1 8 = 3 * x3.toInt + 1 := (VS25.1 8 (by decide)).trans (vS22.2.trans (by (try clear j76); (try clear j136); (try clear j170); grind [NZ, k_ii, k_ir, k_ri, k_rr, k_ai, k_ar, k_li, k_lr, k_qi, k_qr, ar_ci, ar_cl, ar_cq, la_ci, la_ca, la_cq, qa_ci, qa_ca, qa_cl, tk_link, kn460]))
      have hm9 : ∀ i : Nat, (i : Int) ≠ x3.toInt → (vw t0 tk pg sc S25).2 149 i = (vw t0 tk pg sc S18).2 149 i := fun i hi => by show (ar S25 49 sc i &&& 3).toInt = (ar S18 49 sc i &&& 3).toInt; rw [pS25 i, if_neg (fun q => hi (by rw [q]; unfold ix; have := hx3.1; omega)), eS22]; rfl
      have hmk : (vw t0 tk pg sc S18).1 7 = 0 → (vw t0 tk pg sc S25).2 149 x3.toInt.toNat = 1 := fun q => by show (ar S25 49 sc x3.toInt.toNat &&& 3).toInt = _; rw [pS25 x3.toInt.toNat, if_pos (show x3.toInt.toNat = ix x3 from rfl), eS22]; exact mk1 ((xS18.2.2.2.2.2 q).2.2.2.2.1)
      have hG_S25 : RG (vw t0 tk pg sc S25) := RG_ir (hv_sub VS25 (by decide) (by decide)) (RG_8 (by rw [vS22.2, vS22.1.1 24 (by decide)]; have := xS18.2.2.2.2.1; (try clear j76); (try clear j136); (try clear j170); grind [NZ, k_ii, k_ir, k_ri, k_rr, k_ai, k_ar, k_li, k_lr, k_qi, k_qr, ar_ci, ar_cl, ar_cq, la_ci, la_ca, la_cq, qa_ci, qa_ca, qa_cl, tk_link, kn460]) vS22.1 xS18.2.1)
      have hB_S25 : BG 12 (vw t0 tk pg sc S25) := BG_v v2 (by decide) (BG_tx xS18 hB_S (by decide))
      have yS25 : TY (-2) (vw t0 tk pg sc S25) := TY_v v2 (by decide) (by decide) (TY_tx xS18)
      have PS25 : Rx 0 (vw t0 tk pg sc S25) (vw t0 tk pg sc S25) := Rx_rf
      have hL_S25 : LK (vw t0 tk pg sc S25) := LK_tx hG_S hL_S xS18 v2 e28 (by decide)
      have hD_S25 : DK (a0.toInt + 1) (vw t0 tk pg sc S25) := DK_tx xS18 v2 e28 (by decide)
      intro z26 ez26
      refine ⟨sc, ob_e nS25 (by decide) hO16_t0 ez26, ?_⟩
      intro z28 ez28
      refine kmT_X3_cellHere _ _ _ _ (fun S29 r29 hF8 pS29 => ?_) (sk_X3_cellHere (tk := tk) (pg := pg) (sc := sc) _ (INJ_x nS25 (by decide) hI) (ob_h nS25 (by decide) hO14_t0) (ob_h nS25 (by decide) hO15_t0) (ob_h nS25 (by decide) hO16_t0) (Rx_g PS25 hG_S25))
      have nS29 : FX [] S S29 := FX_k hF8 (by decide) nS25
      have PS29 := Rx_tr hG_S25 PS25 pS29.1
      have yS29 := TY_r pS29.1 yS25 ((vw_k hF8 (INJ_x nS25 (by decide) hI) (by decide) (by decide)).1 17 (by decide)) ((vw_k hF8 (INJ_x nS25 (by decide) hI) (by decide) (by decide)).2 28 (by decide) (by decide))
      clear hF8
      refine kmT_X3_emit _ _ _ _ _ _ (fun S30 r30 hF9 pS30 => ?_) (sr_X3_emit (tk := tk) (pg := pg) (sc := sc) _ _ _ (INJ_x nS29 (by decide) hI) (ob_h nS29 (by decide) hO14_t0) (ob_h nS29 (by decide) hO15_t0) (ob_h nS29 (by decide) hO16_t0) (Rx_g PS29 hG_S25))
      have nS30 : FX [] S S30 := FX_k hF9 (by decide) nS29
      have iS30 : 0 ≤ r30.toInt ∧ r30.toInt ≤ 8063 := ⟨pS30.1, pS30.2.1⟩
      clear hF9
      intro q31 eq31
      have wq31 := rd_w nS25 (by decide) ez28 eq31
      refine ⟨by (try clear j76); (try clear j136); (try clear j170); grind [NZ, k_ii, k_ir, k_ri, k_rr, k_ai, k_ar, k_li, k_lr, k_qi, k_qr, ar_ci, ar_cl, ar_cq, la_ci, la_ca, la_cq, qa_ci, qa_ca, qa_cl, tk_link, kn460], ?_⟩
      intro S32 eS32
      have nS32 : FX [] S S32 := FX_a eS32 nS30
      have arS32 := ar_wr hI nS30 (by decide) (by decide) wq31 eS32
      have w46 := up_v (A := ar S30 46 sc) (A1 := ar S32 46 sc) (z := x3) (v := r30) hx3.1 (fun j => by rw [arS32 46 sc j]; rcases Decidable.em (j = ix x3) with h9 | h9; (rw [if_pos ⟨rfl, rfl, h9⟩, if_pos h9]); (rw [if_neg (fun q => h9 q.2.2), if_neg h9]))
      have vS32 := vw_ca (t0 := t0) (tk := tk) (pg := pg) (sc := sc) eS32 arS32 (by decide)
      have hG_S32 : RG (vw t0 tk pg sc S32) := RG_ir (hv_sub vS32 (by decide) (by decide)) (EMr_g pS30 (Rx_g PS29 hG_S25))
      have hB_S32 : BG 12 (vw t0 tk pg sc S32) := BG_v vS32 (by decide) (EMr_B (Rx_g PS29 hG_S25) (BG_r (c1 := 11) PS29 hB_S25 (by decide)) (by decide) pS30 (by decide))
      have yS32 : TY (-2) (vw t0 tk pg sc S32) := TY_v vS32 (by decide) (by decide) (EMr_T (Rx_g PS29 hG_S25) (BG_r (c1 := 60) PS29 hB_S25 (by decide)) (by decide) pS30 yS29 (by decide))
      have PS32 : Rx 0 (vw t0 tk pg sc S32) (vw t0 tk pg sc S32) := Rx_rf
      have hL_S32 : LK (vw t0 tk pg sc S32) := LK_v vS32 (by decide) (by decide) (LK_v (EMr_i pS30) (by decide) (by decide) (LK_r hG_S25 PS29 hL_S25))
      have hD_S32 : DK (a0.toInt + 1) (vw t0 tk pg sc S32) := DK_v vS32 (by decide) (by decide) (DK_v (EMr_i pS30) (by decide) (by decide) (DK_r hG_S25 PS29 hD_S25))
      refine hf_X3_block _ _ _ _ _ (fun S33 hF10 pS33 => ?_) (hr_X3_block tk pg sc _ _ _ (INJ_x nS32 (by decide) hI) (ob_h nS32 (by decide) hO14_t0) (ob_h nS32 (by decide) hO15_t0) (ob_h nS32 (by decide) hO16_t0) (Rx_g PS32 hG_S32) (BG_r PS32 hB_S32 (by decide)) yS32 (LK_r hG_S32 PS32 hL_S32) (DK_m (DK_r hG_S32 PS32 hD_S32) (by (try clear j76); (try clear j136); (try clear j170); grind [NZ, k_ii, k_ir, k_ri, k_rr, k_ai, k_ar, k_li, k_lr, k_qi, k_qr, ar_ci, ar_cl, ar_cq, la_ci, la_ca, la_cq, qa_ci, qa_ca, qa_cl, tk_link, kn460])) (by (try clear j76); (try clear j136); (try clear j170); grind [NZ, k_ii, k_ir, k_ri, k_rr, k_ai, k_ar, k_li, k_lr, k_qi, k_qr, ar_ci, ar_cl, ar_cq, la_ci, la_ca, la_cq, qa_ci, qa_ca, qa_cl, tk_link, kn460]) (by (try clear j76); (try clear j136); (try clear j170); grind [NZ, k_ii, k_ir, k_ri, k_rr, k_ai, k_ar, k_li, k_lr, k_qi, k_qr, ar_ci, ar_cl, ar_cq, la_ci, la_ca, la_cq, qa_ci, qa_ca, qa_cl, tk_link, kn460]))
      have nS33 : FX [] S S33 := FX_k hF10 (by decide) nS32
      have PS33 := Rx_tr hG_S32 PS32 pS33.1
      have yS33 := pS33.2.1
      clear hF10
      refine kmT_X3_emit _ _ _ _ _ _ (fun S34 r34 hF11 pS34 => ?_) (sr_X3_emit (tk := tk) (pg := pg) (sc := sc) _ _ _ (INJ_x nS33 (by decide) hI) (ob_h nS33 (by decide) hO14_t0) (ob_h nS33 (by decide) hO15_t0) (ob_h nS33 (by decide) hO16_t0) (Rx_g PS33 hG_S32))
      have nS34 : FX [] S S34 := FX_k hF11 (by decide) nS33
      have iS34 : 0 ≤ r34.toInt ∧ r34.toInt ≤ 8063 := ⟨pS34.1, pS34.2.1⟩
      clear hF11
      have xS34 := TX_b hG_S xS18 v2 e28 hm9 hmk hG_S25 PS29 yS29 (BG_r (c1 := 60) PS29 hB_S25 (by decide)) (by decide) pS30 w46 vS32 PS33 yS33 (BG_r (c1 := 60) PS33 hB_S32 (by decide)) (by decide) pS34
      exact j136 _ _ _ _ _ (by exact ⟨nS34, rfl, rfl, hx2, hx3, 1, by decide, TX_m xS34 (by decide)⟩)
  intro z1 ez1
  intro z2 ez2
  intro z3 ez3
  refine ⟨sc, ob_e nS (by decide) hO16_t0 ez2, ?_⟩
  refine kmT_X7_newTry _ _ _ _ _ _ (fun S5 r5 hF12 pS5 => ?_) (sr_X7_newTry (x0 := t0) (tk := tk) (pg := pg) _ _ _ (INJ_x nS (by decide) hI) (Rx_g PS hG_S) ((by rw [ez1]; rfl)) ((by have b7 := hG_S.2.2.2.2.2.2.2.1; have b4 := hG_S.2.2.2.2.1; rw [ez3]; exact ⟨b7.1, by have := b7.2; have := b4.2; show (vw t0 tk pg sc S).1 9 ≤ 459; omega⟩)) ((fun c0 => by have h9 := hD_S hq (by rw [ez1] at c0; exact c0); rw [ez1]; show (vw t0 tk pg sc S).2 44 ((vw t0 tk pg sc S).1 8 / 3).toNat ≤ 8; omega)))
  have nS5 : FX [] S S5 := FX_k hF12 (by decide) nS
  have VS5 := vw_k (t0 := t0) (tk := tk) (pg := pg) (sc := sc) hF12 (INJ_x nS (by decide) hI) (by decide) (by decide)
  clear hF12
  have hG_S5 : RG (vw t0 tk pg sc S5) := by rcases pS5 with ⟨_, h⟩ | ⟨h1, h2, h3⟩; (rw [h]; exact hG_S); exact h2
  have hB_S5 : BG 12 (vw t0 tk pg sc S5) := by rcases pS5 with ⟨_, h⟩ | ⟨h1, h2, h3⟩; (rw [h]; exact hB_S); exact BG_v h1.2.2.2 (by decide) hB_S
  have yS5 : TY (-2) (vw t0 tk pg sc S5) := by rcases pS5 with ⟨_, h⟩ | ⟨h1, h2, h3⟩; (rw [h]; exact hT_S); exact TY_v h1.2.2.2 (by decide) (by decide) hT_S
  have PS5 : Rx 0 (vw t0 tk pg sc S5) (vw t0 tk pg sc S5) := Rx_rf
  have iS5 : r5 = -1 ∨ (0 ≤ r5.toInt ∧ r5.toInt < 460) := by rcases pS5 with ⟨h, _⟩ | ⟨h1, h2, h3, _⟩; (exact Or.inl h); (have h4 := h2.2.2.2.1; have h5 := h1.1; have h6 := hG_S.2.2.2.1; exact Or.inr (by omega))
  refine ⟨fun c13 => ?_, fun c13 => ?_⟩
  · intro z7 ez7
    have hrz7 : -100000 ≤ r5.toInt ∧ r5.toInt ≤ 100000 := by (try clear j76); (try clear j136); (try clear j170); grind [NZ, k_ii, k_ir, k_ri, k_rr, k_ai, k_ar, k_li, k_lr, k_qi, k_qr, ar_ci, ar_cl, ar_cq, la_ci, la_ca, la_cq, qa_ci, qa_ca, qa_cl, tk_link, kn460]
    replace ez7 : z7.toInt = 3 * r5.toInt := w_mc ez7 rfl (by decide) hrz7
    intro z8 ez8
    have hrz8 : -2147483648 ≤ z7.toInt + 0 ∧ z7.toInt + 0 < 2147483648 := by (try clear j76); (try clear j136); (try clear j170); grind [NZ, k_ii, k_ir, k_ri, k_rr, k_ai, k_ar, k_li, k_lr, k_qi, k_qr, ar_ci, ar_cl, ar_cq, la_ci, la_ca, la_cq, qa_ci, qa_ca, qa_cl, tk_link, kn460]
    replace ez8 : z8.toInt = z7.toInt + 0 := w_add ez8 hrz8
    clear hrz8
    intro S9 eS9
    have nS9 : FX [] S S9 := FX_i eS9 nS5
    have nt := pS5.resolve_left (fun h => c13 h.1)
    have vS9 := vw_ci (tk := tk) (pg := pg) (sc := sc) eS9 (by decide)
    have e98 : (vw t0 tk pg sc S9).1 8 = 3 * (vw t0 tk pg sc S).1 24 := vS9.2.trans (by have := nt.2.2.1; (try clear j76); (try clear j136); (try clear j170); grind [NZ, k_ii, k_ir, k_ri, k_rr, k_ai, k_ar, k_li, k_lr, k_qi, k_qr, ar_ci, ar_cl, ar_cq, la_ci, la_ca, la_cq, qa_ci, qa_ca, qa_cl, tk_link, kn460])
    have hG_S9 : RG (vw t0 tk pg sc S9) := RG_8 (by rw [e98, vS9.1.1 24 (by decide)]; have := nt.1.1; have := hG_S.2.2.2.1; omega) vS9.1 nt.2.1
    have hB_S9 : BG 12 (vw t0 tk pg sc S9) := BG_v vS9.1 (by decide) (BG_v nt.1.2.2.2 (by decide) hB_S)
    have yS9 : TY (-2) (vw t0 tk pg sc S9) := TY_v vS9.1 (by decide) (by decide) (TY_v nt.1.2.2.2 (by decide) (by decide) hT_S)
    have PS9 : Rx 0 (vw t0 tk pg sc S9) (vw t0 tk pg sc S9) := Rx_rf
    have hL_S9 : LK (vw t0 tk pg sc S9) := LK_nt hG_S hL_S nt.1 vS9.1 e98
    have hD_S9 : DK (a0.toInt + 1) (vw t0 tk pg sc S9) := fun q9 h9 => by have d : (vw t0 tk pg sc S9).1 8 / 3 = (vw t0 tk pg sc S).1 24 := (by omega); rw [d, vS9.1.2 44 (by decide) (by decide)]; rcases nt.2.2.2.2 with c9 | ⟨c8, c9⟩; (rw [c9]; omega); (rw [c9]; have := hD_S hq c8; omega)
    refine hf_X3_block _ _ _ _ _ (fun S10 hF14 pS10 => ?_) (hr_X3_block tk pg sc _ _ _ (INJ_x nS9 (by decide) hI) (ob_h nS9 (by decide) hO14_t0) (ob_h nS9 (by decide) hO15_t0) (ob_h nS9 (by decide) hO16_t0) (Rx_g PS9 hG_S9) (BG_r PS9 hB_S9 (by decide)) yS9 (LK_r hG_S9 PS9 hL_S9) (DK_m (DK_r hG_S9 PS9 hD_S9) (by (try clear j76); (try clear j136); (try clear j170); grind [NZ, k_ii, k_ir, k_ri, k_rr, k_ai, k_ar, k_li, k_lr, k_qi, k_qr, ar_ci, ar_cl, ar_cq, la_ci, la_ca, la_cq, qa_ci, qa_ca, qa_cl, tk_link, kn460])) (by (try clear j76); (try clear j136); (try clear j170); grind [NZ, k_ii, k_ir, k_ri, k_rr, k_ai, k_ar, k_li, k_lr, k_qi, k_qr, ar_ci, ar_cl, ar_cq, la_ci, la_ca, la_cq, qa_ci, qa_ca, qa_cl, tk_link, kn460]) (by (try clear j76); (try clear j136); (try clear j170); grind [NZ, k_ii, k_ir, k_ri, k_rr, k_ai, k_ar, k_li, k_lr, k_qi, k_qr, ar_ci, ar_cl, ar_cq, la_ci, la_ca, la_cq, qa_ci, qa_ca, qa_cl, tk_link, kn460]))
    have nS10 : FX [] S S10 := FX_k hF14 (by decide) nS9
    have PS10 := Rx_tr hG_S9 PS9 pS10.1
    have yS10 := pS10.2.1
    clear hF14
    refine kmT_X3_emit _ _ _ _ _ _ (fun S11 r11 hF15 pS11 => ?_) (sr_X3_emit (tk := tk) (pg := pg) (sc := sc) _ _ _ (INJ_x nS10 (by decide) hI) (ob_h nS10 (by decide) hO14_t0) (ob_h nS10 (by decide) hO15_t0) (ob_h nS10 (by decide) hO16_t0) (Rx_g PS10 hG_S9))
    have nS11 : FX [] S S11 := FX_k hF15 (by decide) nS10
    have iS11 : 0 ≤ r11.toInt ∧ r11.toInt ≤ 8063 := ⟨pS11.1, pS11.2.1⟩
    clear hF15
    have xS11 := TX_a (D := a0.toInt) hG_S nt.1 nt.2.1 nt.2.2.2.1 (by rcases nt.2.2.2.2 with c9 | ⟨c8, c9⟩; (rw [c9]; omega); (rw [c9]; have := hD_S hq c8; omega)) nt.2.2.1 vS9.1 (by rw [e98, nt.2.2.1]) PS10 pS10.2.2 yS10 (BG_r (c1 := 60) PS10 hB_S9 (by decide)) (by decide) pS11
    refine kmT_X3_kind _ _ _ _ (fun S12 r12 hF16 pS12 => ?_) (sr_X3_kind (tk := tk) (pg := pg) (sc := sc) _ (INJ_x nS11 (by decide) hI) (ob_h nS11 (by decide) hO14_t0) (ob_h nS11 (by decide) hO15_t0) (ob_h nS11 (by decide) hO16_t0) xS11.2.1)
    obtain ⟨rfl, pS12⟩ := pS12
    clear hF16
    refine ⟨fun c17 => ?_, fun c17 => ?_⟩
    · exact j76 _ _ _ _ _ (by exact ⟨nS11, rfl, rfl, by rw [ez1]; rfl, by (try clear j76); (try clear j136); (try clear j170); grind [NZ, k_ii, k_ir, k_ri, k_rr, k_ai, k_ar, k_li, k_lr, k_qi, k_qr, ar_ci, ar_cl, ar_cq, la_ci, la_ca, la_cq, qa_ci, qa_ca, qa_cl, tk_link, kn460], TX_m xS11 (by decide)⟩)
    · refine kmT_X3_kind _ _ _ _ (fun S14 r14 hF18 pS14 => ?_) (sr_X3_kind (tk := tk) (pg := pg) (sc := sc) _ (INJ_x nS11 (by decide) hI) (ob_h nS11 (by decide) hO14_t0) (ob_h nS11 (by decide) hO15_t0) (ob_h nS11 (by decide) hO16_t0) xS11.2.1)
      obtain ⟨rfl, pS14⟩ := pS14
      clear hF18
      refine ⟨fun c19 => ?_, fun c19 => ?_⟩
      · exact j76 _ _ _ _ _ (by exact ⟨nS11, rfl, rfl, by rw [ez1]; rfl, by (try clear j76); (try clear j136); (try clear j170); grind [NZ, k_ii, k_ir, k_ri, k_rr, k_ai, k_ar, k_li, k_lr, k_qi, k_qr, ar_ci, ar_cl, ar_cq, la_ci, la_ca, la_cq, qa_ci, qa_ca, qa_cl, tk_link, kn460], TX_m xS11 (by decide)⟩)
      · refine kmT_X3_wrong _ _ _ _ _ (fun S16 hF20 pS16 => ?_) (sr_X3_wrong (tk := tk) (pg := pg) (sc := sc) _ _ (INJ_x nS11 (by decide) hI) (ob_h nS11 (by decide) hO14_t0) (ob_h nS11 (by decide) hO15_t0) (ob_h nS11 (by decide) hO16_t0) xS11.2.1 ((by decide)))
        have nS16 : FX [] S S16 := FX_k hF20 (by decide) nS11
        have VS16 := vw_k (t0 := t0) (tk := tk) (pg := pg) (sc := sc) hF20 (INJ_x nS11 (by decide) hI) (by decide) (by decide)
        clear hF20
        have xS16 : TX 0 (-3) r5.toInt a0.toInt (vw t0 tk pg sc S) (vw t0 tk pg sc S16) := TX_w xS11 VS16 pS16.2 (pS16.1.1 xS11.2.1)
        exact j76 _ _ _ _ _ (by exact ⟨nS16, rfl, rfl, by rw [ez1]; rfl, by (try clear j76); (try clear j136); (try clear j170); grind [NZ, k_ii, k_ir, k_ri, k_rr, k_ai, k_ar, k_li, k_lr, k_qi, k_qr, ar_ci, ar_cl, ar_cq, la_ci, la_ca, la_cq, qa_ci, qa_ca, qa_cl, tk_link, kn460], xS16⟩)
  · refine kmT_X3_wrong _ _ _ _ _ (fun S17 hF21 pS17 => ?_) (sr_X3_wrong (tk := tk) (pg := pg) (sc := sc) _ _ (INJ_x nS5 (by decide) hI) (ob_h nS5 (by decide) hO14_t0) (ob_h nS5 (by decide) hO15_t0) (ob_h nS5 (by decide) hO16_t0) (Rx_g PS5 hG_S5) ((by decide)))
    have nS17 : FX [] S S17 := FX_k hF21 (by decide) nS5
    have PS17 := Rx_tr hG_S5 PS5 pS17.1
    have fS17 : (vw t0 tk pg sc S17).1 7 ≠ 0 := pS17.2
    clear hF21
    exact ⟨Rx_m (Rx_tr hG_S (Rx_eq (by rw [(pS5.resolve_right (fun h => absurd (show r5.toInt = -1 by rw [c13]; rfl) (by have := h.2.2.1; have := hG_S.2.2.2.1.1; omega))).2])) PS17) (by decide), fun q => absurd q fS17⟩
