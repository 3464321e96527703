
set_option maxHeartbeats 400000 in
theorem sk_X3_listed {n : Int} {r_X3_waitFor : Nat → Int32 → kS → (kS → Prop) → Prop} (hf_X3_waitFor : ∀ t0 : Nat, ∀ a0 : Int32, KmV [6, 7, 11, 17] [] [17, 18, 19, 28, 29, 30, 35] [20, 39] [] (r_X3_waitFor t0 a0)) (hr_X3_waitFor : ∀ (tk pg sc : Nat) (t0 : Nat) (a0 : Int32) (S : kS), INJ S → S.2.1 14 t0 = some tk → S.2.1 15 t0 = some pg → S.2.1 16 t0 = some sc → RG (vw t0 tk pg sc S) → BG 12 (vw t0 tk pg sc S) → TY ((2 * a0.toInt)) (vw t0 tk pg sc S) → (0 ≤ a0.toInt ∧ a0.toInt ≤ 10) → (11 - a0.toInt ≤ n) → r_X3_waitFor t0 a0 S (fun S1 => Rx (-1) (vw t0 tk pg sc S) (vw t0 tk pg sc S1) ∧ TY ((wo a0.toInt)) (vw t0 tk pg sc S1))) {tk pg sc : Nat} {t : Int} (t0 : Nat) (a0 : Int32) (a1 : Int32) {S : kS} (hI : INJ S) (hO14_t0 : S.2.1 14 t0 = some tk) (hO15_t0 : S.2.1 15 t0 = some pg) (hO16_t0 : S.2.1 16 t0 = some sc) (hG_S : RG (vw t0 tk pg sc S)) (hB_S : BG 12 (vw t0 tk pg sc S)) (hT_S : TY t (vw t0 tk pg sc S)) (ht : 0 ≤ t) (hd : 0 ≤ a1.toInt ∧ a1.toInt ≤ 9) (hs : a0 = 30 ∨ (¬ a0 = 30 ∧ t = 2 * (a1.toInt + 1))) (hn : 10 - a1.toInt ≤ n) : wT_X3_listed r_X3_waitFor t0 a0 a1 S (fun S1 r => Rx (-4) (vw t0 tk pg sc S) (vw t0 tk pg sc S1) ∧ TY t (vw t0 tk pg sc S1)) := by
  have nS : FX [] S S := FX_rf
  have PS : Rx 0 (vw t0 tk pg sc S) (vw t0 tk pg sc S) := Rx_rf
  have yS := hT_S
  unfold wT_X3_listed
  have j39 : ∀ (x0 : Nat) (x2 : Int32) (x3 : Int32) (x4 : Int32) (y0 : Int32) (Sx : kS), ((FX [] S Sx) ∧ (Rx (-2) (vw t0 tk pg sc S) (vw t0 tk pg sc Sx) ∧ TY ((t)) (vw t0 tk pg sc Sx) ∧ (t0 = x0 ∧ a1 = x2 ∧ (x3 = 0 ∨ x3 = 1) ∧ (x3 = 0 → t = 2 * (a1.toInt + 1)) ∧ x4 = 0 ∧ (y0 = 0 ∨ y0 = 1)))) → wT_X3_listed_39 r_X3_waitFor (fun S1 r => Rx (-4) (vw t0 tk pg sc S) (vw t0 tk pg sc S1) ∧ TY t (vw t0 tk pg sc S1)) x0 x2 x3 x4 y0 Sx := by
    intro x0 x2 x3 x4 y0 Sx hJ39
    obtain ⟨nSx, hJ39⟩ := hJ39
    unfold wT_X3_listed_39
    obtain ⟨PSx, ySx, hJ39⟩ := hJ39
    obtain ⟨rfl, hJ39⟩ := hJ39
    obtain ⟨rfl, hJ39⟩ := hJ39
    refine it_rule (fun u : Nat × Int32 × Int32 × Int32 × Int32 × Int32 × kS => (FX [] S u.2.2.2.2.2.2) ∧ (t0 = u.1 ∧ a1 = u.2.1 ∧ Rx (-2) (vw t0 tk pg sc S) (vw t0 tk pg sc u.2.2.2.2.2.2) ∧ TY ((t)) (vw t0 tk pg sc u.2.2.2.2.2.2) ∧ ((u.2.2.1 = 0 ∨ u.2.2.1 = 1) ∧ (u.2.2.1 = 0 → t = 2 * (a1.toInt + 1)) ∧ 0 ≤ u.2.2.2.2.2.1.toInt ∧ u.2.2.2.2.2.1.toInt ≤ 4000 ∧ 0 ≤ u.2.2.2.1.toInt ∧ u.2.2.2.1.toInt ≤ u.2.2.2.2.2.1.toInt))) (fun u => (4000 - u.2.2.2.2.2.1.toInt).toNat) ?_ (by exact ⟨nSx, rfl, rfl, Rx_m PSx (by decide), ySx, by (try clear j39); (try clear hk44); grind [NZ, k_ii, k_ir, k_ri, k_rr, k_ai, k_ar, k_li, k_lr, k_qi, k_qr, ar_ci, ar_cl, ar_cq, la_ci, la_ca, la_cq, qa_ci, qa_ca, qa_cl, tk_link]⟩)
    rintro ⟨x0, x2, x3, x4, x5, x6, Sl44⟩ k44 hI44 hk44
    replace hI44 : (FX [] S Sl44) ∧ (t0 = x0 ∧ a1 = x2 ∧ Rx (-2) (vw t0 tk pg sc S) (vw t0 tk pg sc Sl44) ∧ TY ((t)) (vw t0 tk pg sc Sl44) ∧ ((x3 = 0 ∨ x3 = 1) ∧ (x3 = 0 → t = 2 * (a1.toInt + 1)) ∧ 0 ≤ x6.toInt ∧ x6.toInt ≤ 4000 ∧ 0 ≤ x4.toInt ∧ x4.toInt ≤ x6.toInt)) := hI44
    obtain ⟨nSl44, hI44⟩ := hI44
    replace hk44 : ∀ v : Nat × Int32 × Int32 × Int32 × Int32 × Int32 × kS, (FX [] S v.2.2.2.2.2.2) ∧ (t0 = v.1 ∧ a1 = v.2.1 ∧ Rx (-2) (vw t0 tk pg sc S) (vw t0 tk pg sc v.2.2.2.2.2.2) ∧ TY ((t)) (vw t0 tk pg sc v.2.2.2.2.2.2) ∧ ((v.2.2.1 = 0 ∨ v.2.2.1 = 1) ∧ (v.2.2.1 = 0 → t = 2 * (a1.toInt + 1)) ∧ 0 ≤ v.2.2.2.2.2.1.toInt ∧ v.2.2.2.2.2.1.toInt ≤ 4000 ∧ 0 ≤ v.2.2.2.1.toInt ∧ v.2.2.2.1.toInt ≤ v.2.2.2.2.2.1.toInt)) → (4000 - v.2.2.2.2.2.1.toInt).toNat < (4000 - x6.toInt).toNat → k44 v := hk44
    show wT_X3_listed_44 _ _ k44 x0 x2 x3 x4 x5 x6 Sl44
    unfold wT_X3_listed_44
    obtain ⟨rfl, hI44⟩ := hI44
    obtain ⟨rfl, hI44⟩ := hI44
    obtain ⟨PSl44, ySl44, hI44⟩ := hI44
    refine ⟨fun c1 => ?_, fun c1 => ?_⟩
    · unfold wT_X3_listed_114
      refine kmT_X3_need _ _ _ _ _ (fun S20 hF2 pS20 => ?_) (sk_X3_need (tk := tk) (pg := pg) (sc := sc) _ _ (INJ_x nSl44 (by decide) hI) (ob_h nSl44 (by decide) hO14_t0) (ob_h nSl44 (by decide) hO15_t0) (ob_h nSl44 (by decide) hO16_t0) (Rx_g PSl44 hG_S))
      have nS20 : FX [] S S20 := FX_k hF2 (by decide) nSl44
      have PS20 := Rx_tr hG_S PSl44 pS20
      have yS20 := TY_r pS20 ySl44 ((vw_k hF2 (INJ_x nSl44 (by decide) hI) (by decide) (by decide)).1 17 (by decide)) ((vw_k hF2 (INJ_x nSl44 (by decide) hI) (by decide) (by decide)).2 28 (by decide) (by decide))
      clear hF2
      exact ⟨Rx_m PS20 (by decide), yS20⟩
    · refine ⟨fun c3 => ?_, fun c3 => ?_⟩
      · unfold wT_X3_listed_114
        refine kmT_X3_need _ _ _ _ _ (fun S20 hF4 pS20 => ?_) (sk_X3_need (tk := tk) (pg := pg) (sc := sc) _ _ (INJ_x nSl44 (by decide) hI) (ob_h nSl44 (by decide) hO14_t0) (ob_h nSl44 (by decide) hO15_t0) (ob_h nSl44 (by decide) hO16_t0) (Rx_g PSl44 hG_S))
        have nS20 : FX [] S S20 := FX_k hF4 (by decide) nSl44
        have PS20 := Rx_tr hG_S PSl44 pS20
        have yS20 := TY_r pS20 ySl44 ((vw_k hF4 (INJ_x nSl44 (by decide) hI) (by decide) (by decide)).1 17 (by decide)) ((vw_k hF4 (INJ_x nSl44 (by decide) hI) (by decide) (by decide)).2 28 (by decide) (by decide))
        clear hF4
        exact ⟨Rx_m PS20 (by decide), yS20⟩
      · refine ⟨fun c5 => ?_, fun c5 => ?_⟩
        · refine ⟨fun c6 => ?_, fun c6 => ?_⟩
          · unfold wT_X3_listed_90
            intro z18 ez18
            have hrz18 : -2147483648 ≤ a1.toInt + 1 ∧ a1.toInt + 1 < 2147483648 := by (try clear j39); (try clear hk44); grind [NZ, k_ii, k_ir, k_ri, k_rr, k_ai, k_ar, k_li, k_lr, k_qi, k_qr, ar_ci, ar_cl, ar_cq, la_ci, la_ca, la_cq, qa_ci, qa_ca, qa_cl, tk_link]
            replace ez18 : z18.toInt = a1.toInt + 1 := w_add ez18 hrz18
            clear hrz18
            refine hf_X3_waitFor _ _ _ _ _ (fun S19 hF7 pS19 => ?_) (hr_X3_waitFor tk pg sc _ _ _ (INJ_x nSl44 (by decide) hI) (ob_h nSl44 (by decide) hO14_t0) (ob_h nSl44 (by decide) hO15_t0) (ob_h nSl44 (by decide) hO16_t0) (Rx_g PSl44 hG_S) (BG_r PSl44 hB_S (by decide)) ((TY_e ySl44 (by (try clear j39); (try clear hk44); grind [NZ, k_ii, k_ir, k_ri, k_rr, k_ai, k_ar, k_li, k_lr, k_qi, k_qr, ar_ci, ar_cl, ar_cq, la_ci, la_ca, la_cq, qa_ci, qa_ca, qa_cl, tk_link]))) (by (try clear j39); (try clear hk44); grind [NZ, k_ii, k_ir, k_ri, k_rr, k_ai, k_ar, k_li, k_lr, k_qi, k_qr, ar_ci, ar_cl, ar_cq, la_ci, la_ca, la_cq, qa_ci, qa_ca, qa_cl, tk_link]) (by (try clear j39); (try clear hk44); grind [NZ, k_ii, k_ir, k_ri, k_rr, k_ai, k_ar, k_li, k_lr, k_qi, k_qr, ar_ci, ar_cl, ar_cq, la_ci, la_ca, la_cq, qa_ci, qa_ca, qa_cl, tk_link]))
            have nS19 : FX [] S S19 := FX_k hF7 (by decide) nSl44
            have PS19 := Rx_tr hG_S PSl44 pS19.1
            have yS19 := pS19.2
            clear hF7
            replace yS19 : TY (t) (vw t0 tk pg sc S19) := TY_e yS19 (by unfold wo; (try clear j39); (try clear hk44); grind [NZ, k_ii, k_ir, k_ri, k_rr, k_ai, k_ar, k_li, k_lr, k_qi, k_qr, ar_ci, ar_cl, ar_cq, la_ci, la_ca, la_cq, qa_ci, qa_ca, qa_cl, tk_link])
            unfold wT_X3_listed_97
            intro z15 ez15
            have hrz15 : -2147483648 ≤ x4.toInt + 1 ∧ x4.toInt + 1 < 2147483648 := by (try clear j39); (try clear hk44); grind [NZ, k_ii, k_ir, k_ri, k_rr, k_ai, k_ar, k_li, k_lr, k_qi, k_qr, ar_ci, ar_cl, ar_cq, la_ci, la_ca, la_cq, qa_ci, qa_ca, qa_cl, tk_link]
            replace ez15 : z15.toInt = x4.toInt + 1 := w_add ez15 hrz15
            clear hrz15
            refine kmT_X3_take _ _ _ _ _ (fun S16 r16 hF8 pS16 => ?_) (sr_X3_take (tk := tk) (pg := pg) (sc := sc) _ _ (INJ_x nS19 (by decide) hI) (ob_h nS19 (by decide) hO14_t0) (ob_h nS19 (by decide) hO15_t0) (ob_h nS19 (by decide) hO16_t0) (Rx_g PS19 hG_S))
            have nS16 : FX [] S S16 := FX_k hF8 (by decide) nS19
            have PS16 := Rx_tr hG_S PS19 pS16.1
            have yS16 := TY_r pS16.1 yS19 ((vw_k hF8 (INJ_x nS19 (by decide) hI) (by decide) (by decide)).1 17 (by decide)) ((vw_k hF8 (INJ_x nS19 (by decide) hI) (by decide) (by decide)).2 28 (by decide) (by decide))
            clear hF8
            intro z17 ez17
            have hrz17 : -2147483648 ≤ x6.toInt + 1 ∧ x6.toInt + 1 < 2147483648 := by (try clear j39); (try clear hk44); grind [NZ, k_ii, k_ir, k_ri, k_rr, k_ai, k_ar, k_li, k_lr, k_qi, k_qr, ar_ci, ar_cl, ar_cq, la_ci, la_ca, la_cq, qa_ci, qa_ca, qa_cl, tk_link]
            replace ez17 : z17.toInt = x6.toInt + 1 := w_add ez17 hrz17
            clear hrz17
            exact hk44 _ (by exact ⟨nS16, rfl, rfl, Rx_m PS16 (by decide), yS16, by (try clear j39); (try clear hk44); grind [NZ, k_ii, k_ir, k_ri, k_rr, k_ai, k_ar, k_li, k_lr, k_qi, k_qr, ar_ci, ar_cl, ar_cq, la_ci, la_ca, la_cq, qa_ci, qa_ca, qa_cl, tk_link]⟩) (by (try clear j39); (try clear hk44); grind [NZ, k_ii, k_ir, k_ri, k_rr, k_ai, k_ar, k_li, k_lr, k_qi, k_qr, ar_ci, ar_cl, ar_cq, la_ci, la_ca, la_cq, qa_ci, qa_ca, qa_cl, tk_link])
          · refine kmT_X3_kind _ _ _ _ (fun S10 r10 hF9 pS10 => ?_) (sr_X3_kind (tk := tk) (pg := pg) (sc := sc) _ (INJ_x nSl44 (by decide) hI) (ob_h nSl44 (by decide) hO14_t0) (ob_h nSl44 (by decide) hO15_t0) (ob_h nSl44 (by decide) hO16_t0) (Rx_g PSl44 hG_S))
            obtain ⟨rfl, pS10⟩ := pS10
            clear hF9
            refine kmT_X3_startsWait _ _ _ _ (fun S11 r11 hF10 pS11 => ?_) (sk_X3_startsWait _ (INJ_x nSl44 (by decide) hI) )
            obtain ⟨rfl, pS11⟩ := pS11
            clear hF10
            refine ⟨fun c11 => ?_, fun c11 => ?_⟩
            · unfold wT_X3_listed_90
              intro z18 ez18
              have hrz18 : -2147483648 ≤ a1.toInt + 1 ∧ a1.toInt + 1 < 2147483648 := by (try clear j39); (try clear hk44); grind [NZ, k_ii, k_ir, k_ri, k_rr, k_ai, k_ar, k_li, k_lr, k_qi, k_qr, ar_ci, ar_cl, ar_cq, la_ci, la_ca, la_cq, qa_ci, qa_ca, qa_cl, tk_link]
              replace ez18 : z18.toInt = a1.toInt + 1 := w_add ez18 hrz18
              clear hrz18
              refine hf_X3_waitFor _ _ _ _ _ (fun S19 hF12 pS19 => ?_) (hr_X3_waitFor tk pg sc _ _ _ (INJ_x nSl44 (by decide) hI) (ob_h nSl44 (by decide) hO14_t0) (ob_h nSl44 (by decide) hO15_t0) (ob_h nSl44 (by decide) hO16_t0) (Rx_g PSl44 hG_S) (BG_r PSl44 hB_S (by decide)) ((TY_e ySl44 (by (try clear j39); (try clear hk44); grind [NZ, k_ii, k_ir, k_ri, k_rr, k_ai, k_ar, k_li, k_lr, k_qi, k_qr, ar_ci, ar_cl, ar_cq, la_ci, la_ca, la_cq, qa_ci, qa_ca, qa_cl, tk_link]))) (by (try clear j39); (try clear hk44); grind [NZ, k_ii, k_ir, k_ri, k_rr, k_ai, k_ar, k_li, k_lr, k_qi, k_qr, ar_ci, ar_cl, ar_cq, la_ci, la_ca, la_cq, qa_ci, qa_ca, qa_cl, tk_link]) (by (try clear j39); (try clear hk44); grind [NZ, k_ii, k_ir, k_ri, k_rr, k_ai, k_ar, k_li, k_lr, k_qi, k_qr, ar_ci, ar_cl, ar_cq, la_ci, la_ca, la_cq, qa_ci, qa_ca, qa_cl, tk_link]))
              have nS19 : FX [] S S19 := FX_k hF12 (by decide) nSl44
              have PS19 := Rx_tr hG_S PSl44 pS19.1
              have yS19 := pS19.2
              clear hF12
              replace yS19 : TY (t) (vw t0 tk pg sc S19) := TY_e yS19 (by unfold wo; (try clear j39); (try clear hk44); grind [NZ, k_ii, k_ir, k_ri, k_rr, k_ai, k_ar, k_li, k_lr, k_qi, k_qr, ar_ci, ar_cl, ar_cq, la_ci, la_ca, la_cq, qa_ci, qa_ca, qa_cl, tk_link])
              unfold wT_X3_listed_97
              intro z15 ez15
              have hrz15 : -2147483648 ≤ x4.toInt + 1 ∧ x4.toInt + 1 < 2147483648 := by (try clear j39); (try clear hk44); grind [NZ, k_ii, k_ir, k_ri, k_rr, k_ai, k_ar, k_li, k_lr, k_qi, k_qr, ar_ci, ar_cl, ar_cq, la_ci, la_ca, la_cq, qa_ci, qa_ca, qa_cl, tk_link]
              replace ez15 : z15.toInt = x4.toInt + 1 := w_add ez15 hrz15
              clear hrz15
              refine kmT_X3_take _ _ _ _ _ (fun S16 r16 hF13 pS16 => ?_) (sr_X3_take (tk := tk) (pg := pg) (sc := sc) _ _ (INJ_x nS19 (by decide) hI) (ob_h nS19 (by decide) hO14_t0) (ob_h nS19 (by decide) hO15_t0) (ob_h nS19 (by decide) hO16_t0) (Rx_g PS19 hG_S))
              have nS16 : FX [] S S16 := FX_k hF13 (by decide) nS19
              have PS16 := Rx_tr hG_S PS19 pS16.1
              have yS16 := TY_r pS16.1 yS19 ((vw_k hF13 (INJ_x nS19 (by decide) hI) (by decide) (by decide)).1 17 (by decide)) ((vw_k hF13 (INJ_x nS19 (by decide) hI) (by decide) (by decide)).2 28 (by decide) (by decide))
              clear hF13
              intro z17 ez17
              have hrz17 : -2147483648 ≤ x6.toInt + 1 ∧ x6.toInt + 1 < 2147483648 := by (try clear j39); (try clear hk44); grind [NZ, k_ii, k_ir, k_ri, k_rr, k_ai, k_ar, k_li, k_lr, k_qi, k_qr, ar_ci, ar_cl, ar_cq, la_ci, la_ca, la_cq, qa_ci, qa_ca, qa_cl, tk_link]
              replace ez17 : z17.toInt = x6.toInt + 1 := w_add ez17 hrz17
              clear hrz17
              exact hk44 _ (by exact ⟨nS16, rfl, rfl, Rx_m PS16 (by decide), yS16, by (try clear j39); (try clear hk44); grind [NZ, k_ii, k_ir, k_ri, k_rr, k_ai, k_ar, k_li, k_lr, k_qi, k_qr, ar_ci, ar_cl, ar_cq, la_ci, la_ca, la_cq, qa_ci, qa_ca, qa_cl, tk_link]⟩) (by (try clear j39); (try clear hk44); grind [NZ, k_ii, k_ir, k_ri, k_rr, k_ai, k_ar, k_li, k_lr, k_qi, k_qr, ar_ci, ar_cl, ar_cq, la_ci, la_ca, la_cq, qa_ci, qa_ca, qa_cl, tk_link])
            · refine kmT_X3_wrong _ _ _ _ _ (fun S13 hF14 pS13 => ?_) (sr_X3_wrong (tk := tk) (pg := pg) (sc := sc) _ _ (INJ_x nSl44 (by decide) hI) (ob_h nSl44 (by decide) hO14_t0) (ob_h nSl44 (by decide) hO15_t0) (ob_h nSl44 (by decide) hO16_t0) (Rx_g PSl44 hG_S) ((by decide)))
              have nS13 : FX [] S S13 := FX_k hF14 (by decide) nSl44
              have PS13 := Rx_tr hG_S PSl44 pS13.1
              have fS13 : (vw t0 tk pg sc S13).1 7 ≠ 0 := pS13.2
              clear hF14
              unfold wT_X3_listed_90
              intro z18 ez18
              have hrz18 : -2147483648 ≤ a1.toInt + 1 ∧ a1.toInt + 1 < 2147483648 := by (try clear j39); (try clear hk44); grind [NZ, k_ii, k_ir, k_ri, k_rr, k_ai, k_ar, k_li, k_lr, k_qi, k_qr, ar_ci, ar_cl, ar_cq, la_ci, la_ca, la_cq, qa_ci, qa_ca, qa_cl, tk_link]
              replace ez18 : z18.toInt = a1.toInt + 1 := w_add ez18 hrz18
              clear hrz18
              refine hf_X3_waitFor _ _ _ _ _ (fun S19 hF15 pS19 => ?_) (hr_X3_waitFor tk pg sc _ _ _ (INJ_x nS13 (by decide) hI) (ob_h nS13 (by decide) hO14_t0) (ob_h nS13 (by decide) hO15_t0) (ob_h nS13 (by decide) hO16_t0) (Rx_g PS13 hG_S) (BG_r PS13 hB_S (by decide)) ((fun q => absurd q fS13)) (by (try clear j39); (try clear hk44); grind [NZ, k_ii, k_ir, k_ri, k_rr, k_ai, k_ar, k_li, k_lr, k_qi, k_qr, ar_ci, ar_cl, ar_cq, la_ci, la_ca, la_cq, qa_ci, qa_ca, qa_cl, tk_link]) (by (try clear j39); (try clear hk44); grind [NZ, k_ii, k_ir, k_ri, k_rr, k_ai, k_ar, k_li, k_lr, k_qi, k_qr, ar_ci, ar_cl, ar_cq, la_ci, la_ca, la_cq, qa_ci, qa_ca, qa_cl, tk_link]))
              have nS19 : FX [] S S19 := FX_k hF15 (by decide) nS13
              have PS19 := Rx_tr hG_S PS13 pS19.1
              have fS19 : (vw t0 tk pg sc S19).1 7 ≠ 0 := fun h9 => fS13 (pS19.1.2.2.1 h9)
              clear hF15
              unfold wT_X3_listed_97
              intro z15 ez15
              have hrz15 : -2147483648 ≤ x4.toInt + 1 ∧ x4.toInt + 1 < 2147483648 := by (try clear j39); (try clear hk44); grind [NZ, k_ii, k_ir, k_ri, k_rr, k_ai, k_ar, k_li, k_lr, k_qi, k_qr, ar_ci, ar_cl, ar_cq, la_ci, la_ca, la_cq, qa_ci, qa_ca, qa_cl, tk_link]
              replace ez15 : z15.toInt = x4.toInt + 1 := w_add ez15 hrz15
              clear hrz15
              refine kmT_X3_take _ _ _ _ _ (fun S16 r16 hF16 pS16 => ?_) (sr_X3_take (tk := tk) (pg := pg) (sc := sc) _ _ (INJ_x nS19 (by decide) hI) (ob_h nS19 (by decide) hO14_t0) (ob_h nS19 (by decide) hO15_t0) (ob_h nS19 (by decide) hO16_t0) (Rx_g PS19 hG_S))
              have nS16 : FX [] S S16 := FX_k hF16 (by decide) nS19
              have PS16 := Rx_tr hG_S PS19 pS16.1
              have fS16 : (vw t0 tk pg sc S16).1 7 ≠ 0 := fun h9 => fS19 (pS16.1.2.2.1 h9)
              clear hF16
              intro z17 ez17
              have hrz17 : -2147483648 ≤ x6.toInt + 1 ∧ x6.toInt + 1 < 2147483648 := by (try clear j39); (try clear hk44); grind [NZ, k_ii, k_ir, k_ri, k_rr, k_ai, k_ar, k_li, k_lr, k_qi, k_qr, ar_ci, ar_cl, ar_cq, la_ci, la_ca, la_cq, qa_ci, qa_ca, qa_cl, tk_link]
              replace ez17 : z17.toInt = x6.toInt + 1 := w_add ez17 hrz17
              clear hrz17
              exact hk44 _ (by exact ⟨nS16, rfl, rfl, Rx_m PS16 (by decide), (fun q => absurd q fS16), by (try clear j39); (try clear hk44); grind [NZ, k_ii, k_ir, k_ri, k_rr, k_ai, k_ar, k_li, k_lr, k_qi, k_qr, ar_ci, ar_cl, ar_cq, la_ci, la_ca, la_cq, qa_ci, qa_ca, qa_cl, tk_link]⟩) (by (try clear j39); (try clear hk44); grind [NZ, k_ii, k_ir, k_ri, k_rr, k_ai, k_ar, k_li, k_lr, k_qi, k_qr, ar_ci, ar_cl, ar_cq, la_ci, la_ca, la_cq, qa_ci, qa_ca, qa_cl, tk_link])
        · refine kqT_X3_expression _ _ _ _ _ (fun S14 hF17 pS14 => ?_) (sq_X3_expression (tk := tk) (pg := pg) (sc := sc) (t := (t)) _ _ (INJ_x nSl44 (by decide) hI) (ob_h nSl44 (by decide) hO14_t0) (ob_h nSl44 (by decide) hO15_t0) (ob_h nSl44 (by decide) hO16_t0) (Rx_g PSl44 hG_S) (BG_r PSl44 hB_S (by decide)) ySl44 (by (try clear j39); (try clear hk44); grind [NZ, k_ii, k_ir, k_ri, k_rr, k_ai, k_ar, k_li, k_lr, k_qi, k_qr, ar_ci, ar_cl, ar_cq, la_ci, la_ca, la_cq, qa_ci, qa_ca, qa_cl, tk_link]) ((by decide)))
          have nS14 : FX [] S S14 := FX_k hF17 (by decide) nSl44
          have PS14 := Rx_tr hG_S PSl44 pS14.1
          have yS14 : TY ((t)) (vw t0 tk pg sc S14) := TY_e pS14.2 (exo_p (by (try clear j39); (try clear hk44); grind [NZ, k_ii, k_ir, k_ri, k_rr, k_ai, k_ar, k_li, k_lr, k_qi, k_qr, ar_ci, ar_cl, ar_cq, la_ci, la_ca, la_cq, qa_ci, qa_ca, qa_cl, tk_link]))
          clear hF17
          unfold wT_X3_listed_97
          intro z15 ez15
          have hrz15 : -2147483648 ≤ x4.toInt + 1 ∧ x4.toInt + 1 < 2147483648 := by (try clear j39); (try clear hk44); grind [NZ, k_ii, k_ir, k_ri, k_rr, k_ai, k_ar, k_li, k_lr, k_qi, k_qr, ar_ci, ar_cl, ar_cq, la_ci, la_ca, la_cq, qa_ci, qa_ca, qa_cl, tk_link]
          replace ez15 : z15.toInt = x4.toInt + 1 := w_add ez15 hrz15
          clear hrz15
          refine kmT_X3_take _ _ _ _ _ (fun S16 r16 hF18 pS16 => ?_) (sr_X3_take (tk := tk) (pg := pg) (sc := sc) _ _ (INJ_x nS14 (by decide) hI) (ob_h nS14 (by decide) hO14_t0) (ob_h nS14 (by decide) hO15_t0) (ob_h nS14 (by decide) hO16_t0) (Rx_g PS14 hG_S))
          have nS16 : FX [] S S16 := FX_k hF18 (by decide) nS14
          have PS16 := Rx_tr hG_S PS14 pS16.1
          have yS16 := TY_r pS16.1 yS14 ((vw_k hF18 (INJ_x nS14 (by decide) hI) (by decide) (by decide)).1 17 (by decide)) ((vw_k hF18 (INJ_x nS14 (by decide) hI) (by decide) (by decide)).2 28 (by decide) (by decide))
          clear hF18
          intro z17 ez17
          have hrz17 : -2147483648 ≤ x6.toInt + 1 ∧ x6.toInt + 1 < 2147483648 := by (try clear j39); (try clear hk44); grind [NZ, k_ii, k_ir, k_ri, k_rr, k_ai, k_ar, k_li, k_lr, k_qi, k_qr, ar_ci, ar_cl, ar_cq, la_ci, la_ca, la_cq, qa_ci, qa_ca, qa_cl, tk_link]
          replace ez17 : z17.toInt = x6.toInt + 1 := w_add ez17 hrz17
          clear hrz17
          exact hk44 _ (by exact ⟨nS16, rfl, rfl, Rx_m PS16 (by decide), yS16, by (try clear j39); (try clear hk44); grind [NZ, k_ii, k_ir, k_ri, k_rr, k_ai, k_ar, k_li, k_lr, k_qi, k_qr, ar_ci, ar_cl, ar_cq, la_ci, la_ca, la_cq, qa_ci, qa_ca, qa_cl, tk_link]⟩) (by (try clear j39); (try clear hk44); grind [NZ, k_ii, k_ir, k_ri, k_rr, k_ai, k_ar, k_li, k_lr, k_qi, k_qr, ar_ci, ar_cl, ar_cq, la_ci, la_ca, la_cq, qa_ci, qa_ca, qa_cl, tk_link])
  refine ⟨fun c19 => ?_, fun c19 => ?_⟩
  · unfold wT_X3_listed_11
    refine kmT_X3_need _ _ _ _ _ (fun S2 hF20 pS2 => ?_) (sk_X3_need (tk := tk) (pg := pg) (sc := sc) _ _ (INJ_x nS (by decide) hI) (ob_h nS (by decide) hO14_t0) (ob_h nS (by decide) hO15_t0) (ob_h nS (by decide) hO16_t0) (Rx_g PS hG_S))
    have nS2 : FX [] S S2 := FX_k hF20 (by decide) nS
    have PS2 := Rx_tr hG_S PS pS2
    have yS2 := TY_r pS2 yS ((vw_k hF20 (INJ_x nS (by decide) hI) (by decide) (by decide)).1 17 (by decide)) ((vw_k hF20 (INJ_x nS (by decide) hI) (by decide) (by decide)).2 28 (by decide) (by decide))
    clear hF20
    refine ⟨fun c21 => ?_, fun c21 => ?_⟩
    · unfold wT_X3_listed_34
      exact j39 _ _ _ _ _ _ (by exact ⟨nS2, Rx_m PS2 (by decide), yS2, by (try clear j39); (try clear hk44); grind [NZ, k_ii, k_ir, k_ri, k_rr, k_ai, k_ar, k_li, k_lr, k_qi, k_qr, ar_ci, ar_cl, ar_cq, la_ci, la_ca, la_cq, qa_ci, qa_ca, qa_cl, tk_link]⟩)
    · refine kmT_X3_kind _ _ _ _ (fun S4 r4 hF22 pS4 => ?_) (sr_X3_kind (tk := tk) (pg := pg) (sc := sc) _ (INJ_x nS2 (by decide) hI) (ob_h nS2 (by decide) hO14_t0) (ob_h nS2 (by decide) hO15_t0) (ob_h nS2 (by decide) hO16_t0) (Rx_g PS2 hG_S))
      obtain ⟨rfl, pS4⟩ := pS4
      clear hF22
      refine ⟨fun c23 => ?_, fun c23 => ?_⟩
      · exact j39 _ _ _ _ _ _ (by exact ⟨nS2, Rx_m PS2 (by decide), yS2, by (try clear j39); (try clear hk44); grind [NZ, k_ii, k_ir, k_ri, k_rr, k_ai, k_ar, k_li, k_lr, k_qi, k_qr, ar_ci, ar_cl, ar_cq, la_ci, la_ca, la_cq, qa_ci, qa_ca, qa_cl, tk_link]⟩)
      · unfold wT_X3_listed_34
        exact j39 _ _ _ _ _ _ (by exact ⟨nS2, Rx_m PS2 (by decide), yS2, by (try clear j39); (try clear hk44); grind [NZ, k_ii, k_ir, k_ri, k_rr, k_ai, k_ar, k_li, k_lr, k_qi, k_qr, ar_ci, ar_cl, ar_cq, la_ci, la_ca, la_cq, qa_ci, qa_ca, qa_cl, tk_link]⟩)
  · unfold wT_X3_listed_11
    refine kmT_X3_need _ _ _ _ _ (fun S2 hF24 pS2 => ?_) (sk_X3_need (tk := tk) (pg := pg) (sc := sc) _ _ (INJ_x nS (by decide) hI) (ob_h nS (by decide) hO14_t0) (ob_h nS (by decide) hO15_t0) (ob_h nS (by decide) hO16_t0) (Rx_g PS hG_S))
    have nS2 : FX [] S S2 := FX_k hF24 (by decide) nS
    have PS2 := Rx_tr hG_S PS pS2
    have yS2 := TY_r pS2 yS ((vw_k hF24 (INJ_x nS (by decide) hI) (by decide) (by decide)).1 17 (by decide)) ((vw_k hF24 (INJ_x nS (by decide) hI) (by decide) (by decide)).2 28 (by decide) (by decide))
    clear hF24
    refine ⟨fun c25 => ?_, fun c25 => ?_⟩
    · unfold wT_X3_listed_34
      exact j39 _ _ _ _ _ _ (by exact ⟨nS2, Rx_m PS2 (by decide), yS2, by (try clear j39); (try clear hk44); grind [NZ, k_ii, k_ir, k_ri, k_rr, k_ai, k_ar, k_li, k_lr, k_qi, k_qr, ar_ci, ar_cl, ar_cq, la_ci, la_ca, la_cq, qa_ci, qa_ca, qa_cl, tk_link]⟩)
    · refine kmT_X3_kind _ _ _ _ (fun S4 r4 hF26 pS4 => ?_) (sr_X3_kind (tk := tk) (pg := pg) (sc := sc) _ (INJ_x nS2 (by decide) hI) (ob_h nS2 (by decide) hO14_t0) (ob_h nS2 (by decide) hO15_t0) (ob_h nS2 (by decide) hO16_t0) (Rx_g PS2 hG_S))
      obtain ⟨rfl, pS4⟩ := pS4
      clear hF26
      refine ⟨fun c27 => ?_, fun c27 => ?_⟩
      · exact j39 _ _ _ _ _ _ (by exact ⟨nS2, Rx_m PS2 (by decide), yS2, by (try clear j39); (try clear hk44); grind [NZ, k_ii, k_ir, k_ri, k_rr, k_ai, k_ar, k_li, k_lr, k_qi, k_qr, ar_ci, ar_cl, ar_cq, la_ci, la_ca, la_cq, qa_ci, qa_ca, qa_cl, tk_link]⟩)
      · unfold wT_X3_listed_34
        exact j39 _ _ _ _ _ _ (by exact ⟨nS2, Rx_m PS2 (by decide), yS2, by (try clear j39); (try clear hk44); grind [NZ, k_ii, k_ir, k_ri, k_rr, k_ai, k_ar, k_li, k_lr, k_qi, k_qr, ar_ci, ar_cl, ar_cq, la_ci, la_ca, la_cq, qa_ci, qa_ca, qa_cl, tk_link]⟩)
