
set_option maxHeartbeats 400000 in
theorem sk_X6_leave {h pg sc : Nat} {W : Int → Prop} (t0 : Nat) (a0 : Nat) (a1 : Int32) (a2 : Int32) (a3 : Int32) {S : kS} (hI : INJ S) (hO41_t0 : S.2.1 41 t0 = some h) (hO2_h : S.2.1 2 h = some pg) (hO31_pg : S.2.1 31 pg = some sc) (hP : PGM (pv pg sc S)) (hg : GV (pv pg sc S) W a3.toInt) (ha : -1 ≤ a3.toInt ∧ a3.toInt ≤ 1379) (h25 : (pv pg sc S).1 25 ≤ 460) (hby : (a1 = 1 ∨ a1 = 2) → 0 ≤ a2.toInt ∧ a2.toInt < (pv pg sc S).1 25 ∧ GV (pv pg sc S) W ((pv pg sc S).2 50 a2.toInt.toNat)) (hf : FRS (pv pg sc S) W (ar S 59 a0) (ar S 60 a0)) : wT_X6_leave t0 a0 a1 a2 a3 S (fun S1 => LVQ (pv pg sc S) W t0 a0 S S1) := by
  have nS : FX [] S S := FX_rf
  unfold wT_X6_leave
  have j230 : ∀ (x0 : Nat) (x1 : Nat) (x3 : Int32) (x5 : Option Nat) (x6 : Int32) (x8 : Int32) (Sx : kS), ((FX [] S Sx) ∧ (S = Sx ∧ t0 = x0 ∧ a0 = x1 ∧ a2 = x3 ∧ x5 = some sc ∧ (x6 ≠ 0 → a1 = 1 ∨ a1 = 2))) → wT_X6_leave_230 (fun S1 => LVQ (pv pg sc S) W t0 a0 S S1) x0 x1 x3 x5 x6 x8 Sx := by
    intro x0 x1 x3 x5 x6 x8 Sx hJ230
    obtain ⟨nSx, hJ230⟩ := hJ230
    unfold wT_X6_leave_230
    obtain ⟨rfl, hJ230⟩ := hJ230
    obtain ⟨rfl, hJ230⟩ := hJ230
    obtain ⟨rfl, hJ230⟩ := hJ230
    obtain ⟨rfl, hJ230⟩ := hJ230
    obtain ⟨h5, h6⟩ := hJ230
    refine ⟨fun c1 => ?_, fun c1 => ?_⟩
    · refine ⟨fun c2 => ?_, fun c2 => ?_⟩
      · refine ⟨fun c3 => ?_, fun c3 => ?_⟩
        · unfold wT_X6_leave_295
          refine kmT_X6_end _ _ _ _ _ _ _ (fun S68 hF4 pS68 => ?_) (sk_X6_end _ _ _ _ (INJ_x nS (by decide) hI) )
          have nS68 : FX [] S S68 := FX_k hF4 (by decide) nS
          have fS68 := HF_k hF4 (INJ_x nS (by decide) hI) (by decide) (by decide) (by decide)
          clear hF4
          exact ⟨W, fun _ h => h, by rw [fS68.2.2.1 59 (by decide), fS68.2.2.1 60 (by decide)]; exact hf, fun o _ => ⟨by rw [fS68.1 36 (by decide)], fun j => by rw [fS68.2.2.1 59 (by decide)], fun j => by rw [fS68.2.2.1 60 (by decide)]⟩, Or.inl pS68⟩
        · unfold wT_X6_leave_295
          refine kmT_X6_end _ _ _ _ _ _ _ (fun S68 hF5 pS68 => ?_) (sk_X6_end _ _ _ _ (INJ_x nS (by decide) hI) )
          have nS68 : FX [] S S68 := FX_k hF5 (by decide) nS
          have fS68 := HF_k hF5 (INJ_x nS (by decide) hI) (by decide) (by decide) (by decide)
          clear hF5
          exact ⟨W, fun _ h => h, by rw [fS68.2.2.1 59 (by decide), fS68.2.2.1 60 (by decide)]; exact hf, fun o _ => ⟨by rw [fS68.1 36 (by decide)], fun j => by rw [fS68.2.2.1 59 (by decide)], fun j => by rw [fS68.2.2.1 60 (by decide)]⟩, Or.inl pS68⟩
      · refine kmT_X6_end _ _ _ _ _ _ _ (fun S56 hF6 pS56 => ?_) (sk_X6_end _ _ _ _ (INJ_x nS (by decide) hI) )
        have nS56 : FX [] S S56 := FX_k hF6 (by decide) nS
        have fS56 := HF_k hF6 (INJ_x nS (by decide) hI) (by decide) (by decide) (by decide)
        clear hF6
        exact ⟨W, fun _ h => h, by rw [fS56.2.2.1 59 (by decide), fS56.2.2.1 60 (by decide)]; exact hf, fun o _ => ⟨by rw [fS56.1 36 (by decide)], fun j => by rw [fS56.2.2.1 59 (by decide)], fun j => by rw [fS56.2.2.1 60 (by decide)]⟩, Or.inl pS56⟩
    · refine ⟨fun c7 => ?_, fun c7 => ?_⟩
      · intro q58 eq58
        obtain rfl : sc = q58 := Option.some.inj (h5.symm.trans eq58)
        intro z59 ez59
        have hb9 := hby (h6 (by (try clear j45); (try clear j230); (try clear j173); (try clear j214); (try clear hk57); grind [k_ii, k_ir, k_ri, k_rr, k_ai, k_ar, k_li, k_lr, k_qi, k_qr, ar_ci, ar_cl, ar_cq, la_ci, la_ca, la_cq, qa_ci, qa_ca, qa_cl, tk_link, kn10, kn460]))
        have l25 : (pv pg sc S).1 25 ≤ 460 := hP.2.2.2.1.2
        intro q60 eq60
        have wq60 := rd_w nS (by decide) ez59 eq60
        refine ⟨by (try clear j45); (try clear j230); (try clear j173); (try clear j214); (try clear hk57); grind [k_ii, k_ir, k_ri, k_rr, k_ai, k_ar, k_li, k_lr, k_qi, k_qr, ar_ci, ar_cl, ar_cq, la_ci, la_ca, la_cq, qa_ci, qa_ca, qa_cl, tk_link, kn10, kn460], ?_⟩
        intro z61 ez61
        replace ez61 := ez61.trans (ar_rd nS (by decide) (by decide) wq60)
        intro S62 eS62
        have nS62 : FX [] S S62 := FX_i eS62 nS
        have kx := kx_int a2 hb9.1
        have lp := hP.2.2.2.2.2.2.2.2.2.2.2.1 (ix a2) (by rw [kx]; exact hb9.2.1)
        have pgS62 : PCG (pv pg sc S) W z61.toInt := by rw [ez61]; exact PCG_t lp.1 hb9.2.2
        exact ⟨W, fun _ h => h, by rw [show ar S62 59 a0 = ar S 59 a0 by rw [eS62]; rfl, show ar S62 60 a0 = ar S 60 a0 by rw [eS62]; rfl]; exact hf, fun o ho => ⟨by rw [eS62, k_ii, if_neg (fun c => ho c.2)], fun j => by rw [eS62]; rfl, fun j => by rw [eS62]; rfl⟩, Or.inr ⟨by rw [eS62, k_ii, if_neg (fun c => absurd c.1 (by decide))], by rw [eS62, k_ii, if_pos ⟨rfl, rfl⟩]; exact pgS62⟩⟩
      · intro q63 eq63
        obtain rfl : sc = q63 := Option.some.inj (h5.symm.trans eq63)
        intro z64 ez64
        have hb9 := hby (h6 (by (try clear j45); (try clear j230); (try clear j173); (try clear j214); (try clear hk57); grind [k_ii, k_ir, k_ri, k_rr, k_ai, k_ar, k_li, k_lr, k_qi, k_qr, ar_ci, ar_cl, ar_cq, la_ci, la_ca, la_cq, qa_ci, qa_ca, qa_cl, tk_link, kn10, kn460]))
        have l25 : (pv pg sc S).1 25 ≤ 460 := hP.2.2.2.1.2
        intro q65 eq65
        have wq65 := rd_w nS (by decide) ez64 eq65
        refine ⟨by (try clear j45); (try clear j230); (try clear j173); (try clear j214); (try clear hk57); grind [k_ii, k_ir, k_ri, k_rr, k_ai, k_ar, k_li, k_lr, k_qi, k_qr, ar_ci, ar_cl, ar_cq, la_ci, la_ca, la_cq, qa_ci, qa_ca, qa_cl, tk_link, kn10, kn460], ?_⟩
        intro z66 ez66
        replace ez66 := ez66.trans (ar_rd nS (by decide) (by decide) wq65)
        intro S67 eS67
        have nS67 : FX [] S S67 := FX_i eS67 nS
        have kx := kx_int a2 hb9.1
        have lp := hP.2.2.2.2.2.2.2.2.2.2.2.1 (ix a2) (by rw [kx]; exact hb9.2.1)
        have pgS67 : PCG (pv pg sc S) W z66.toInt := by rw [ez66]; exact PCG_t lp.2 hb9.2.2
        exact ⟨W, fun _ h => h, by rw [show ar S67 59 a0 = ar S 59 a0 by rw [eS67]; rfl, show ar S67 60 a0 = ar S 60 a0 by rw [eS67]; rfl]; exact hf, fun o ho => ⟨by rw [eS67, k_ii, if_neg (fun c => ho c.2)], fun j => by rw [eS67]; rfl, fun j => by rw [eS67]; rfl⟩, Or.inr ⟨by rw [eS67, k_ii, if_neg (fun c => absurd c.1 (by decide))], by rw [eS67, k_ii, if_pos ⟨rfl, rfl⟩]; exact pgS67⟩⟩
  have j45 : ∀ (x0 : Nat) (x1 : Nat) (x2 : Int32) (x3 : Int32) (x4 : Int32) (x5 : Option Nat) (x6 : Int32) (y0 : Int32) (Sx : kS), ((FX [] S Sx) ∧ (S = Sx ∧ t0 = x0 ∧ a0 = x1 ∧ a1 = x2 ∧ a2 = x3 ∧ a3 = x4 ∧ x5 = some sc ∧ (x6 ≠ 0 → a1 = 1 ∨ a1 = 2))) → wT_X6_leave_45 (fun S1 => LVQ (pv pg sc S) W t0 a0 S S1) x0 x1 x2 x3 x4 x5 x6 y0 Sx := by
    intro x0 x1 x2 x3 x4 x5 x6 y0 Sx hJ45
    obtain ⟨nSx, hJ45⟩ := hJ45
    unfold wT_X6_leave_45
    obtain ⟨rfl, hJ45⟩ := hJ45
    obtain ⟨rfl, hJ45⟩ := hJ45
    obtain ⟨rfl, hJ45⟩ := hJ45
    obtain ⟨rfl, hJ45⟩ := hJ45
    obtain ⟨rfl, hJ45⟩ := hJ45
    obtain ⟨rfl, hJ45⟩ := hJ45
    obtain ⟨h5, h6⟩ := hJ45
    refine it_rule (fun u : Nat × Nat × Int32 × Option Nat × Int32 × Int32 × Int32 × Int32 × Int32 × kS => (FX [] S u.2.2.2.2.2.2.2.2.2) ∧ (S = u.2.2.2.2.2.2.2.2.2 ∧ t0 = u.1 ∧ a0 = u.2.1 ∧ a2 = u.2.2.1 ∧ u.2.2.2.1 = some sc ∧ (u.2.2.2.2.1 ≠ 0 → a1 = 1 ∨ a1 = 2) ∧ (u.2.2.2.2.2.2.1 = a1 ∨ u.2.2.2.2.2.2.1 = 5) ∧ GV (pv pg sc S) W u.2.2.2.2.2.2.2.1.toInt ∧ (-1 ≤ u.2.2.2.2.2.2.2.1.toInt ∧ u.2.2.2.2.2.2.2.1.toInt ≤ 1379) ∧ 0 ≤ u.2.2.2.2.2.2.2.2.1.toInt ∧ u.2.2.2.2.2.2.2.2.1.toInt ≤ 460)) (fun u => (460 - u.2.2.2.2.2.2.2.2.1.toInt).toNat) ?_ (by (try clear j45); (try clear j230); (try clear j173); (try clear j214); (try clear hk57); grind [k_ii, k_ir, k_ri, k_rr, k_ai, k_ar, k_li, k_lr, k_qi, k_qr, ar_ci, ar_cl, ar_cq, la_ci, la_ca, la_cq, qa_ci, qa_ca, qa_cl, tk_link, kn10, kn460])
    rintro ⟨x0, x1, x3, x5, x6, x7, x8, x9, x10, Sl57⟩ k57 hI57 hk57
    replace hI57 : (FX [] S Sl57) ∧ (S = Sl57 ∧ t0 = x0 ∧ a0 = x1 ∧ a2 = x3 ∧ x5 = some sc ∧ (x6 ≠ 0 → a1 = 1 ∨ a1 = 2) ∧ (x8 = a1 ∨ x8 = 5) ∧ GV (pv pg sc S) W x9.toInt ∧ (-1 ≤ x9.toInt ∧ x9.toInt ≤ 1379) ∧ 0 ≤ x10.toInt ∧ x10.toInt ≤ 460) := hI57
    obtain ⟨nSl57, hI57⟩ := hI57
    replace hk57 : ∀ v : Nat × Nat × Int32 × Option Nat × Int32 × Int32 × Int32 × Int32 × Int32 × kS, (FX [] S v.2.2.2.2.2.2.2.2.2) ∧ (S = v.2.2.2.2.2.2.2.2.2 ∧ t0 = v.1 ∧ a0 = v.2.1 ∧ a2 = v.2.2.1 ∧ v.2.2.2.1 = some sc ∧ (v.2.2.2.2.1 ≠ 0 → a1 = 1 ∨ a1 = 2) ∧ (v.2.2.2.2.2.2.1 = a1 ∨ v.2.2.2.2.2.2.1 = 5) ∧ GV (pv pg sc S) W v.2.2.2.2.2.2.2.1.toInt ∧ (-1 ≤ v.2.2.2.2.2.2.2.1.toInt ∧ v.2.2.2.2.2.2.2.1.toInt ≤ 1379) ∧ 0 ≤ v.2.2.2.2.2.2.2.2.1.toInt ∧ v.2.2.2.2.2.2.2.2.1.toInt ≤ 460) → (460 - v.2.2.2.2.2.2.2.2.1.toInt).toNat < (460 - x10.toInt).toNat → k57 v := hk57
    show wT_X6_leave_57 _ k57 x0 x1 x3 x5 x6 x7 x8 x9 x10 Sl57
    unfold wT_X6_leave_57
    obtain ⟨rfl, hI57⟩ := hI57
    obtain ⟨rfl, hI57⟩ := hI57
    obtain ⟨rfl, hI57⟩ := hI57
    obtain ⟨rfl, hI57⟩ := hI57
    obtain ⟨h5, h6, h8, h9, h91, h10, h11⟩ := hI57
    obtain ⟨x6l, e6l⟩ : ∃ i, i = x6 := ⟨_, rfl⟩
    obtain ⟨x7l, e7l⟩ : ∃ i, i = x7 := ⟨_, rfl⟩
    obtain ⟨x8l, e8l⟩ : ∃ i, i = x8 := ⟨_, rfl⟩
    obtain ⟨x10l, e10l⟩ : ∃ i, i = x10 := ⟨_, rfl⟩
    have j214 : ∀ (x0 : Nat) (x1 : Nat) (x3 : Int32) (x5 : Nat) (x6 : Int32) (x7 : Int32) (x8 : Int32) (x10 : Int32) (x11 : Int32) (Sx : kS), ((FX [] S Sx) ∧ (S = Sx ∧ t0 = x0 ∧ a0 = x1 ∧ a2 = x3 ∧ sc = x5 ∧ x6l = x6 ∧ x7l = x7 ∧ x10l = x10 ∧ (x8 = a1 ∨ x8 = 5) ∧ x11.toInt = x9.toInt / 3 ∧ 0 ≤ x11.toInt ∧ x11.toInt < 460 ∧ 0 ≤ x9.toInt ∧ x10l.toInt < 460)) → wT_X6_leave_214 (fun S1 => LVQ (pv pg sc S) W t0 a0 S S1) k57 x0 x1 x3 x5 x6 x7 x8 x10 x11 Sx := by
      intro x0 x1 x3 x5 x6 x7 x8 x10 x11 Sx hJ214
      obtain ⟨nSx, hJ214⟩ := hJ214
      unfold wT_X6_leave_214
      obtain ⟨rfl, hJ214⟩ := hJ214
      obtain ⟨rfl, hJ214⟩ := hJ214
      obtain ⟨rfl, hJ214⟩ := hJ214
      obtain ⟨rfl, hJ214⟩ := hJ214
      obtain ⟨rfl, hJ214⟩ := hJ214
      obtain ⟨rfl, hJ214⟩ := hJ214
      obtain ⟨rfl, hJ214⟩ := hJ214
      obtain ⟨rfl, hJ214⟩ := hJ214
      obtain ⟨h8, d11, d12, d13, n9, l10⟩ := hJ214
      have k9 := GV_i h9 n9
      have i11 : (x9.toInt / 3).toNat = ix x11 := by unfold ix; rw [d11]
      intro z37 ez37
      intro q38 eq38
      have wq38 := rd_w nS (by decide) ez37 eq38
      refine ⟨by (try clear j45); (try clear j230); (try clear j173); (try clear j214); (try clear hk57); grind [k_ii, k_ir, k_ri, k_rr, k_ai, k_ar, k_li, k_lr, k_qi, k_qr, ar_ci, ar_cl, ar_cq, la_ci, la_ca, la_cq, qa_ci, qa_ca, qa_cl, tk_link, kn10, kn460], ?_⟩
      intro z39 ez39
      replace ez39 := ez39.trans (ar_rd nS (by decide) (by decide) wq38)
      have g39 : GV (pv pg sc S) W z39.toInt := by rw [ez39]; have w := k9.2.2; rw [i11] at w; exact w
      have d39 : -1 ≤ z39.toInt ∧ z39.toInt ≤ 1379 := by rw [ez39]; exact hP.2.2.2.2.2.1 (ix x11)
      intro z40 ez40
      have hrz40 : -2147483648 ≤ x10l.toInt + 1 ∧ x10l.toInt + 1 < 2147483648 := by (try clear j45); (try clear j230); (try clear j173); (try clear j214); (try clear hk57); grind [k_ii, k_ir, k_ri, k_rr, k_ai, k_ar, k_li, k_lr, k_qi, k_qr, ar_ci, ar_cl, ar_cq, la_ci, la_ca, la_cq, qa_ci, qa_ca, qa_cl, tk_link, kn10, kn460]
      replace ez40 : z40.toInt = x10l.toInt + 1 := w_add ez40 hrz40
      clear hrz40
      exact hk57 _ (by (try clear j45); (try clear j230); (try clear j173); (try clear j214); (try clear hk57); grind [k_ii, k_ir, k_ri, k_rr, k_ai, k_ar, k_li, k_lr, k_qi, k_qr, ar_ci, ar_cl, ar_cq, la_ci, la_ca, la_cq, qa_ci, qa_ca, qa_cl, tk_link, kn10, kn460]) (by (try clear j45); (try clear j230); (try clear j173); (try clear j214); (try clear hk57); grind [k_ii, k_ir, k_ri, k_rr, k_ai, k_ar, k_li, k_lr, k_qi, k_qr, ar_ci, ar_cl, ar_cq, la_ci, la_ca, la_cq, qa_ci, qa_ca, qa_cl, tk_link, kn10, kn460])
    have j173 : ∀ (x0 : Nat) (x1 : Nat) (x3 : Int32) (x5 : Nat) (x6 : Int32) (x7 : Int32) (x8 : Int32) (x10 : Int32) (x11 : Int32) (x13 : Int32) (Sx : kS), ((FX [] S Sx) ∧ (S = Sx ∧ t0 = x0 ∧ a0 = x1 ∧ a2 = x3 ∧ sc = x5 ∧ x6l = x6 ∧ x7l = x7 ∧ x8l = x8 ∧ x10l = x10 ∧ x11.toInt = x9.toInt / 3 ∧ 0 ≤ x11.toInt ∧ x11.toInt < 460 ∧ x13 = ar S 44 sc (ix x11) ∧ (x9.toInt % 3 ≠ 2) ∧ 0 ≤ x9.toInt ∧ x10l.toInt < 460)) → wT_X6_leave_173 (fun S1 => LVQ (pv pg sc S) W t0 a0 S S1) k57 x0 x1 x3 x5 x6 x7 x8 x10 x11 x13 Sx := by
      intro x0 x1 x3 x5 x6 x7 x8 x10 x11 x13 Sx hJ173
      obtain ⟨nSx, hJ173⟩ := hJ173
      unfold wT_X6_leave_173
      obtain ⟨rfl, hJ173⟩ := hJ173
      obtain ⟨rfl, hJ173⟩ := hJ173
      obtain ⟨rfl, hJ173⟩ := hJ173
      obtain ⟨rfl, hJ173⟩ := hJ173
      obtain ⟨rfl, hJ173⟩ := hJ173
      obtain ⟨rfl, hJ173⟩ := hJ173
      obtain ⟨rfl, hJ173⟩ := hJ173
      obtain ⟨rfl, hJ173⟩ := hJ173
      obtain ⟨rfl, hJ173⟩ := hJ173
      obtain ⟨d11, d12, d13, e13, m9, n9, l10⟩ := hJ173
      have k9 := GV_i h9 n9
      have d13r : 0 ≤ x13.toInt ∧ x13.toInt ≤ 9 := by rw [e13]; exact hP.2.2.2.2.2.2.2.1 (ix x11)
      refine kmT_X7_is _ _ _ _ _ _ (fun S41 r41 hF8 pS41 => ?_) (sk_X7_is _ _ _ (INJ_x nS (by decide) hI) (by (try clear j45); (try clear j230); (try clear j173); (try clear j214); (try clear hk57); grind [k_ii, k_ir, k_ri, k_rr, k_ai, k_ar, k_li, k_lr, k_qi, k_qr, ar_ci, ar_cl, ar_cq, la_ci, la_ca, la_cq, qa_ci, qa_ca, qa_cl, tk_link, kn10, kn460]))
      obtain ⟨rfl, pS41⟩ := pS41
      clear hF8
      refine ⟨fun c9 => ?_, fun c9 => ?_⟩
      · exact j214 _ _ _ _ _ _ _ _ _ _ (by (try clear j45); (try clear j230); (try clear j173); (try clear j214); (try clear hk57); grind [k_ii, k_ir, k_ri, k_rr, k_ai, k_ar, k_li, k_lr, k_qi, k_qr, ar_ci, ar_cl, ar_cq, la_ci, la_ca, la_cq, qa_ci, qa_ca, qa_cl, tk_link, kn10, kn460])
      · intro z43 ez43
        intro q44 eq44
        have wq44 := rd_w nS (by decide) ez43 eq44
        refine ⟨by (try clear j45); (try clear j230); (try clear j173); (try clear j214); (try clear hk57); grind [k_ii, k_ir, k_ri, k_rr, k_ai, k_ar, k_li, k_lr, k_qi, k_qr, ar_ci, ar_cl, ar_cq, la_ci, la_ca, la_cq, qa_ci, qa_ca, qa_cl, tk_link, kn10, kn460], ?_⟩
        intro S45 eS45
        have nS45 : FX [] S S45 := FX_a eS45 nS
        have arS45 := ar_wr hI nS (by decide) (by decide) wq44 eS45
        intro z46 ez46
        intro q47 eq47
        have wq47 := rd_w nS45 (by decide) ez46 eq47
        refine ⟨by (try clear j45); (try clear j230); (try clear j173); (try clear j214); (try clear hk57); grind [k_ii, k_ir, k_ri, k_rr, k_ai, k_ar, k_li, k_lr, k_qi, k_qr, ar_ci, ar_cl, ar_cq, la_ci, la_ca, la_cq, qa_ci, qa_ca, qa_cl, tk_link, kn10, kn460], ?_⟩
        intro S48 eS48
        have nS48 : FX [] S S48 := FX_a eS48 nS45
        have arS48 := ar_wr hI nS45 (by decide) (by decide) wq47 eS48
        intro z49 ez49
        intro q50 eq50
        have wq50 := rd_w nS48 (by decide) ez49 eq50
        refine ⟨by (try clear j45); (try clear j230); (try clear j173); (try clear j214); (try clear hk57); grind [k_ii, k_ir, k_ri, k_rr, k_ai, k_ar, k_li, k_lr, k_qi, k_qr, ar_ci, ar_cl, ar_cq, la_ci, la_ca, la_cq, qa_ci, qa_ca, qa_cl, tk_link, kn10, kn460], ?_⟩
        intro z51 ez51
        replace ez51 := ez51.trans (ar_rd nS48 (by decide) (by decide) wq50)
        intro S52 eS52
        have nS52 : FX [] S S52 := FX_i eS52 nS48
        have e1 : ∀ j, ar S52 59 a0 j = if j = ix x13 then x8l else ar S 59 a0 j := fun j => by rw [show ar S52 59 a0 j = ar S48 59 a0 j by rw [eS52]; rfl, arS48 59 a0 j, if_neg (fun c => absurd c.1 (by decide)), arS45 59 a0 j]; rcases Decidable.em (j = ix x13) with c9 | c9; (rw [if_pos ⟨rfl, rfl, c9⟩, if_pos c9]); (rw [if_neg (fun q => c9 q.2.2), if_neg c9])
        have e2 : ∀ j, ar S52 60 a0 j = if j = ix x13 then a2 else ar S 60 a0 j := fun j => by rw [show ar S52 60 a0 j = ar S48 60 a0 j by rw [eS52]; rfl, arS48 60 a0 j, arS45 60 a0 j]; rcases Decidable.em (j = ix x13) with c9 | c9; (rw [if_pos ⟨rfl, rfl, c9⟩, if_pos c9]); (rw [if_neg (fun q => c9 q.2.2), if_neg (fun q => absurd q.1 (by decide)), if_neg c9])
        have fr52 := FRS_u (k := ix x13) (x := x8l) (y := a2) hf e1 e2 (fun q => hby (by rw [e8l] at q; rcases h8 with w | w; (rw [w] at q; exact q); (rw [w] at q; exact absurd q (by decide))))
        have ot52 : OTH a0 S S52 := fun o ho => ⟨by rw [eS52, k_ii, if_neg (fun c => ho c.2), eS48, eS45]; rfl, fun j => by rw [show ar S52 59 o j = ar S48 59 o j by rw [eS52]; rfl, arS48 59 o j, if_neg (fun c => ho c.2.1), arS45 59 o j, if_neg (fun c => ho c.2.1)], fun j => by rw [show ar S52 60 o j = ar S48 60 o j by rw [eS52]; rfl, arS48 60 o j, if_neg (fun c => ho c.2.1), arS45 60 o j, if_neg (fun c => ho c.2.1)]⟩
        have c52 : S52.1 22 t0 = S.1 22 t0 := by rw [eS52, k_ii, if_neg (fun c => absurd c.1 (by decide)), eS48, eS45]; rfl
        have kx := kx_int x11 d12
        have tr := hP.2.2.2.2.2.2.2.2.2.2.2.2.1 (ix x11) (by rw [kx, d11]; exact k9.1)
        have m0 : ar S 49 sc (ix x11) &&& 2 ≠ 0 := by (try clear j45); (try clear j230); (try clear j173); (try clear j214); (try clear hk57); grind [k_ii, k_ir, k_ri, k_rr, k_ai, k_ar, k_li, k_lr, k_qi, k_qr, ar_ci, ar_cl, ar_cq, la_ci, la_ca, la_cq, qa_ci, qa_ca, qa_cl, tk_link, kn10, kn460]
        have e51 : z51.toInt = (pv pg sc S).2 47 (ix x11) := by rw [ez51, arS48 47 sc (ix x11), if_neg (fun c => absurd c.1 (by decide)), arS45 47 sc (ix x11), if_neg (fun c => absurd c.1 (by decide))]; rfl
        have kd := kx_int x13 d13r.1
        have pg51 : PCG (pv pg sc S) (fun d => W d ∨ d = (ix x13 : Nat)) z51.toInt := by rw [e51]; exact PCG_t (tr.2.1 (an_2 m0)) (GV_b (GV_m h9 (fun _ h => Or.inl h)) n9 (by rw [kx]; omega) (fun _ => Or.inr (by rw [kd, e13, show ((3 * ((ix x11 : Nat) : Int) + 2) / 3).toNat = ix x11 by omega]; rfl)))
        exact ⟨fun d => W d ∨ d = (ix x13 : Nat), fun _ h => Or.inl h, fr52, ot52, Or.inr ⟨c52, by rw [eS52, k_ii, if_pos ⟨rfl, rfl⟩]; exact pg51⟩⟩
    refine ⟨fun c10 => ?_, fun c10 => ?_⟩
    · exact j230 _ _ _ _ _ _ _ (by (try clear j45); (try clear j230); (try clear j173); (try clear j214); (try clear hk57); grind [k_ii, k_ir, k_ri, k_rr, k_ai, k_ar, k_li, k_lr, k_qi, k_qr, ar_ci, ar_cl, ar_cq, la_ci, la_ca, la_cq, qa_ci, qa_ca, qa_cl, tk_link, kn10, kn460])
    · refine ⟨fun c11 => ?_, fun c11 => ?_⟩
      · exact j230 _ _ _ _ _ _ _ (by (try clear j45); (try clear j230); (try clear j173); (try clear j214); (try clear hk57); grind [k_ii, k_ir, k_ri, k_rr, k_ai, k_ar, k_li, k_lr, k_qi, k_qr, ar_ci, ar_cl, ar_cq, la_ci, la_ca, la_cq, qa_ci, qa_ca, qa_cl, tk_link, kn10, kn460])
      · refine ⟨fun c12 => ?_, fun c12 => ?_⟩
        · exact j230 _ _ _ _ _ _ _ (by (try clear j45); (try clear j230); (try clear j173); (try clear j214); (try clear hk57); grind [k_ii, k_ir, k_ri, k_rr, k_ai, k_ar, k_li, k_lr, k_qi, k_qr, ar_ci, ar_cl, ar_cq, la_ci, la_ca, la_cq, qa_ci, qa_ca, qa_cl, tk_link, kn10, kn460])
        · refine ⟨by (try clear j45); (try clear j230); (try clear j173); (try clear j214); (try clear hk57); grind [k_ii, k_ir, k_ri, k_rr, k_ai, k_ar, k_li, k_lr, k_qi, k_qr, ar_ci, ar_cl, ar_cq, la_ci, la_ca, la_cq, qa_ci, qa_ca, qa_cl, tk_link, kn10, kn460], ?_⟩
          intro z16 ez16
          have dz16 : z16.toInt = x9.toInt / 3 ∧ 0 ≤ z16.toInt ∧ z16.toInt < 460 := by rw [ez16]; exact dv3 (by (try clear j45); (try clear j230); (try clear j173); (try clear j214); (try clear hk57); grind [k_ii, k_ir, k_ri, k_rr, k_ai, k_ar, k_li, k_lr, k_qi, k_qr, ar_ci, ar_cl, ar_cq, la_ci, la_ca, la_cq, qa_ci, qa_ca, qa_cl, tk_link, kn10, kn460]) (by (try clear j45); (try clear j230); (try clear j173); (try clear j214); (try clear hk57); grind [k_ii, k_ir, k_ri, k_rr, k_ai, k_ar, k_li, k_lr, k_qi, k_qr, ar_ci, ar_cl, ar_cq, la_ci, la_ca, la_cq, qa_ci, qa_ca, qa_cl, tk_link, kn10, kn460])
          clear ez16
          refine ⟨by (try clear j45); (try clear j230); (try clear j173); (try clear j214); (try clear hk57); grind [k_ii, k_ir, k_ri, k_rr, k_ai, k_ar, k_li, k_lr, k_qi, k_qr, ar_ci, ar_cl, ar_cq, la_ci, la_ca, la_cq, qa_ci, qa_ca, qa_cl, tk_link, kn10, kn460], ?_⟩
          intro z17 ez17
          have d17 : z17.toInt = x9.toInt % 3 := md3b ez17 (by (try clear j45); (try clear j230); (try clear j173); (try clear j214); (try clear hk57); grind [k_ii, k_ir, k_ri, k_rr, k_ai, k_ar, k_li, k_lr, k_qi, k_qr, ar_ci, ar_cl, ar_cq, la_ci, la_ca, la_cq, qa_ci, qa_ca, qa_cl, tk_link, kn10, kn460]) (by (try clear j45); (try clear j230); (try clear j173); (try clear j214); (try clear hk57); grind [k_ii, k_ir, k_ri, k_rr, k_ai, k_ar, k_li, k_lr, k_qi, k_qr, ar_ci, ar_cl, ar_cq, la_ci, la_ca, la_cq, qa_ci, qa_ca, qa_cl, tk_link, kn10, kn460])
          clear ez17
          have n9 : 0 ≤ x9.toInt := by (try clear j45); (try clear j230); (try clear j173); (try clear j214); (try clear hk57); grind [k_ii, k_ir, k_ri, k_rr, k_ai, k_ar, k_li, k_lr, k_qi, k_qr, ar_ci, ar_cl, ar_cq, la_ci, la_ca, la_cq, qa_ci, qa_ca, qa_cl, tk_link, kn10, kn460]
          have k9 := GV_i h9 n9
          intro q18 eq18
          obtain rfl : sc = q18 := Option.some.inj (h5.symm.trans eq18)
          intro z19 ez19
          intro q20 eq20
          have wq20 := rd_w nS (by decide) ez19 eq20
          refine ⟨by (try clear j45); (try clear j230); (try clear j173); (try clear j214); (try clear hk57); grind [k_ii, k_ir, k_ri, k_rr, k_ai, k_ar, k_li, k_lr, k_qi, k_qr, ar_ci, ar_cl, ar_cq, la_ci, la_ca, la_cq, qa_ci, qa_ca, qa_cl, tk_link, kn10, kn460], ?_⟩
          intro z21 ez21
          replace ez21 := ez21.trans (ar_rd nS (by decide) (by decide) wq20)
          have d21 : 0 ≤ z21.toInt ∧ z21.toInt ≤ 9 := by rw [ez21]; exact hP.2.2.2.2.2.2.2.1 (ix z16)
          refine ⟨fun c13 => ?_, fun c13 => ?_⟩
          · refine ⟨fun c14 => ?_, fun c14 => ?_⟩
            · exact j173 _ _ _ _ _ _ _ _ _ _ _ (by (try clear j45); (try clear j230); (try clear j173); (try clear j214); (try clear hk57); grind [k_ii, k_ir, k_ri, k_rr, k_ai, k_ar, k_li, k_lr, k_qi, k_qr, ar_ci, ar_cl, ar_cq, la_ci, la_ca, la_cq, qa_ci, qa_ca, qa_cl, tk_link, kn10, kn460])
            · refine ⟨fun c15 => ?_, fun c15 => ?_⟩
              · exact j173 _ _ _ _ _ _ _ _ _ _ _ (by (try clear j45); (try clear j230); (try clear j173); (try clear j214); (try clear hk57); grind [k_ii, k_ir, k_ri, k_rr, k_ai, k_ar, k_li, k_lr, k_qi, k_qr, ar_ci, ar_cl, ar_cq, la_ci, la_ca, la_cq, qa_ci, qa_ca, qa_cl, tk_link, kn10, kn460])
              · refine kmT_X7_is _ _ _ _ _ _ (fun S25 r25 hF16 pS25 => ?_) (sk_X7_is _ _ _ (INJ_x nS (by decide) hI) (by (try clear j45); (try clear j230); (try clear j173); (try clear j214); (try clear hk57); grind [k_ii, k_ir, k_ri, k_rr, k_ai, k_ar, k_li, k_lr, k_qi, k_qr, ar_ci, ar_cl, ar_cq, la_ci, la_ca, la_cq, qa_ci, qa_ca, qa_cl, tk_link, kn10, kn460]))
                obtain ⟨rfl, pS25⟩ := pS25
                clear hF16
                refine ⟨fun c17 => ?_, fun c17 => ?_⟩
                · exact j173 _ _ _ _ _ _ _ _ _ _ _ (by (try clear j45); (try clear j230); (try clear j173); (try clear j214); (try clear hk57); grind [k_ii, k_ir, k_ri, k_rr, k_ai, k_ar, k_li, k_lr, k_qi, k_qr, ar_ci, ar_cl, ar_cq, la_ci, la_ca, la_cq, qa_ci, qa_ca, qa_cl, tk_link, kn10, kn460])
                · intro S27 eS27
                  have nS27 : FX [] S S27 := FX_i eS27 nS
                  intro z28 ez28
                  intro q29 eq29
                  have wq29 := rd_w nS27 (by decide) ez28 eq29
                  refine ⟨by (try clear j45); (try clear j230); (try clear j173); (try clear j214); (try clear hk57); grind [k_ii, k_ir, k_ri, k_rr, k_ai, k_ar, k_li, k_lr, k_qi, k_qr, ar_ci, ar_cl, ar_cq, la_ci, la_ca, la_cq, qa_ci, qa_ca, qa_cl, tk_link, kn10, kn460], ?_⟩
                  intro z30 ez30
                  replace ez30 := ez30.trans (ar_rd nS27 (by decide) (by decide) wq29)
                  intro S31 eS31
                  have nS31 : FX [] S S31 := FX_i eS31 nS27
                  have e30 : z30.toInt = (pv pg sc S).2 46 (ix z16) := by rw [ez30, eS27]; rfl
                  have kx := kx_int z16 dz16.2.1
                  have tr := hP.2.2.2.2.2.2.2.2.2.2.2.2.1 (ix z16) (by rw [kx, dz16.1]; exact k9.1)
                  have m0 : ar S 49 sc (ix z16) &&& 1 ≠ 0 := by (try clear j45); (try clear j230); (try clear j173); (try clear j214); (try clear hk57); grind [k_ii, k_ir, k_ri, k_rr, k_ai, k_ar, k_li, k_lr, k_qi, k_qr, ar_ci, ar_cl, ar_cq, la_ci, la_ca, la_cq, qa_ci, qa_ca, qa_cl, tk_link, kn10, kn460]
                  have pg30 : PCG (pv pg sc S) W z30.toInt := by rw [e30]; exact PCG_t (tr.1 (an_1 m0)) (GV_b h9 n9 (by rw [kx]; omega) (fun q => by omega))
                  exact ⟨W, fun _ h => h, by rw [show ar S31 59 a0 = ar S 59 a0 by rw [eS31, eS27]; rfl, show ar S31 60 a0 = ar S 60 a0 by rw [eS31, eS27]; rfl]; exact hf, fun o ho => ⟨by rw [eS31, k_ii, if_neg (fun c => ho c.2), eS27, k_ii, if_neg (fun c => absurd c.1 (by decide))], fun j => by rw [eS31, eS27]; rfl, fun j => by rw [eS31, eS27]; rfl⟩, Or.inr ⟨by rw [eS31, k_ii, if_neg (fun c => absurd c.1 (by decide)), eS27, k_ii, if_neg (fun c => absurd c.1 (by decide))], by rw [eS31, k_ii, if_pos ⟨rfl, rfl⟩]; exact pg30⟩⟩
          · refine ⟨fun c18 => ?_, fun c18 => ?_⟩
            · unfold wT_X6_leave_126
              unfold wT_X6_leave_128
              exact j214 _ _ _ _ _ _ _ _ _ _ (by (try clear j45); (try clear j230); (try clear j173); (try clear j214); (try clear hk57); grind [k_ii, k_ir, k_ri, k_rr, k_ai, k_ar, k_li, k_lr, k_qi, k_qr, ar_ci, ar_cl, ar_cq, la_ci, la_ca, la_cq, qa_ci, qa_ca, qa_cl, tk_link, kn10, kn460])
            · intro z33 ez33
              intro q34 eq34
              have wq34 := rd_w nS (by decide) ez33 eq34
              refine ⟨by (try clear j45); (try clear j230); (try clear j173); (try clear j214); (try clear hk57); grind [k_ii, k_ir, k_ri, k_rr, k_ai, k_ar, k_li, k_lr, k_qi, k_qr, ar_ci, ar_cl, ar_cq, la_ci, la_ca, la_cq, qa_ci, qa_ca, qa_cl, tk_link, kn10, kn460], ?_⟩
              intro z35 ez35
              replace ez35 := ez35.trans (ar_rd nS (by decide) (by decide) wq34)
              refine ⟨fun c19 => ?_, fun c19 => ?_⟩
              · unfold wT_X6_leave_126
                unfold wT_X6_leave_128
                exact j214 _ _ _ _ _ _ _ _ _ _ (by (try clear j45); (try clear j230); (try clear j173); (try clear j214); (try clear hk57); grind [k_ii, k_ir, k_ri, k_rr, k_ai, k_ar, k_li, k_lr, k_qi, k_qr, ar_ci, ar_cl, ar_cq, la_ci, la_ca, la_cq, qa_ci, qa_ca, qa_cl, tk_link, kn10, kn460])
              · unfold wT_X6_leave_128
                exact j214 _ _ _ _ _ _ _ _ _ _ (by (try clear j45); (try clear j230); (try clear j173); (try clear j214); (try clear hk57); grind [k_ii, k_ir, k_ri, k_rr, k_ai, k_ar, k_li, k_lr, k_qi, k_qr, ar_ci, ar_cl, ar_cq, la_ci, la_ca, la_cq, qa_ci, qa_ca, qa_cl, tk_link, kn10, kn460])
  intro z1 ez1
  intro q2 eq2
  obtain rfl := ob_q nS (by decide) hO41_t0 ez1 eq2
  intro z3 ez3
  refine ⟨pg, ob_e nS (by decide) hO2_h ez3, ?_⟩
  intro z5 ez5
  refine ⟨fun c20 => ?_, fun c20 => ?_⟩
  · unfold wT_X6_leave_22
    unfold wT_X6_leave_27
    refine ⟨fun c21 => ?_, fun c21 => ?_⟩
    · exact j45 _ _ _ _ _ _ _ _ _ (by (try clear j45); (try clear j230); (try clear j173); (try clear j214); (try clear hk57); grind [k_ii, k_ir, k_ri, k_rr, k_ai, k_ar, k_li, k_lr, k_qi, k_qr, ar_ci, ar_cl, ar_cq, la_ci, la_ca, la_cq, qa_ci, qa_ca, qa_cl, tk_link, kn10, kn460])
    · intro q9 eq9
      obtain rfl := ob_q nS (by decide) hO31_pg ez5 eq9
      intro z10 ez10
      intro q11 eq11
      have wq11 := rd_w nS (by decide) ez10 eq11
      refine ⟨by (try clear j45); (try clear j230); (try clear j173); (try clear j214); (try clear hk57); grind [k_ii, k_ir, k_ri, k_rr, k_ai, k_ar, k_li, k_lr, k_qi, k_qr, ar_ci, ar_cl, ar_cq, la_ci, la_ca, la_cq, qa_ci, qa_ca, qa_cl, tk_link, kn10, kn460], ?_⟩
      intro z12 ez12
      replace ez12 := ez12.trans (ar_rd nS (by decide) (by decide) wq11)
      exact j45 _ _ _ _ _ _ _ _ _ (by (try clear j45); (try clear j230); (try clear j173); (try clear j214); (try clear hk57); grind [k_ii, k_ir, k_ri, k_rr, k_ai, k_ar, k_li, k_lr, k_qi, k_qr, ar_ci, ar_cl, ar_cq, la_ci, la_ca, la_cq, qa_ci, qa_ca, qa_cl, tk_link, kn10, kn460])
  · refine ⟨fun c22 => ?_, fun c22 => ?_⟩
    · unfold wT_X6_leave_27
      refine ⟨fun c23 => ?_, fun c23 => ?_⟩
      · exact j45 _ _ _ _ _ _ _ _ _ (by (try clear j45); (try clear j230); (try clear j173); (try clear j214); (try clear hk57); grind [k_ii, k_ir, k_ri, k_rr, k_ai, k_ar, k_li, k_lr, k_qi, k_qr, ar_ci, ar_cl, ar_cq, la_ci, la_ca, la_cq, qa_ci, qa_ca, qa_cl, tk_link, kn10, kn460])
      · intro q9 eq9
        obtain rfl := ob_q nS (by decide) hO31_pg ez5 eq9
        intro z10 ez10
        intro q11 eq11
        have wq11 := rd_w nS (by decide) ez10 eq11
        refine ⟨by (try clear j45); (try clear j230); (try clear j173); (try clear j214); (try clear hk57); grind [k_ii, k_ir, k_ri, k_rr, k_ai, k_ar, k_li, k_lr, k_qi, k_qr, ar_ci, ar_cl, ar_cq, la_ci, la_ca, la_cq, qa_ci, qa_ca, qa_cl, tk_link, kn10, kn460], ?_⟩
        intro z12 ez12
        replace ez12 := ez12.trans (ar_rd nS (by decide) (by decide) wq11)
        exact j45 _ _ _ _ _ _ _ _ _ (by (try clear j45); (try clear j230); (try clear j173); (try clear j214); (try clear hk57); grind [k_ii, k_ir, k_ri, k_rr, k_ai, k_ar, k_li, k_lr, k_qi, k_qr, ar_ci, ar_cl, ar_cq, la_ci, la_ca, la_cq, qa_ci, qa_ca, qa_cl, tk_link, kn10, kn460])
    · unfold wT_X6_leave_22
      unfold wT_X6_leave_27
      refine ⟨fun c24 => ?_, fun c24 => ?_⟩
      · exact j45 _ _ _ _ _ _ _ _ _ (by (try clear j45); (try clear j230); (try clear j173); (try clear j214); (try clear hk57); grind [k_ii, k_ir, k_ri, k_rr, k_ai, k_ar, k_li, k_lr, k_qi, k_qr, ar_ci, ar_cl, ar_cq, la_ci, la_ca, la_cq, qa_ci, qa_ca, qa_cl, tk_link, kn10, kn460])
      · intro q9 eq9
        obtain rfl := ob_q nS (by decide) hO31_pg ez5 eq9
        intro z10 ez10
        intro q11 eq11
        have wq11 := rd_w nS (by decide) ez10 eq11
        refine ⟨by (try clear j45); (try clear j230); (try clear j173); (try clear j214); (try clear hk57); grind [k_ii, k_ir, k_ri, k_rr, k_ai, k_ar, k_li, k_lr, k_qi, k_qr, ar_ci, ar_cl, ar_cq, la_ci, la_ca, la_cq, qa_ci, qa_ca, qa_cl, tk_link, kn10, kn460], ?_⟩
        intro z12 ez12
        replace ez12 := ez12.trans (ar_rd nS (by decide) (by decide) wq11)
        exact j45 _ _ _ _ _ _ _ _ _ (by (try clear j45); (try clear j230); (try clear j173); (try clear j214); (try clear hk57); grind [k_ii, k_ir, k_ri, k_rr, k_ai, k_ar, k_li, k_lr, k_qi, k_qr, ar_ci, ar_cl, ar_cq, la_ci, la_ca, la_cq, qa_ci, qa_ca, qa_cl, tk_link, kn10, kn460])
