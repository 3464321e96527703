
set_option maxHeartbeats 4000000 in
theorem sg_goTo {hx : Nat} {na nt nw : Int} {T : mS} (a0 : Int32) (a1 : Int32) (a2 : Int32) {S : mS} (hE : EQ T S) (hW : LW hx na nt nw T) (hI : LI hx na S) (he : 12000 * hx ≤ a2.toInt ∧ a2.toInt < na) (ha : a0.toInt < 0 ∨ (12000 * hx ≤ a0.toInt ∧ a0.toInt < na)) (hb : 12000 * hx ≤ a1.toInt ∧ a1.toInt < na) : wp_goTo a0 a1 a2 S (fun S1 => EQ T S1 ∧ LI hx na S1 ∧ 2 * (12000 - CN ((S1.2.1 49))) + (S1.1 21).toInt ≤ 2 * (12000 - CN ((S.2.1 49))) + (S.1 21).toInt) := by
  unfold wp_goTo
  have j10 : ∀ (x3 : Int32) (y1 : Int32) (Sx : mS), (Sx = S ∧ x3 = a2 ∧ 12000 * hx ≤ y1.toInt ∧ y1.toInt < na) → wp_goTo_10 (fun S1 => EQ T S1 ∧ LI hx na S1 ∧ 2 * (12000 - CN ((S1.2.1 49))) + (S1.1 21).toInt ≤ 2 * (12000 - CN ((S.2.1 49))) + (S.1 21).toInt) x3 y1 Sx := by
    intro x3 y1 Sx hJ10
    unfold wp_goTo_10
    refine fm_go _ _ _ _ _ (fun S2 hF1 pS2 => ?_) (sg_go (hx := hx) (na := na) (nt := nt) (nw := nw) (T := T) _ _ (by (try clear j10); grind [→ LW_b, → EQ_5, EQ_f, EQ_z, OR1, q_zz, q_za, q_zga, q_fza, q_fx, q_fga, q_gza, q_gfa, q_gx, q_zf1, q_zg1, q_ff, q_fg1, q_gf1, q_gg, ti_link]) (by (try clear j10); grind [→ LW_b, → EQ_5, EQ_f, EQ_z, OR1, q_zz, q_za, q_zga, q_fza, q_fx, q_fga, q_gza, q_gfa, q_gx, q_zf1, q_zg1, q_ff, q_fg1, q_gf1, q_gg, ti_link]) (by (try clear j10); grind [→ LW_b, → EQ_5, EQ_f, EQ_z, OR1, q_zz, q_za, q_zga, q_fza, q_fx, q_fga, q_gza, q_gfa, q_gx, q_zf1, q_zg1, q_ff, q_fg1, q_gf1, q_gg, ti_link]) (by (try clear j10); grind [→ LW_b, → EQ_5, EQ_f, EQ_z, OR1, q_zz, q_za, q_zga, q_fza, q_fx, q_fga, q_gza, q_gfa, q_gx, q_zf1, q_zg1, q_ff, q_fg1, q_gf1, q_gg, ti_link]) (by (try clear j10); grind [→ LW_b, → EQ_5, EQ_f, EQ_z, OR1, q_zz, q_za, q_zga, q_fza, q_fx, q_fga, q_gza, q_gfa, q_gx, q_zf1, q_zg1, q_ff, q_fg1, q_gf1, q_gg, ti_link]))
    have z5_S2 := hF1.1 5 (by decide)
    clear hF1
    (try clear j10); grind [→ LW_b, → EQ_5, EQ_f, EQ_z, OR1, q_zz, q_za, q_zga, q_fza, q_fx, q_fga, q_gza, q_gfa, q_gx, q_zf1, q_zg1, q_ff, q_fg1, q_gf1, q_gg, ti_link]
  refine ⟨fun c2 => ?_, fun c2 => ?_⟩
  · exact j10 _ _ _ (by (try clear j10); grind [→ LW_b, → EQ_5, EQ_f, EQ_z, OR1, q_zz, q_za, q_zga, q_fza, q_fx, q_fga, q_gza, q_gfa, q_gx, q_zf1, q_zg1, q_ff, q_fg1, q_gf1, q_gg, ti_link])
  · exact j10 _ _ _ (by (try clear j10); grind [→ LW_b, → EQ_5, EQ_f, EQ_z, OR1, q_zz, q_za, q_zga, q_fza, q_fx, q_fga, q_gza, q_gfa, q_gx, q_zf1, q_zg1, q_ff, q_fg1, q_gf1, q_gg, ti_link])
