
set_option maxHeartbeats 4000000 in
theorem sg_isState {hx : Nat} {na nt nw : Int} {T : mS} (a0 : Int32) (a1 : Int32) {S : mS} (hE : EQ T S) (hW : LW hx na nt nw T) : wp_isState a0 a1 S (fun S1 r => S1 = S ∧ (r = 0 ∨ (r = 1 ∧ 0 ≤ a0.toInt ∧ a0.toInt < ((T.2.1 5) hx).toInt ∧ 0 ≤ a1.toInt ∧ a1.toInt ≤ ((T.2.1 10) (ix (12 * (T.1 5) + a0))).toInt))) := by
  unfold wp_isState
  refine ⟨fun c1 => ?_, fun c1 => ?_⟩
  · grind [→ LW_b, → LW_r, EQ_r, → EQ_5, EQ_f, EQ_z, OR1, q_zz, q_za, q_zga, q_fza, q_fx, q_fga, q_gza, q_gfa, q_gx, q_zf1, q_zg1, q_ff, q_fg1, q_gf1, q_gg, ti_link, in2, in24]
  · refine ⟨by grind [→ LW_b, → LW_r, EQ_r, → EQ_5, EQ_f, EQ_z, OR1, q_zz, q_za, q_zga, q_fza, q_fx, q_fga, q_gza, q_gfa, q_gx, q_zf1, q_zg1, q_ff, q_fg1, q_gf1, q_gg, ti_link, in2, in24], ?_⟩
    intro z2 ez2
    refine ⟨fun c2 => ?_, fun c2 => ?_⟩
    · grind [→ LW_b, → LW_r, EQ_r, → EQ_5, EQ_f, EQ_z, OR1, q_zz, q_za, q_zga, q_fza, q_fx, q_fga, q_gza, q_gfa, q_gx, q_zf1, q_zg1, q_ff, q_fg1, q_gf1, q_gg, ti_link, in2, in24]
    · refine ⟨fun c3 => ?_, fun c3 => ?_⟩
      · grind [→ LW_b, → LW_r, EQ_r, → EQ_5, EQ_f, EQ_z, OR1, q_zz, q_za, q_zga, q_fza, q_fx, q_fga, q_gza, q_gfa, q_gx, q_zf1, q_zg1, q_ff, q_fg1, q_gf1, q_gg, ti_link, in2, in24]
      · intro z5 ez5
        intro z6 ez6
        refine ⟨by grind [→ LW_b, → LW_r, EQ_r, → EQ_5, EQ_f, EQ_z, OR1, q_zz, q_za, q_zga, q_fza, q_fx, q_fga, q_gza, q_gfa, q_gx, q_zf1, q_zg1, q_ff, q_fg1, q_gf1, q_gg, ti_link, in2, in24], ?_⟩
        intro z7 ez7
        refine ⟨fun c4 => ?_, fun c4 => ?_⟩
        · grind [→ LW_b, → LW_r, EQ_r, → EQ_5, EQ_f, EQ_z, OR1, q_zz, q_za, q_zga, q_fza, q_fx, q_fga, q_gza, q_gfa, q_gx, q_zf1, q_zg1, q_ff, q_fg1, q_gf1, q_gg, ti_link, in2, in24]
        · grind [→ LW_b, → LW_r, EQ_r, → EQ_5, EQ_f, EQ_z, OR1, q_zz, q_za, q_zga, q_fza, q_fx, q_fga, q_gza, q_gfa, q_gx, q_zf1, q_zg1, q_ff, q_fg1, q_gf1, q_gg, ti_link, in2, in24]
