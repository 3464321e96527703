
set_option maxHeartbeats 4000000 in
theorem sg_toRow {x : Int} {T : mS} (a0 : Int32) {S : mS} (hE : ET T S) (h : RWX (S.1 22).toInt (S.1 23).toInt x ((S.2.1 54)) ((S.2.1 73))) (ht : 0 ≤ a0.toInt ∧ a0.toInt < (S.1 22).toInt ∧ (S.1 22).toInt ≤ 200) (hs : ¬ (S.2.1 54) (ix a0) = 0 ∨ a0.toInt = x) (hx : x = -1 ∨ x = a0.toInt) : wp_toRow a0 S (fun S1 => ET T S1 ∧ RWX (S1.1 22).toInt (S1.1 23).toInt (-1) ((S1.2.1 54)) ((S1.2.1 73)) ∧ (S1.2.1 54) = upd ((S.2.1 54)) (ix a0) 0) := by
  have hlt := RWX_lt h ht.1 ht.2.1 hs
  have h00 := h.1
  unfold wp_toRow
  refine ⟨by grind [RWX_to, ET_f54, ET_f73, ET_z23, q_zz, q_za, q_zga, q_fza, q_fx, q_fga, q_gza, q_gfa, q_gx, q_zf1, q_zg1, q_ff, q_fg1, q_gf1, q_gg, ti_link, in200], ?_⟩
  intro S1 eS1
  intro z2 ez2
  intro S3 eS3
  refine ⟨by grind [RWX_to, ET_f54, ET_f73, ET_z23, q_zz, q_za, q_zga, q_fza, q_fx, q_fga, q_gza, q_gfa, q_gx, q_zf1, q_zg1, q_ff, q_fg1, q_gf1, q_gg, ti_link, in200], ?_⟩
  intro S4 eS4
  grind [RWX_to, ET_f54, ET_f73, ET_z23, q_zz, q_za, q_zga, q_fza, q_fx, q_fga, q_gza, q_gfa, q_gx, q_zf1, q_zg1, q_ff, q_fg1, q_gf1, q_gg, ti_link, in200]
