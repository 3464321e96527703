
set_option maxHeartbeats 4000000 in
theorem sg_outOfRow {T : mS} (a0 : Int32) {S : mS} (hE : ET T S) (h : 0 ≤ a0.toInt ∧ a0.toInt < (S.1 23).toInt ∧ (S.1 23).toInt ≤ 200) : wp_outOfRow a0 S (fun S1 => ET T S1 ∧ (S1.1 23).toInt = (S.1 23).toInt - 1 ∧ SH a0.toInt ((S.1 23).toInt - 1) ((S.2.1 73)) ((S1.2.1 73))) := by
  unfold wp_outOfRow
  intro z1 ez1
  intro S2 eS2
  refine it_rule (fun u : Int32 × mS => ET T u.2 ∧ (u.2.1 23).toInt = (S.1 23).toInt - 1 ∧ a0.toInt ≤ u.1.toInt ∧ u.1.toInt ≤ (S.1 23).toInt - 1 ∧ SH a0.toInt u.1.toInt ((S.2.1 73)) ((u.2.2.1 73))) (fun u => ((S.1 23).toInt - u.1.toInt).toNat) ?_ (by (try clear hk12); grind [SH_0, SH_s, ET_f73, ET_z23, q_zz, q_za, q_zga, q_fza, q_fx, q_fga, q_gza, q_gfa, q_gx, q_zf1, q_zg1, q_ff, q_fg1, q_gf1, q_gg, ti_link, in200])
  rintro ⟨x2, Sl12⟩ k12 hI12 hk12
  replace hI12 : ET T Sl12 ∧ (Sl12.1 23).toInt = (S.1 23).toInt - 1 ∧ a0.toInt ≤ x2.toInt ∧ x2.toInt ≤ (S.1 23).toInt - 1 ∧ SH a0.toInt x2.toInt ((S.2.1 73)) ((Sl12.2.1 73)) := hI12
  replace hk12 : ∀ v : Int32 × mS, ET T v.2 ∧ (v.2.1 23).toInt = (S.1 23).toInt - 1 ∧ a0.toInt ≤ v.1.toInt ∧ v.1.toInt ≤ (S.1 23).toInt - 1 ∧ SH a0.toInt v.1.toInt ((S.2.1 73)) ((v.2.2.1 73)) → ((S.1 23).toInt - v.1.toInt).toNat < ((S.1 23).toInt - x2.toInt).toNat → k12 v := hk12
  show wp_outOfRow_12 _ k12 x2 Sl12
  unfold wp_outOfRow_12
  refine ⟨fun c1 => ?_, fun c1 => ?_⟩
  · (try clear hk12); grind [SH_0, SH_s, ET_f73, ET_z23, q_zz, q_za, q_zga, q_fza, q_fx, q_fga, q_gza, q_gfa, q_gx, q_zf1, q_zg1, q_ff, q_fg1, q_gf1, q_gg, ti_link, in200]
  · intro z4 ez4
    refine ⟨by (try clear hk12); grind [SH_0, SH_s, ET_f73, ET_z23, q_zz, q_za, q_zga, q_fza, q_fx, q_fga, q_gza, q_gfa, q_gx, q_zf1, q_zg1, q_ff, q_fg1, q_gf1, q_gg, ti_link, in200], ?_⟩
    intro z5 ez5
    refine ⟨by (try clear hk12); grind [SH_0, SH_s, ET_f73, ET_z23, q_zz, q_za, q_zga, q_fza, q_fx, q_fga, q_gza, q_gfa, q_gx, q_zf1, q_zg1, q_ff, q_fg1, q_gf1, q_gg, ti_link, in200], ?_⟩
    intro S6 eS6
    intro z7 ez7
    exact hk12 _ (by (try clear hk12); grind [SH_0, SH_s, ET_f73, ET_z23, q_zz, q_za, q_zga, q_fza, q_fx, q_fga, q_gza, q_gfa, q_gx, q_zf1, q_zg1, q_ff, q_fg1, q_gf1, q_gg, ti_link, in200]) (by (try clear hk12); grind [SH_0, SH_s, ET_f73, ET_z23, q_zz, q_za, q_zga, q_fza, q_fx, q_fga, q_gza, q_gfa, q_gx, q_zf1, q_zg1, q_ff, q_fg1, q_gf1, q_gg, ti_link, in200])
