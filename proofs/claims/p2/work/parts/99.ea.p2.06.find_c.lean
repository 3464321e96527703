
set_option maxHeartbeats 4000000 in
theorem sg_find_c (a1 : Int32) (a2 : Int32) (a3 : Int64) {S : mS} (h : 0 ≤ a1.toInt ∧ 0 ≤ a2.toInt ∧ a1.toInt + a2.toInt ≤ 288) : wp_find_c a1 a2 a3 S (fun S1 r => S1 = S ∧ -1 ≤ r.toInt ∧ (r.toInt < a2.toInt ∨ r.toInt = -1)) := by
  unfold wp_find_c
  refine it_rule (fun u : Int32 × Int32 × Int64 × Int32 × Int32 × mS => u.1 = a1 ∧ u.2.1 = a2 ∧ u.2.2.2.2.2 = S ∧ -1 ≤ u.2.2.2.1.toInt ∧ (u.2.2.2.1.toInt < a2.toInt ∨ u.2.2.2.1.toInt = -1) ∧ 0 ≤ u.2.2.2.2.1.toInt ∧ u.2.2.2.2.1.toInt ≤ a2.toInt) (fun u => (a2.toInt - u.2.2.2.2.1.toInt).toNat) ?_ (by (try clear hk6); grind [q_zz, q_za, q_zga, q_fza, q_fx, q_fga, q_gza, q_gfa, q_gx, q_zf1, q_zg1, q_ff, q_fg1, q_gf1, q_gg, ti_link, in288])
  rintro ⟨x2, x3, x4, x6, x7, Sl6⟩ k6 hI6 hk6
  replace hI6 : x2 = a1 ∧ x3 = a2 ∧ Sl6 = S ∧ -1 ≤ x6.toInt ∧ (x6.toInt < a2.toInt ∨ x6.toInt = -1) ∧ 0 ≤ x7.toInt ∧ x7.toInt ≤ a2.toInt := hI6
  replace hk6 : ∀ v : Int32 × Int32 × Int64 × Int32 × Int32 × mS, v.1 = a1 ∧ v.2.1 = a2 ∧ v.2.2.2.2.2 = S ∧ -1 ≤ v.2.2.2.1.toInt ∧ (v.2.2.2.1.toInt < a2.toInt ∨ v.2.2.2.1.toInt = -1) ∧ 0 ≤ v.2.2.2.2.1.toInt ∧ v.2.2.2.2.1.toInt ≤ a2.toInt → (a2.toInt - v.2.2.2.2.1.toInt).toNat < (a2.toInt - x7.toInt).toNat → k6 v := hk6
  show wp_find_c_6 _ k6 x2 x3 x4 x6 x7 Sl6
  unfold wp_find_c_6
  refine ⟨fun c1 => ?_, fun c1 => ?_⟩
  · (try clear hk6); grind [q_zz, q_za, q_zga, q_fza, q_fx, q_fga, q_gza, q_gfa, q_gx, q_zf1, q_zg1, q_ff, q_fg1, q_gf1, q_gg, ti_link, in288]
  · intro z2 ez2
    refine ⟨by (try clear hk6); grind [q_zz, q_za, q_zga, q_fza, q_fx, q_fga, q_gza, q_gfa, q_gx, q_zf1, q_zg1, q_ff, q_fg1, q_gf1, q_gg, ti_link, in288], ?_⟩
    intro z3 ez3
    intro z4 ez4
    refine ⟨fun c2 => ?_, fun c2 => ?_⟩
    · unfold wp_find_c_31
      intro z6 ez6
      exact hk6 _ (by (try clear hk6); grind [q_zz, q_za, q_zga, q_fza, q_fx, q_fga, q_gza, q_gfa, q_gx, q_zf1, q_zg1, q_ff, q_fg1, q_gf1, q_gg, ti_link, in288]) (by (try clear hk6); grind [q_zz, q_za, q_zga, q_fza, q_fx, q_fga, q_gza, q_gfa, q_gx, q_zf1, q_zg1, q_ff, q_fg1, q_gf1, q_gg, ti_link, in288])
    · unfold wp_find_c_31
      intro z6 ez6
      exact hk6 _ (by (try clear hk6); grind [q_zz, q_za, q_zga, q_fza, q_fx, q_fga, q_gza, q_gfa, q_gx, q_zf1, q_zg1, q_ff, q_fg1, q_gf1, q_gg, ti_link, in288]) (by (try clear hk6); grind [q_zz, q_za, q_zga, q_fza, q_fx, q_fga, q_gza, q_gfa, q_gx, q_zf1, q_zg1, q_ff, q_fg1, q_gf1, q_gg, ti_link, in288])
