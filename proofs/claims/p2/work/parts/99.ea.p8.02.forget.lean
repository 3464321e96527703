
set_option maxHeartbeats 4000000 in
theorem sg_forget {S : mS} : wp_forget S (fun S1 => FG S1) := by
  unfold wp_forget
  intro S1 eS1
  intro S2 eS2
  intro S3 eS3
  intro S4 eS4
  intro S5 eS5
  intro S6 eS6
  intro S7 eS7
  intro S8 eS8
  refine it_rule (fun u : Int32 × mS => 0 ≤ u.1.toInt ∧ u.1.toInt ≤ 8 ∧ (u.2.1 22) = 0 ∧ (u.2.1 23) = 0 ∧ (u.2.1 24) = 0 ∧ (u.2.1 26) = 0 ∧ (u.2.1 27) = 0 ∧ (u.2.1 28) = 0 ∧ (u.2.1 29) = 0 ∧ (u.2.1 30) = 0 ∧ LZ u.1.toInt ((u.2.2.1 78))) (fun u => (8 - u.1.toInt).toNat) ?_ (by (try clear hk42); grind [LZ_0, LZ_up, FG, q_zz, q_za, q_zga, q_fza, q_fx, q_fga, q_gza, q_gfa, q_gx, q_zf1, q_zg1, q_ff, q_fg1, q_gf1, q_gg, ti_link, in8])
  rintro ⟨x1, Sl42⟩ k42 hI42 hk42
  replace hI42 : 0 ≤ x1.toInt ∧ x1.toInt ≤ 8 ∧ (Sl42.1 22) = 0 ∧ (Sl42.1 23) = 0 ∧ (Sl42.1 24) = 0 ∧ (Sl42.1 26) = 0 ∧ (Sl42.1 27) = 0 ∧ (Sl42.1 28) = 0 ∧ (Sl42.1 29) = 0 ∧ (Sl42.1 30) = 0 ∧ LZ x1.toInt ((Sl42.2.1 78)) := hI42
  replace hk42 : ∀ v : Int32 × mS, 0 ≤ v.1.toInt ∧ v.1.toInt ≤ 8 ∧ (v.2.1 22) = 0 ∧ (v.2.1 23) = 0 ∧ (v.2.1 24) = 0 ∧ (v.2.1 26) = 0 ∧ (v.2.1 27) = 0 ∧ (v.2.1 28) = 0 ∧ (v.2.1 29) = 0 ∧ (v.2.1 30) = 0 ∧ LZ v.1.toInt ((v.2.2.1 78)) → (8 - v.1.toInt).toNat < (8 - x1.toInt).toNat → k42 v := hk42
  show wp_forget_42 _ k42 x1 Sl42
  unfold wp_forget_42
  refine ⟨fun c1 => ?_, fun c1 => ?_⟩
  · (try clear hk42); grind [LZ_0, LZ_up, FG, q_zz, q_za, q_zga, q_fza, q_fx, q_fga, q_gza, q_gfa, q_gx, q_zf1, q_zg1, q_ff, q_fg1, q_gf1, q_gg, ti_link, in8]
  · refine ⟨by (try clear hk42); grind [LZ_0, LZ_up, FG, q_zz, q_za, q_zga, q_fza, q_fx, q_fga, q_gza, q_gfa, q_gx, q_zf1, q_zg1, q_ff, q_fg1, q_gf1, q_gg, ti_link, in8], ?_⟩
    intro S10 eS10
    intro z11 ez11
    exact hk42 _ (by (try clear hk42); grind [LZ_0, LZ_up, FG, q_zz, q_za, q_zga, q_fza, q_fx, q_fga, q_gza, q_gfa, q_gx, q_zf1, q_zg1, q_ff, q_fg1, q_gf1, q_gg, ti_link, in8]) (by (try clear hk42); grind [LZ_0, LZ_up, FG, q_zz, q_za, q_zga, q_fza, q_fx, q_fga, q_gza, q_gfa, q_gx, q_zf1, q_zg1, q_ff, q_fg1, q_gf1, q_gg, ti_link, in8])
