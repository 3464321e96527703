
set_option maxHeartbeats 4000000 in
theorem sg_then {nx : Nat} (a0 : Int32) (a1 : Int32) {S : mS} (h : 12000 * nx ≤ (S.1 8).toInt ∧ (S.1 8).toInt < 12000 * nx + 12000 ∧ nx ≤ 1 ∧ (S.1 19).toInt < 12000 * nx + 12000 ∧ LA nx (S.1 19).toInt ∧ nx ≤ 1) : wp_then a0 a1 S (fun S1 r => (r = (S.1 8) ∧ (S1.1 8).toInt = (S.1 8).toInt + 1 ∧ (S1.1 19) = (S.1 8)) ∧ (NO nx S S1 ∧ (∀ m : Int, AF nx m S → AQ nx S a0 a1 → AF nx m S1))) := by
  unfold wp_then
  refine fm_act _ _ _ _ _ (fun S1 r1 hF1 pS1 => ?_) (sg_act (nx := nx) _ _ (by grind [LA_i, q_zz, q_za, q_zga, q_fza, q_fx, q_fga, q_gza, q_gfa, q_gx, q_zf1, q_zg1, q_ff, q_fg1, q_gf1, q_gg, ti_link]))
  obtain ⟨pS1, qS1⟩ := pS1
  have fS1 : S1.1 4 = 0 → S.1 4 = 0 := fun q => (hF1.1 4 (by decide)).symm.trans q
  have nS1 : NC S S1 := NC_fr hF1 (by decide) (by decide) fS1
  have z19_S1 := hF1.1 19 (by decide)
  clear hF1
  refine fm_lead _ _ _ _ (fun S2 hF2 pS2 => ?_) (sg_lead (nx := nx) _ (by (try clear qS1 nS1); grind [LA_i, q_zz, q_za, q_zga, q_fza, q_fx, q_fga, q_gza, q_gfa, q_gx, q_zf1, q_zg1, q_ff, q_fg1, q_gf1, q_gg, ti_link]))
  obtain ⟨pS2, qS2⟩ := pS2
  have fS2 : S2.1 4 = 0 → S1.1 4 = 0 := fun q => (hF2.1 4 (by decide)).symm.trans q
  have nS2 : NC S1 S2 := NC_fr hF2 (by decide) (by decide) fS2
  have z8_S2 := hF2.1 8 (by decide)
  have z19_S2 := hF2.1 19 (by decide)
  clear hF2
  intro S3 eS3
  have lS3 : ∀ m : Int, AV nx S2 r1 → AF nx m S2 → AF nx m S3 := fun m h8 h9 => AF_lv eS3 h8 h9
  have nS3 : NC S2 S3 := NC_z eS3 (by decide)
  have oS3 : NO nx S2 S3 := NO_z eS3
  exact ⟨by (try clear qS1 nS1 qS2 nS2 lS3 nS3 oS3); grind [LA_i, q_zz, q_za, q_zga, q_fza, q_fx, q_fga, q_gza, q_gfa, q_gx, q_zf1, q_zg1, q_ff, q_fg1, q_gf1, q_gg, ti_link], by exact ⟨NO_tr (NO_tr qS1.1 qS2.1) oS3, fun m h1 h2 => AF_last eS3 (Or.inr (AV_i (by rw [pS1.1]; exact h.1) (by rw [pS1.1, z8_S2]; omega))) (qS2.2 m (qS1.2 m h1 h2) (AV_i (by rw [pS1.1]; exact h.1) (by rw [pS1.1]; omega)))⟩⟩
