
set_option maxHeartbeats 4000000 in
theorem sg_inBlock {nx n : Nat} {so pl : Nat → Int32} {wo ws : Nat → Int64} {S0 : mS} {D d : Nat} {G GA X Y GW GT : Int} {r_block : mS → (mS → Prop) → Prop} (hf_block : FmV [3, 4, 7, 8, 9, 10, 11, 13, 14, 15, 16, 17, 18, 19, 20] [8, 10, 12, 13, 14, 15, 16, 17, 18, 19, 20, 21, 24, 25, 26, 27, 28, 29, 30, 31, 32, 33, 34, 35, 36, 37, 38, 39, 40, 41, 42, 43, 44, 45, 46, 47, 48] [9] (r_block)) (hr_block : ∀ (d : Nat) (G GA X Y GW GT : Int) (S : mS), D ≤ d → LV d G GA X Y → X ≤ 1800 ∧ Y ≤ 900 → GW ≤ (d : Int) - 10 ∧ GT ≤ 6 * (d : Int) + 6 → SI nx n so pl wo ws S0 d G GA X Y GW GT S → r_block S (fun S1 => SI nx n so pl wo ws S0 d (G - 10) GA X Y (GW - 2) (GT - 2) S1 ∧ ((S1.1 4) = 0 → (S.1 4) = 0 ∧ (S.1 3).toInt + 2 ≤ (S1.1 3).toInt) ∧ (S.1 9).toInt ≤ (S1.1 9).toInt ∧ (S.1 10).toInt ≤ (S1.1 10).toInt ∧ (∀ i : Nat, (i : Int) < (S.1 9).toInt → (S1.2.1 28) i = (S.2.1 28) i))) (a0 : Int32) (a1 : Int32) {S : mS} (hL : LV d G GA X Y) (h : SI nx n so pl wo ws S0 d G GA X Y GW GT S) (hX : X ≤ 1800 ∧ Y ≤ 900) (hW : GW ≤ (d : Int) - 10 ∧ GT ≤ 6 * (d : Int) + 6) (hD : D ≤ d) (ha : 500 * nx ≤ a0.toInt ∧ a0.toInt < (S.1 9).toInt) : wp_inBlock r_block a0 a1 S (fun S1 => SI nx n so pl wo ws S0 d (G - 10) GA X Y (GW - 2) (GT - 2) S1 ∧ ((S1.1 4) = 0 → (S.1 4) = 0 ∧ (S.1 3).toInt + 2 ≤ (S1.1 3).toInt) ∧ (S.1 9).toInt ≤ (S1.1 9).toInt ∧ (S.1 10).toInt ≤ (S1.1 10).toInt ∧ (∀ i : Nat, (i : Int) < (S.1 9).toInt → (S1.2.1 28) i = (S.2.1 28) i)) := by
  unfold wp_inBlock
  intro S1 eS1
  intro S2 eS2
  refine hf_block _ _ _ (fun S3 hF1 pS3 => ?_) (hr_block d G GA X Y GW GT _ (by (try clear hr_block); (try clear hf_block); grind [SI, PT, WB, PLM, XI, PI, PJ, BU, LV, q_zz, q_za, q_zga, q_fza, q_fx, q_fga, q_gza, q_gfa, q_gx, q_zf1, q_zg1, q_ff, q_fg1, q_gf1, q_gg, ti_link]) (by (try clear hr_block); (try clear hf_block); grind [SI, PT, WB, PLM, XI, PI, PJ, BU, LV, q_zz, q_za, q_zga, q_fza, q_fx, q_fga, q_gza, q_gfa, q_gx, q_zf1, q_zg1, q_ff, q_fg1, q_gf1, q_gg, ti_link]) (by (try clear hr_block); (try clear hf_block); grind [SI, PT, WB, PLM, XI, PI, PJ, BU, LV, q_zz, q_za, q_zga, q_fza, q_fx, q_fga, q_gza, q_gfa, q_gx, q_zf1, q_zg1, q_ff, q_fg1, q_gf1, q_gg, ti_link]) (by (try clear hr_block); (try clear hf_block); grind [SI, PT, WB, PLM, XI, PI, PJ, BU, LV, q_zz, q_za, q_zga, q_fza, q_fx, q_fga, q_gza, q_gfa, q_gx, q_zf1, q_zg1, q_ff, q_fg1, q_gf1, q_gg, ti_link]) (by (try clear hr_block); (try clear hf_block); grind [SI, PT, WB, PLM, XI, PI, PJ, BU, LV, q_zz, q_za, q_zga, q_fza, q_fx, q_fga, q_gza, q_gfa, q_gx, q_zf1, q_zg1, q_ff, q_fg1, q_gf1, q_gg, ti_link]))
  have z6_S3 := hF1.1 6 (by decide)
  have z12_S3 := hF1.1 12 (by decide)
  have f1_S3 := hF1.2.1 1 (by decide)
  have f1a_S3 := Fr_fa hF1 1 (by decide)
  have f2_S3 := hF1.2.1 2 (by decide)
  have f2a_S3 := Fr_fa hF1 2 (by decide)
  have g3_S3 := hF1.2.2 3 (by decide)
  have g3a_S3 := Fr_ga hF1 3 (by decide)
  have g4_S3 := hF1.2.2 4 (by decide)
  have g4a_S3 := Fr_ga hF1 4 (by decide)
  clear hF1
  intro S4 eS4
  intro S5 eS5
  (try clear hr_block); (try clear hf_block); grind [SI, PT, WB, PLM, XI, PI, PJ, BU, LV, q_zz, q_za, q_zga, q_fza, q_fx, q_fga, q_gza, q_gfa, q_gx, q_zf1, q_zg1, q_ff, q_fg1, q_gf1, q_gg, ti_link]
