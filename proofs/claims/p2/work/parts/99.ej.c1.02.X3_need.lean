
set_option maxHeartbeats 400000 in
theorem sk_X3_need {tk pg sc : Nat} (t0 : Nat) (a0 : Int32) {S : kS} (hI : INJ S) (hO14_t0 : S.2.1 14 t0 = some tk) (hO15_t0 : S.2.1 15 t0 = some pg) (hO16_t0 : S.2.1 16 t0 = some sc) (hG_S : RG (vw t0 tk pg sc S)) : wT_X3_need t0 a0 S (fun S1 => Rx (-2) (vw t0 tk pg sc S) (vw t0 tk pg sc S1)) := by
  have nS : FX [] S S := FX_rf
  have PS : Rx 0 (vw t0 tk pg sc S) (vw t0 tk pg sc S) := Rx_rf
  unfold wT_X3_need
  refine kmT_X3_take _ _ _ _ _ (fun S1 r1 hF1 pS1 => ?_) (sr_X3_take (tk := tk) (pg := pg) (sc := sc) _ _ (INJ_x nS (by decide) hI) (ob_h nS (by decide) hO14_t0) (ob_h nS (by decide) hO15_t0) (ob_h nS (by decide) hO16_t0) (Rx_g PS hG_S))
  have nS1 : FX [] S S1 := FX_k hF1 (by decide) nS
  have PS1 := Rx_tr hG_S PS pS1.1
  clear hF1
  refine ⟨fun c2 => ?_, fun c2 => ?_⟩
  · exact Rx_m (pS1.2.1 c2) (by decide)
  · refine kmT_X3_wrong _ _ _ _ _ (fun S3 hF3 pS3 => ?_) (sr_X3_wrong (tk := tk) (pg := pg) (sc := sc) _ _ (INJ_x nS1 (by decide) hI) (ob_h nS1 (by decide) hO14_t0) (ob_h nS1 (by decide) hO15_t0) (ob_h nS1 (by decide) hO16_t0) (Rx_g PS1 hG_S) ((by decide)))
    have nS3 : FX [] S S3 := FX_k hF3 (by decide) nS1
    have PS3 := Rx_tr hG_S PS1 pS3.1
    have fS3 : (vw t0 tk pg sc S3).1 7 ≠ 0 := pS3.2
    clear hF3
    exact Rx_m PS3 (by decide)
