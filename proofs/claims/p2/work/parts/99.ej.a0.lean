
abbrev PV : Type := (Nat → Int) × (Nat → Nat → Int)
/-- the parser t0 with tokens tk, program pg, scopes sc: its ints, its arrays (149: the marks' low bits) -/
def vw (t0 tk pg sc : Nat) (S : kS) : PV := (fun f => (S.1 f (if f ≤ 11 then t0 else if f ≤ 18 then pg else if f ≤ 25 then sc else tk)).toInt, fun f i => if f = 149 then (ar S 49 sc i &&& 3).toInt else (ar S f (if f ≤ 20 then t0 else if f ≤ 39 then pg else if f ≤ 52 then sc else tk) i).toInt)
section VW
variable {t0 tk pg sc : Nat} {S S1 : kS}
theorem vi_6 : (vw t0 tk pg sc S).1 6 = (S.1 6 t0).toInt := rfl
theorem vi_7 : (vw t0 tk pg sc S).1 7 = (S.1 7 t0).toInt := rfl
theorem vi_8 : (vw t0 tk pg sc S).1 8 = (S.1 8 t0).toInt := rfl
theorem vi_9 : (vw t0 tk pg sc S).1 9 = (S.1 9 t0).toInt := rfl
theorem vi_10 : (vw t0 tk pg sc S).1 10 = (S.1 10 t0).toInt := rfl
theorem vi_11 : (vw t0 tk pg sc S).1 11 = (S.1 11 t0).toInt := rfl
theorem vi_17 : (vw t0 tk pg sc S).1 17 = (S.1 17 pg).toInt := rfl
theorem vi_18 : (vw t0 tk pg sc S).1 18 = (S.1 18 pg).toInt := rfl
theorem vi_24 : (vw t0 tk pg sc S).1 24 = (S.1 24 sc).toInt := rfl
theorem vi_25 : (vw t0 tk pg sc S).1 25 = (S.1 25 sc).toInt := rfl
theorem vi_40 : (vw t0 tk pg sc S).1 40 = (S.1 40 tk).toInt := rfl
theorem vi_41 : (vw t0 tk pg sc S).1 41 = (S.1 41 tk).toInt := rfl
theorem va_17 {i : Nat} : (vw t0 tk pg sc S).2 17 i = (ar S 17 t0 i).toInt := rfl
theorem va_18 {i : Nat} : (vw t0 tk pg sc S).2 18 i = (ar S 18 t0 i).toInt := rfl
theorem va_19 {i : Nat} : (vw t0 tk pg sc S).2 19 i = (ar S 19 t0 i).toInt := rfl
theorem va_28 {i : Nat} : (vw t0 tk pg sc S).2 28 i = (ar S 28 pg i).toInt := rfl
theorem va_29 {i : Nat} : (vw t0 tk pg sc S).2 29 i = (ar S 29 pg i).toInt := rfl
theorem va_30 {i : Nat} : (vw t0 tk pg sc S).2 30 i = (ar S 30 pg i).toInt := rfl
theorem va_32 {i : Nat} : (vw t0 tk pg sc S).2 32 i = (ar S 32 pg i).toInt := rfl
theorem va_33 {i : Nat} : (vw t0 tk pg sc S).2 33 i = (ar S 33 pg i).toInt := rfl
theorem va_34 {i : Nat} : (vw t0 tk pg sc S).2 34 i = (ar S 34 pg i).toInt := rfl
theorem va_35 {i : Nat} : (vw t0 tk pg sc S).2 35 i = (ar S 35 pg i).toInt := rfl
theorem va_36 {i : Nat} : (vw t0 tk pg sc S).2 36 i = (ar S 36 pg i).toInt := rfl
theorem va_37 {i : Nat} : (vw t0 tk pg sc S).2 37 i = (ar S 37 pg i).toInt := rfl
theorem va_43 {i : Nat} : (vw t0 tk pg sc S).2 43 i = (ar S 43 sc i).toInt := rfl
theorem va_44 {i : Nat} : (vw t0 tk pg sc S).2 44 i = (ar S 44 sc i).toInt := rfl
theorem va_45 {i : Nat} : (vw t0 tk pg sc S).2 45 i = (ar S 45 sc i).toInt := rfl
theorem va_46 {i : Nat} : (vw t0 tk pg sc S).2 46 i = (ar S 46 sc i).toInt := rfl
theorem va_47 {i : Nat} : (vw t0 tk pg sc S).2 47 i = (ar S 47 sc i).toInt := rfl
theorem va_48 {i : Nat} : (vw t0 tk pg sc S).2 48 i = (ar S 48 sc i).toInt := rfl
theorem va_49 {i : Nat} : (vw t0 tk pg sc S).2 49 i = (ar S 49 sc i).toInt := rfl
theorem va_50 {i : Nat} : (vw t0 tk pg sc S).2 50 i = (ar S 50 sc i).toInt := rfl
theorem va_51 {i : Nat} : (vw t0 tk pg sc S).2 51 i = (ar S 51 sc i).toInt := rfl
theorem va_52 {i : Nat} : (vw t0 tk pg sc S).2 52 i = (ar S 52 sc i).toInt := rfl
theorem va_64 {i : Nat} : (vw t0 tk pg sc S).2 64 i = (ar S 64 tk i).toInt := rfl
theorem va_65 {i : Nat} : (vw t0 tk pg sc S).2 65 i = (ar S 65 tk i).toInt := rfl
theorem va_149 {i : Nat} : (vw t0 tk pg sc S).2 149 i = (ar S 49 sc i &&& 3).toInt := rfl
end VW
/-- what two views share: all but the ints zi, the arrays fa -/
def VF (zi fa : List Nat) (V V1 : PV) : Prop := (∀ f, f ∉ zi → V1.1 f = V.1 f) ∧ (∀ f, f ∉ fa → (f = 149 → 49 ∉ fa) → V1.2 f = V.2 f)
theorem vw_k {t0 tk pg sc : Nat} {zi zr fa fl fq : List Nat} {S S1 : kS} (hF : KF zi zr fa fl fq S S1) (hI : INJ S) (hz : dis9 arrL zr = true) (hs : sub9 fa arrL = true) : VF zi fa (vw t0 tk pg sc S) (vw t0 tk pg sc S1) := by
  refine ⟨fun f hf => ?_, fun f hf h9 => ?_⟩
  · show (S1.1 f _).toInt = (S.1 f _).toInt
    rw [hF.1 f hf]
  · funext i
    unfold vw
    dsimp only
    split
    · rename_i e
      rw [KF_ar hF hI hz hs (h9 e)]
    · rw [KF_ar hF hI hz hs hf]
theorem hv_sub {zi fa zi1 fa1 : List Nat} {V V1 : PV} (h : VF zi fa V V1) (h1 : sub9 zi zi1 = true) (h2 : sub9 fa fa1 = true) : VF zi1 fa1 V V1 := ⟨fun f hf => h.1 f (sub9_m h1 hf), fun f hf h9 => h.2 f (sub9_m h2 hf) (fun e => sub9_m h2 (h9 e))⟩
theorem VF_i {zi fa : List Nat} {V V1 : PV} (h : VF zi fa V V1) (f : Nat) (hf : f ∉ zi) : V1.1 f = V.1 f := h.1 f hf
theorem VF_a {zi fa : List Nat} {V V1 : PV} (h : VF zi fa V V1) (f : Nat) (hf : f ∉ fa) (h9 : f ≠ 149) : V1.2 f = V.2 f := h.2 f hf (fun e => absurd e h9)
