
theorem l_bm {a : Int} (h : -9223372036854775808 ≤ a ∧ a < 9223372036854775808) : a.bmod (2 ^ 64) = a := by
  rw [Int.bmod_def]
  omega
theorem l_add {x y z : Int64} (e : z = x + y) (h : -9223372036854775808 ≤ x.toInt + y.toInt ∧ x.toInt + y.toInt < 9223372036854775808) : z.toInt = x.toInt + y.toInt := by
  rw [e, Int64.toInt_add]; exact l_bm h
theorem l_mul {x y z : Int64} (e : z = x * y) (h : -9223372036854775808 ≤ x.toInt * y.toInt ∧ x.toInt * y.toInt < 9223372036854775808) : z.toInt = x.toInt * y.toInt := by
  rw [e, Int64.toInt_mul]; exact l_bm h
theorem tkN_c {S S1 : mS} {n : Nat} {k : Int} (h : tkN S n k) (hp : ∀ j, j < n → (S1.2.1 2) j = (S.2.1 2) j ∧ (S1.2.1 1) j = (S.2.1 1) j ∧ (S1.2.2 3) j = (S.2.2 3) j) : tkN S1 n k := fun j hj => by
  obtain ⟨h1, h2⟩ := h j hj
  obtain ⟨p1, p2, p3⟩ := hp j hj
  refine ⟨?_, by rw [p1]; exact h2⟩
  by_cases hl : j + 1 < n
  · rw [if_pos hl] at h1 ⊢
    rw [(hp (j + 1) hl).1]
    exact tkOk_c h1 p1 p2 p3
  · rw [if_neg hl] at h1 ⊢
    exact tkOk_c h1 p1 p2 p3
theorem pow37 {a b : Nat} (h : a ≤ b) : (37 : Int) ^ a ≤ 37 ^ b := by
  have h1 : (37 : Nat) ^ a ≤ 37 ^ b := Nat.pow_le_pow_right (by decide) h
  have h2 : (((37 : Nat) ^ a : Nat) : Int) ≤ (((37 : Nat) ^ b : Nat) : Int) := Int.ofNat_le.mpr h1
  rw [Int.natCast_pow, Int.natCast_pow] at h2
  exact h2
def lexK (S1 : mS) : Prop := ∃ n, LX n S1 ∧ (S1.1 3) = 0 ∧ (S1.1 4) = 0 ∧ (S1.1 1) = 0
theorem sp_cutAll (S : mS) (m : Nat) (h0 : (S.1 1).toInt = m) (hm : m ≤ 4000) : wp_cutAll S lexK := by
  unfold wp_cutAll
  intro S1 e1 S2 e2
  have r1 : (S2.1 1) = 0 := by rw [e2]; rfl
  have r2 : (S2.1 2).toInt = m := by rw [e2, e1]; exact h0
  refine it_rule (fun u : Int32 × Int32 × mS => ∃ n k : Nat, u.1.toInt = n ∧ u.2.1.toInt = k ∧ n ≤ k ∧ k ≤ m ∧ (u.2.2.1 2).toInt = m ∧ u.2.2.1 1 = 0 ∧ tkN u.2.2 n k) (fun u => ((m : Int) - u.2.1.toInt).toNat) ?_ ⟨0, 0, rfl, rfl, Nat.le_refl _, Nat.zero_le _, r2, r1, fun j hj => absurd hj (Nat.not_lt_zero _)⟩
  rintro ⟨x1, x2, S⟩ k17 ⟨n, k, hx1, hx2, hnk, hkm, hsz, htp, htk⟩ hk
  dsimp only at hx1 hx2 hsz htp htk
  show wp_cutAll_17 _ k17 x1 x2 S
  have q1 : (1 : Int32).toInt = 1 := rfl
  have ix1 : ix x1 = n := ix_of hx1
  have ix2 : ix x2 = k := ix_of hx2
  have nxt : ∀ (x2' : Int32) (k' : Nat) (w : Int64) (S' : mS), x2'.toInt = k' → k < k' → k' ≤ m → (S'.1 2).toInt = m → S'.1 1 = 0 → tkN S' n k → (S'.2.1 2 n).toInt = k → (S'.2.1 1 n = 1 → ∃ L : Nat, (k : Int) + L ≤ k' ∧ 0 ≤ w.toInt ∧ w.toInt < 37 ^ L) → wp_cutAll_279 lexK k17 x1 x2' w S' := by
    intro x2' k' w S' g1 g2 g3 g4 g5 g6 g7 g8
    unfold wp_cutAll_279
    refine ⟨⟨by omega, by omega⟩, fun S3 e3 z ez => ?_⟩
    rw [ix1] at e3
    have tz := w_add ez (by omega)
    have fp : S3.2.1 2 = S'.2.1 2 := by rw [e3]; rfl
    have fs : S3.2.1 1 = S'.2.1 1 := by rw [e3]; rfl
    have fw : ∀ j, j ≠ n → S3.2.2 3 j = S'.2.2 3 j := fun j hj => by
      rw [e3]
      show vp_updL (S'.2.2 3) n w j = _
      exact uL_ne hj
    have fn : S3.2.2 3 n = w := by
      rw [e3]
      show vp_updL (S'.2.2 3) n w n = _
      exact uL_at
    refine hk (z, x2', S3) ⟨n + 1, k', by show z.toInt = _; omega, g1, by omega, g3, by rw [e3]; exact g4, by rw [e3]; exact g5, ?_⟩ ?_
    · refine tkN_s (S := S') (k := k) g6 (fun j hj => ⟨by rw [fp], by rw [fs], fw j (by omega)⟩) (by show (S3.2.1 2 n).toInt = _; rw [fp]; exact g7) (by omega) ?_
      refine ⟨by show 0 ≤ (S3.2.1 2 n).toInt; rw [fp]; omega, by show (S3.2.1 2 n).toInt < _; rw [fp]; omega, fun hs => ?_⟩
      have hs : S3.2.1 1 n = 1 := hs
      rw [fs] at hs
      obtain ⟨L, a1, a2, a3⟩ := g8 hs
      exact ⟨L, by show (S3.2.1 2 n).toInt + _ ≤ _; rw [fp, g7]; exact a1, by show 0 ≤ (S3.2.2 3 n).toInt; rw [fn]; exact a2, by show (S3.2.2 3 n).toInt < _; rw [fn]; exact a3⟩
    · show ((m : Int) - x2'.toInt).toNat < ((m : Int) - x2.toInt).toNat
      omega
  have nxtS : ∀ (x2' : Int32) (k' : Nat) (w : Int64) (v : Int32) (S' S'' : mS), S'' = sF S' 1 (ix x1) v → x2'.toInt = k' → k < k' → k' ≤ m → (S'.1 2).toInt = m → S'.1 1 = 0 → tkN S' n k → (S'.2.1 2 n).toInt = k → (v = 1 → ∃ L : Nat, (k : Int) + L ≤ k' ∧ 0 ≤ w.toInt ∧ w.toInt < 37 ^ L) → wp_cutAll_279 lexK k17 x1 x2' w S'' := by
    intro x2' k' w v S' S'' e g1 g2 g3 g4 g5 g6 g7 g8
    rw [ix1] at e
    refine nxt x2' k' w S'' g1 g2 g3 (by rw [e]; exact g4) (by rw [e]; exact g5) (tkN_c g6 (fun j hj => ⟨by rw [e]; rfl, ?_, by rw [e]; rfl⟩)) (by rw [e]; exact g7) (fun hs => ?_)
    · rw [e]
      show upd (S'.2.1 1) n v j = _
      exact up_ne (by omega)
    · refine g8 ?_
      rw [e] at hs
      have hs : upd (S'.2.1 1) n v n = 1 := hs
      rw [up_at] at hs
      exact hs
  unfold wp_cutAll_17
  refine ⟨fun c => ?_, fun c => ?_⟩
  · have c := w_le c
    have hkm2 : k = m := by omega
    refine ⟨⟨by omega, by omega⟩, fun S4 e4 => ⟨⟨by omega, by omega⟩, fun S5 e5 S6 e6 S7 e7 => ?_⟩⟩
    rw [ix1] at e4 e5
    have fz : S4.1 2 = S.1 2 := by rw [e4]; rfl
    rw [fz] at e5
    have hcp : ∀ j, j < n → (S7.2.1 2) j = (S.2.1 2) j ∧ (S7.2.1 1) j = (S.2.1 1) j ∧ (S7.2.2 3) j = (S.2.2 3) j := fun j hj => by
      rw [e7, e6, e5, e4]
      refine ⟨?_, ?_, rfl⟩
      · show upd (S.2.1 2) n _ j = _
        exact up_ne (by omega)
      · show upd (S.2.1 1) n _ j = _
        exact up_ne (by omega)
    have hpn : (S7.2.1 2) n = S.1 2 := by
      rw [e7, e6, e5, e4]
      show upd (S.2.1 2) n _ n = _
      exact up_at
    have hsn : (S7.2.1 1) n = 0 := by
      rw [e7, e6, e5, e4]
      show upd (S.2.1 1) n _ n = _
      exact up_at
    exact ⟨n, LX_of (k := k) (tkN_c htk hcp) (by omega) ⟨by omega, by omega⟩ hsn (by rw [hpn]; omega), by rw [e7, e6]; rfl, by rw [e7]; rfl, by rw [e7, e6, e5, e4]; exact htp⟩
  · have c := w_nle c
    have hlt : k < m := by omega
    refine ⟨⟨by omega, by omega⟩, fun z8 e8 => ?_⟩
    rw [ix2] at e8
    have wsp : wp_cutAll_44 lexK k17 x1 x2 S := by
      unfold wp_cutAll_44
      intro z ez
      have tz := w_add ez (by omega)
      refine hk (x1, z, S) ⟨n, k + 1, hx1, by show z.toInt = _; omega, by omega, by omega, hsz, htp, tkN_w htk (by omega)⟩ ?_
      show ((m : Int) - z.toInt).toNat < ((m : Int) - x2.toInt).toNat
      omega
    refine ⟨fun _ => wsp, fun _ => ⟨fun _ => ?_, fun _ => wsp⟩⟩
    refine ⟨⟨by omega, by omega⟩, fun S11 e11 => ?_⟩
    rw [ix1] at e11
    have hsz1 : (S11.1 2).toInt = m := by rw [e11]; exact hsz
    have htp1 : S11.1 1 = 0 := by rw [e11]; exact htp
    have htape : S11.2.1 0 = S.2.1 0 := by rw [e11]; rfl
    have htk1 : tkN S11 n k := tkN_c htk (fun j hj => by
      rw [e11]
      refine ⟨?_, rfl, rfl⟩
      show upd (S.2.1 2) n _ j = _
      exact up_ne (by omega))
    have hpn1 : (S11.2.1 2 n).toInt = k := by
      rw [e11]
      show (upd (S.2.1 2) n _ n).toInt = _
      rw [up_at]; exact hx2
    refine fm_isLetter _ _ _ _ (fun S12 r12 _ p => ?_) (sp_isLetter z8 S11)
    have hS := p.1.symm
    have pL := p.2
    subst hS
    refine ⟨fun h0 => ?_, fun h0 => ?_⟩
    · refine fm_isDigit _ _ _ _ (fun S14 r14 _ p2 => ?_) (sp_isDigit z8 S11)
      have hS := p2.1.symm
      have pD := p2.2
      subst hS
      refine ⟨fun h1 z16 e16 => ?_, fun h1 => ?_⟩
      · refine fm_isSignOf _ _ _ _ (fun S17 r17 _ p3 => ?_) (sp_isSignOf z8 S11)
        have hS := p3.1.symm
        subst hS
        have go : ∀ v : Int32, v ≠ 1 → wp_cutAll_275 lexK k17 x1 x2 z16 x1 v S11 := by
          intro v hv
          unfold wp_cutAll_275
          refine ⟨⟨by omega, by omega⟩, fun S54 e54 z55 e55 => ?_⟩
          have tz := w_add e55 (by omega)
          exact nxtS z55 (k + 1) z16 v S11 S54 e54 (by omega) (by omega) (by omega) hsz1 htp1 htk1 hpn1 (fun h => absurd h hv)
        exact ⟨fun _ => go 4 (by decide), fun _ => go 3 (by decide)⟩
      · have hdig : 48 ≤ z8.toInt ∧ z8.toInt ≤ 57 := by
          rcases pD with ⟨-, h2⟩ | ⟨h2, -⟩
          · exact h2
          · exact absurd h2 h1
        refine it_rule (fun u : Int32 × Int32 × Int32 × Int64 × mS => u.1 = x1 ∧ u.2.2.1 = x2 ∧ u.2.2.2.2 = S11 ∧ ∃ k' : Nat, u.2.1.toInt = k' ∧ k ≤ k' ∧ k' ≤ m) (fun u => ((m : Int) - u.2.1.toInt).toNat) ?_ ⟨rfl, rfl, rfl, k, hx2, Nat.le_refl _, hkm⟩
        rintro ⟨y1, y2, y4, y5, Sx⟩ k171 ⟨g1, g2, g3, k', g4, g5, g6⟩ hk1
        dsimp only at g1 g2 g3 g4
        subst g1 g2 g3
        show wp_cutAll_171 lexK k17 k171 y1 y2 y4 y5 Sx
        have out : k < k' → wp_cutAll_231 lexK k17 y1 y2 y4 y5 Sx := by
          intro hkk
          unfold wp_cutAll_231
          intro z51 e51
          have go : ∀ v : Int32, v ≠ 1 → wp_cutAll_250 lexK k17 y1 y2 y5 y1 v Sx := by
            intro v hv
            unfold wp_cutAll_250
            exact ⟨⟨by omega, by omega⟩, fun S53 e53 => nxtS y2 k' y5 v Sx S53 e53 g4 hkk g6 hsz1 htp1 htk1 hpn1 (fun h => absurd h hv)⟩
          exact ⟨fun _ => go 2 (by decide), fun _ => go 4 (by decide)⟩
        have on : ∀ v : Int64, k' < m → wp_cutAll_223 lexK k17 k171 y1 y2 y4 v Sx := by
          intro v hlt2
          unfold wp_cutAll_223
          intro z50 e50
          have tz := w_add e50 (by omega)
          refine hk1 (y1, z50, y4, v, Sx) ⟨rfl, rfl, rfl, k' + 1, by show z50.toInt = _; omega, by omega, by omega⟩ ?_
          show ((m : Int) - z50.toInt).toNat < ((m : Int) - y2.toInt).toNat
          omega
        unfold wp_cutAll_171
        refine ⟨fun c1 => ?_, fun c1 => ?_⟩
        · have c1 := w_le c1
          exact out (by omega)
        · have c1 := w_nle c1
          have hlt2 : k' < m := by omega
          refine ⟨⟨by omega, by omega⟩, fun z40 e40 => ?_⟩
          refine fm_isDigit _ _ _ _ (fun S41 r41 _ p4 => ?_) (sp_isDigit z40 Sx)
          have hS := p4.1.symm
          have pE := p4.2
          subst hS
          refine ⟨fun h2 => ?_, fun h2 z43 e43 => ⟨fun _ => on _ hlt2, fun _ z45 _ => ⟨⟨by omega, by omega⟩, fun z46 _ z47 _ z48 _ z49 _ => on _ hlt2⟩⟩⟩
          rcases pE with ⟨h3, -⟩ | ⟨-, h3⟩
          · rw [h3] at h2; exact absurd h2 (by decide)
          · refine out ?_
            rcases Nat.lt_or_ge k k' with h4 | h4
            · exact h4
            · exfalso
              have e9 : k' = k := by omega
              rw [ix_of g4, e9, htape] at e40
              rw [e40, ← e8] at h3
              omega
    · have hlet : 97 ≤ z8.toInt ∧ z8.toInt ≤ 122 := by
        rcases pL with ⟨-, h2⟩ | ⟨h2, -⟩
        · exact h2
        · exact absurd h2 h0
      refine it_rule (fun u : Int32 × Int32 × Int32 × Int64 × mS => u.1 = x1 ∧ u.2.2.1 = x2 ∧ u.2.2.2.2 = S11 ∧ ∃ k' : Nat, u.2.1.toInt = k' ∧ k ≤ k' ∧ k' ≤ m ∧ (k' ≤ k + 12 → 0 ≤ u.2.2.2.1.toInt ∧ u.2.2.2.1.toInt < 37 ^ (k' - k))) (fun u => ((m : Int) - u.2.1.toInt).toNat) ?_ ⟨rfl, rfl, rfl, k, hx2, Nat.le_refl _, hkm, fun _ => by rw [Nat.sub_self]; exact ⟨(show 0 ≤ (0 : Int64).toInt by decide), (show (0 : Int64).toInt < 37 ^ 0 by decide)⟩⟩
      rintro ⟨y1, y2, y4, y5, Sx⟩ k70 ⟨g1, g2, g3, k', g4, g5, g6, g7⟩ hk1
      dsimp only at g1 g2 g3 g4 g7
      subst g1 g2 g3
      show wp_cutAll_70 lexK k17 k70 y1 y2 y4 y5 Sx
      have out : k < k' → wp_cutAll_141 lexK k17 y1 y2 y4 y5 Sx := by
        intro hkk
        unfold wp_cutAll_141
        intro z34 e34
        have tz := w_sub e34 (by omega)
        have q12 : (12 : Int32).toInt = 12 := rfl
        have go : ∀ v : Int32, (v = 1 → k' ≤ k + 12) → wp_cutAll_160 lexK k17 y1 y2 y5 y1 v Sx := by
          intro v hv
          unfold wp_cutAll_160
          refine ⟨⟨by omega, by omega⟩, fun S36 e36 => nxtS y2 k' y5 v Sx S36 e36 g4 hkk g6 hsz1 htp1 htk1 hpn1 (fun h => ?_)⟩
          have h1 := g7 (hv h)
          exact ⟨k' - k, by omega, h1.1, h1.2⟩
        refine ⟨fun c1 => go 1 (fun _ => ?_), fun c1 => go 4 (fun h => absurd h (by decide))⟩
        have c1 := w_le c1
        omega
      have on : ∀ v : Int64, k' < m → (k' + 1 ≤ k + 12 → 0 ≤ v.toInt ∧ v.toInt < 37 ^ (k' + 1 - k)) → wp_cutAll_133 lexK k17 k70 y1 y2 y4 v Sx := by
        intro v hlt2 hv
        unfold wp_cutAll_133
        intro z33 e33
        have tz := w_add e33 (by omega)
        refine hk1 (y1, z33, y4, v, Sx) ⟨rfl, rfl, rfl, k' + 1, by show z33.toInt = _; omega, by omega, by omega, hv⟩ ?_
        show ((m : Int) - z33.toInt).toNat < ((m : Int) - y2.toInt).toNat
        omega
      have mid : ∀ z : Int32, z = Sx.2.1 0 (ix y2) → k' < m → ((97 ≤ z.toInt ∧ z.toInt ≤ 122) ∨ (48 ≤ z.toInt ∧ z.toInt ≤ 57)) → wp_cutAll_102 lexK k17 k70 y1 y2 y4 y5 Sx := by
        intro z hz hlt2 hc
        unfold wp_cutAll_102
        intro z26 e26
        have tz := w_sub e26 (by omega)
        have q12 : (12 : Int32).toInt = 12 := rfl
        refine ⟨fun c1 => on _ hlt2 (fun hle => ?_), fun c1 z28 e28 => ⟨⟨by omega, by omega⟩, fun z29 e29 => ?_⟩⟩
        · have c1 := w_le c1
          omega
        · have c1 := w_nle c1
          have ez : z29 = z := e29.trans hz.symm
          refine fm_rank _ _ _ _ (fun S30 r30 _ p5 => ?_) (sp_rank z29 Sx (by rw [ez]; exact hc))
          have hS := p5.1.symm
          have pR := p5.2
          subst hS
          intro z31 e31 z32 e32
          refine on _ hlt2 (fun hle => ?_)
          obtain ⟨v1, v2⟩ := g7 (by omega)
          have b1 : (37 : Int) ^ (k' - k) ≤ 37 ^ 11 := pow37 (by omega)
          have b2 : (37 : Int) ^ 11 = 177917621779460413 := by decide
          have b3 : (37 : Int) ^ (k' + 1 - k) = 37 ^ (k' - k) * 37 := by rw [show k' + 1 - k = (k' - k) + 1 by omega]; exact Int.pow_succ _ _
          have q37 : (37 : Int64).toInt = 37 := rfl
          have t28 := l_mul e28 (by rw [q37]; omega)
          rw [q37] at t28
          have t31 : z31.toInt = r30.toInt := by rw [e31]; exact Int32.toInt_toInt64 r30
          have t32 := l_add e32 (by omega)
          exact ⟨by omega, by omega⟩
      unfold wp_cutAll_70
      refine ⟨fun c1 => ?_, fun c1 => ?_⟩
      · have c1 := w_le c1
        exact out (by omega)
      · have c1 := w_nle c1
        have hlt2 : k' < m := by omega
        refine ⟨⟨by omega, by omega⟩, fun z20 e20 => ?_⟩
        refine fm_isLetter _ _ _ _ (fun S21 r21 _ p4 => ?_) (sp_isLetter z20 Sx)
        have hS := p4.1.symm
        have pE := p4.2
        subst hS
        refine ⟨fun h2 => ?_, fun h2 => ⟨⟨by omega, by omega⟩, fun z23 e23 => ?_⟩⟩
        · rcases pE with ⟨-, h3⟩ | ⟨h3, -⟩
          · exact mid z20 e20 hlt2 (Or.inl h3)
          · exact absurd h3 h2
        · refine fm_isDigit _ _ _ _ (fun S24 r24 _ p6 => ?_) (sp_isDigit z23 Sx)
          have hS := p6.1.symm
          have pG := p6.2
          subst hS
          refine ⟨fun h3 => ?_, fun h3 => ?_⟩
          · refine out ?_
            rcases Nat.lt_or_ge k k' with h4 | h4
            · exact h4
            · exfalso
              have e9 : k' = k := by omega
              rw [ix_of g4, e9, htape] at e20
              rw [e20, ← e8] at pE
              rcases pE with ⟨h5, -⟩ | ⟨-, h5⟩
              · rw [h5] at h2; exact absurd h2 (by decide)
              · omega
          · rcases pG with ⟨-, h4⟩ | ⟨h4, -⟩
            · exact mid z23 e23 hlt2 (Or.inr h4)
            · exact absurd h4 h3
