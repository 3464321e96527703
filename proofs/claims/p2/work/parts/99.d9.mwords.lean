
def bs_34 : List Int32 := [114, 111, 117, 116, 105, 110, 101, 32, 119, 97, 105, 116, 32, 112, 117, 116, 32, 105, 102, 32, 101, 108, 115, 101, 32, 119, 104, 105, 108, 101, 32, 98, 114, 101, 97, 107, 32, 99, 111, 110, 116, 105, 110, 117, 101, 32, 114, 101, 116, 117, 114, 110, 32, 102, 97, 105, 108, 32, 116, 114, 121, 32, 111, 110, 32, 102, 105, 110, 105, 115, 104, 32, 108, 101, 116, 116, 101, 114, 32, 116, 105, 99, 107, 32, 121, 105, 101, 108, 100, 32, 99, 104, 105, 108, 100, 32, 98, 111, 116, 104, 32, 102, 105, 114, 115, 116, 32, 119, 105, 116, 104, 105, 110, 32, 99, 108, 111, 99, 107, 32]
theorem th_sp : ∀ k, k ≤ 120 → sx_sp bs_34 k ≤ 21 := by decide +kernel
def rkv (z : Int32) : Int32 := if z < 97 then z - 21 else if 122 < z then z - 21 else z - 96
theorem sp_rankv (z : Int32) (S : mS) (K : mS → Int32 → Prop) (h : K S (rkv z)) : wp_rank z S K := by
  unfold wp_rank wp_isLetter
  unfold rkv at h
  refine ⟨fun c => ⟨fun _ z3 e => ?_, fun n => absurd rfl n⟩, fun c => ⟨fun c1 => ⟨fun _ z3 e => ?_, fun n => absurd rfl n⟩, fun c1 => ⟨fun q => absurd q (by decide), fun _ z4 e => ?_⟩⟩⟩
  · rw [if_pos c] at h; rw [e]; exact h
  · rw [if_neg c, if_pos c1] at h; rw [e]; exact h
  · rw [if_neg c, if_neg c1] at h; rw [e]; exact h
def mwW (bs : List Int32) : Nat → Int64
  | 0 => 0
  | j + 1 => if sx_c bs j = 32 then 0 else 37 * mwW bs j + Int32.toInt64 (rkv (sx_c bs j))
def mwV (bs : List Int32) : Nat → Nat → Int64
  | 0 => fun _ => 0
  | j + 1 => if sx_c bs j = 32 then vp_updL (mwV bs j) (sx_sp bs j) (mwW bs j) else mwV bs j
def mwS (bs : List Int32) (j : Nat) : mS := (mS0.1, mS0.2.1, upG mS0.2.2 4 (mwV bs j))
theorem upG_2 {G : Nat → Nat → Int64} {k : Nat} {f g : Nat → Int64} : upG (upG G k f) k g = upG G k g := by
  funext i
  unfold upG
  rcases Decidable.em (i = k) with h | h
  · rw [if_pos h, if_pos h]
  · rw [if_neg h, if_neg h, if_neg h]
theorem upG_at {G : Nat → Nat → Int64} {k : Nat} {f : Nat → Int64} : upG G k f k = f := by unfold upG; rw [if_pos rfl]
theorem sp_minit (nn : Nat) (bs : List Int32) (hn : nn < 2 ^ 31) (hsp : ∀ k, k ≤ nn → sx_sp bs k ≤ 21) (K : mS → Prop) (h : K (mwS bs nn)) : wp_minit nn bs mS0 K := by
  unfold wp_minit
  refine it_rule (fun u : Int32 × Int64 × Int32 × mS => ∃ j : Nat, j ≤ nn ∧ u = (nI (sx_sp bs j), mwW bs j, nI j, mwS bs j)) (fun u => nn - u.2.2.1.toInt.toNat) ?_ ⟨0, Nat.zero_le _, ?_⟩
  · rintro u k ⟨j, hj, rfl⟩ hk
    show wp_minit_812 nn bs K k (nI (sx_sp bs j)) (mwW bs j) (nI j) (mwS bs j)
    unfold wp_minit_812
    rintro z1 rfl
    refine ⟨fun c => ?_, fun c => ?_⟩
    · have q := (nI_leI hn (by omega)).mp c
      have e : j = nn := by omega
      rw [e]
      exact h
    · have hlt : j < nn := by
        rcases Nat.lt_or_ge j nn with q | q
        · exact q
        · exact absurd ((nI_leI hn (by omega)).mpr q) c
      have ej : (nI j).toInt = (j : Int) := nI_toInt (by omega)
      have ej1 : (nI (j + 1)).toInt = ((j + 1 : Nat) : Int) := nI_toInt (by omega)
      have eix : ix (nI j) = j := ix_of ej
      have e1 : nI j + 1 = nI (j + 1) := nI_1 j
      have hm : nn - (nI (j + 1)).toInt.toNat < nn - (nI j).toInt.toNat := by rw [ej, ej1]; omega
      refine ⟨⟨by omega, by omega⟩, ?_⟩
      rw [eix]
      rintro z3 rfl
      refine ⟨fun c3 => ?_, fun c3 => ?_⟩
      · rintro z5 rfl
        refine sp_rankv _ _ _ ?_
        rintro z7 rfl z8 rfl z9 rfl
        rw [e1]
        have w1 : mwW bs (j + 1) = 37 * mwW bs j + Int32.toInt64 (rkv (sx_c bs j)) := if_neg c3
        have v1 : mwV bs (j + 1) = mwV bs j := if_neg c3
        refine hk _ ⟨j + 1, hlt, ?_⟩ hm
        rw [w1, sx_sp0 c3]
        unfold mwS
        rw [v1]
      · have h21 := hsp j hj
        have es : (nI (sx_sp bs j)).toInt = ((sx_sp bs j : Nat) : Int) := nI_toInt (by omega)
        refine ⟨⟨by omega, by omega⟩, ?_⟩
        rintro S10 rfl z11 rfl z12 rfl
        rw [e1]
        have w1 : mwW bs (j + 1) = 0 := if_pos c3
        have v1 : mwV bs (j + 1) = vp_updL (mwV bs j) (sx_sp bs j) (mwW bs j) := if_pos c3
        refine hk _ ⟨j + 1, hlt, ?_⟩ hm
        rw [w1, sx_sp1 c3, nI_1, ix_of es]
        have e4 : sG (mwS bs j) 4 (sx_sp bs j) (mwW bs j) = mwS bs (j + 1) := by
          unfold mwS sG
          rw [v1]
          show (_, _, upG (upG mS0.2.2 4 (mwV bs j)) 4 (vp_updL (upG mS0.2.2 4 (mwV bs j) 4) (sx_sp bs j) (mwW bs j))) = _
          rw [upG_2, upG_at]
        rw [e4]
  · have e0 : mwS bs 0 = mS0 := by
      have e : upG mS0.2.2 4 (mwV bs 0) = mS0.2.2 := by
        funext i
        unfold upG
        rcases Decidable.em (i = 4) with h | h
        · rw [if_pos h]; rfl
        · rw [if_neg h]
      unfold mwS
      rw [e]
    rw [e0, nI_0]
    show _ = (nI 0, _, _, _)
    rw [nI_0]
    rfl
/-- the reference as it begins -/
def mS1 : mS := mwS bs_34 120
theorem mS1_words : 2565726409 ≤ (mS1.2.2 4 0).toInt ∧ 1874161 ≤ (mS1.2.2 4 5).toInt ∧ 1369 ≤ (mS1.2.2 4 10).toInt ∧ 37 ≤ (mS1.2.2 4 11).toInt ∧ 69343957 ≤ (mS1.2.2 4 12).toInt := by decide +kernel
