
/-- the reserved words that cost much: their least values -/
def WD (ws : Nat → Int64) : Prop := 2565726409 ≤ (ws 0).toInt ∧ 1874161 ≤ (ws 5).toInt ∧ 1369 ≤ (ws 10).toInt ∧ 37 ≤ (ws 11).toInt ∧ 69343957 ≤ (ws 12).toInt
theorem pw_ge {L a : Nat} {v : Int} (h : v < 37 ^ L) (h2 : (37 : Int) ^ a ≤ v) : a < L := by
  have h3 : (37 : Int) ^ a < 37 ^ L := Int.lt_of_le_of_lt h2 h
  have h4 : (37 : Nat) ^ a < 37 ^ L := by exact_mod_cast h3
  exact (Nat.pow_lt_pow_iff_right (by decide)).mp h4
theorem LX_LG {n : Nat} {S : mS} (h : LX n S) (hw : WD (S.2.2 4)) : LG n (S.2.1 1) (S.2.1 2) ∧ LG2 n (S.2.1 1) (S.2.1 2) (S.2.2 3) (S.2.2 4) := by
  obtain ⟨h1, h2, h3, h4⟩ := h
  have key : ∀ (k j a : Nat), k < n → (S.2.1 1) k = 1 → (S.2.2 3) k = S.2.2 4 j → (37 : Int) ^ a ≤ (S.2.2 4 j).toInt → ((S.2.1 2) k).toInt + (a + 1) ≤ ((S.2.1 2) (k + 1)).toInt := by
    intro k j a hk hs he ha
    obtain ⟨L, q1, q2, q3⟩ := (h4 k hk).2.2 hs
    rw [he] at q3
    have q4 := pw_ge q3 ha
    omega
  refine ⟨⟨h1, h2, h3⟩, fun k hk => by have := (h4 k hk).2.1; omega, fun k hk hs he => ?_, fun k hk hs he => ?_, fun k hk hs he => ?_, fun k hk hs he => ?_, fun k hk hs he => ?_⟩
  · exact key k 5 4 hk hs he hw.2.1
  · exact key k 10 2 hk hs he hw.2.2.1
  · exact key k 11 1 hk hs he hw.2.2.2.1
  · exact key k 12 5 hk hs he hw.2.2.2.2
  · exact key k 0 6 hk hs he hw.1
theorem sg_cutAll {m : Nat} {S : mS} (h0 : (S.1 1).toInt = m) (hm : m ≤ 4000) : wp_cutAll S lexK := sp_cutAll S m h0 hm
