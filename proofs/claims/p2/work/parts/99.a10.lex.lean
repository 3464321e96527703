
theorem sp_isLetter (c : Int32) (S : mS) : wp_isLetter c S (fun S1 r => S1 = S ∧ ((r = 1 ∧ 97 ≤ c.toInt ∧ c.toInt ≤ 122) ∨ (r = 0 ∧ (c.toInt < 97 ∨ 122 < c.toInt)))) := by
  unfold wp_isLetter
  have q1 : (97 : Int32).toInt = 97 := rfl
  have q2 : (122 : Int32).toInt = 122 := rfl
  refine ⟨fun h => ⟨rfl, Or.inr ⟨rfl, Or.inl ?_⟩⟩, fun h => ⟨fun h2 => ⟨rfl, Or.inr ⟨rfl, Or.inr ?_⟩⟩, fun h2 => ⟨rfl, Or.inl ⟨rfl, ?_, ?_⟩⟩⟩⟩
  · have := w_lt h; omega
  · have := w_lt h2; omega
  · have := w_nlt h; omega
  · have := w_nlt h2; omega
theorem sp_isDigit (c : Int32) (S : mS) : wp_isDigit c S (fun S1 r => S1 = S ∧ ((r = 1 ∧ 48 ≤ c.toInt ∧ c.toInt ≤ 57) ∨ (r = 0 ∧ (c.toInt < 48 ∨ 57 < c.toInt)))) := by
  unfold wp_isDigit
  have q1 : (48 : Int32).toInt = 48 := rfl
  have q2 : (57 : Int32).toInt = 57 := rfl
  refine ⟨fun h => ⟨rfl, Or.inr ⟨rfl, Or.inl ?_⟩⟩, fun h => ⟨fun h2 => ⟨rfl, Or.inr ⟨rfl, Or.inr ?_⟩⟩, fun h2 => ⟨rfl, Or.inl ⟨rfl, ?_, ?_⟩⟩⟩⟩
  · have := w_lt h; omega
  · have := w_lt h2; omega
  · have := w_nlt h; omega
  · have := w_nlt h2; omega
theorem sp_rank (c : Int32) (S : mS) (h : (97 ≤ c.toInt ∧ c.toInt ≤ 122) ∨ (48 ≤ c.toInt ∧ c.toInt ≤ 57)) : wp_rank c S (fun S1 r => S1 = S ∧ 1 ≤ r.toInt ∧ r.toInt ≤ 36) := by
  unfold wp_rank
  have q1 : (96 : Int32).toInt = 96 := rfl
  have q2 : (21 : Int32).toInt = 21 := rfl
  refine fm_isLetter _ _ _ _ (fun S1 r _ p => ?_) (sp_isLetter c S)
  obtain ⟨rfl, p⟩ := p
  refine ⟨fun h0 z hz => ?_, fun h0 z hz => ?_⟩
  · rcases p with ⟨h1, -⟩ | ⟨-, h1⟩
    · rw [h1] at h0; exact absurd h0 (by decide)
    · have := w_sub hz (by omega)
      exact ⟨rfl, by omega, by omega⟩
  · rcases p with ⟨-, h1⟩ | ⟨h1, -⟩
    · have := w_sub hz (by omega)
      exact ⟨rfl, by omega, by omega⟩
    · exact absurd h1 h0
theorem sp_isSignOf (c : Int32) (S : mS) : wp_isSignOf c S (fun S1 r => S1 = S ∧ (r = 0 ∨ r = 1)) := by
  unfold wp_isSignOf
  have k1 : S = S ∧ ((1 : Int32) = 0 ∨ (1 : Int32) = 1) := ⟨rfl, Or.inr rfl⟩
  have k0 : S = S ∧ ((0 : Int32) = 0 ∨ (0 : Int32) = 1) := ⟨rfl, Or.inl rfl⟩
  exact ⟨fun _ => k1, fun _ => ⟨fun _ => k1, fun _ => ⟨fun _ => k1, fun _ => ⟨fun _ => k1, fun _ => ⟨fun _ => k1, fun _ => ⟨fun _ => k1, fun _ => ⟨fun _ => k1, fun _ => ⟨fun _ => k1, fun _ => ⟨fun _ => k1, fun _ => ⟨fun _ => k1, fun _ => ⟨fun _ => k1, fun _ => ⟨fun _ => k1, fun _ => ⟨fun _ => k0, fun _ => k1⟩⟩⟩⟩⟩⟩⟩⟩⟩⟩⟩⟩⟩
/-- the token j ends by E -/
def tkOk (S : mS) (j : Nat) (E : Int) : Prop := 0 ≤ ((S.2.1 2) j).toInt ∧ ((S.2.1 2) j).toInt < E ∧ ((S.2.1 1) j = 1 → ∃ L : Nat, ((S.2.1 2) j).toInt + L ≤ E ∧ 0 ≤ ((S.2.2 3) j).toInt ∧ ((S.2.2 3) j).toInt < 37 ^ L)
/-- n tokens, the last ends by k -/
def tkN (S : mS) (n : Nat) (k : Int) : Prop := ∀ j, j < n → tkOk S j (if j + 1 < n then ((S.2.1 2) (j + 1)).toInt else k) ∧ ((S.2.1 2) j).toInt ≤ k
def LX (n : Nat) (S : mS) : Prop := n ≤ 4000 ∧ (S.2.1 1) n = 0 ∧ (∀ k, k ≤ n → 0 ≤ ((S.2.1 2) k).toInt ∧ ((S.2.1 2) k).toInt ≤ 4000) ∧ (∀ k, k < n → tkOk S k ((S.2.1 2) (k + 1)).toInt)
theorem tkOk_w {S : mS} {j : Nat} {E E' : Int} (h : tkOk S j E) (hE : E ≤ E') : tkOk S j E' := ⟨h.1, by have := h.2.1; omega, fun hs => by
  obtain ⟨L, h1, h2⟩ := h.2.2 hs
  exact ⟨L, by omega, h2⟩⟩
theorem tkN_w {S : mS} {n : Nat} {k k' : Int} (h : tkN S n k) (hk : k ≤ k') : tkN S n k' := fun j hj => by
  obtain ⟨h1, h2⟩ := h j hj
  refine ⟨?_, by omega⟩
  by_cases hl : j + 1 < n
  · rw [if_pos hl] at h1 ⊢; exact h1
  · rw [if_neg hl] at h1 ⊢; exact tkOk_w h1 hk
theorem tkOk_c {S S1 : mS} {j : Nat} {E : Int} (h : tkOk S j E) (h1 : (S1.2.1 2) j = (S.2.1 2) j) (h2 : (S1.2.1 1) j = (S.2.1 1) j) (h3 : (S1.2.2 3) j = (S.2.2 3) j) : tkOk S1 j E := by
  unfold tkOk
  rw [h1, h2, h3]
  exact h
/-- a further token -/
theorem tkN_s {S S1 : mS} {n : Nat} {k k' : Int} (h : tkN S n k) (hp : ∀ j, j < n → (S1.2.1 2) j = (S.2.1 2) j ∧ (S1.2.1 1) j = (S.2.1 1) j ∧ (S1.2.2 3) j = (S.2.2 3) j) (hn : ((S1.2.1 2) n).toInt = k) (hk : k ≤ k') (hl : tkOk S1 n k') : tkN S1 (n + 1) k' := fun j hj => by
  by_cases hjn : j = n
  · subst hjn
    rw [if_neg (by omega)]
    exact ⟨hl, by omega⟩
  · have hlt : j < n := by omega
    obtain ⟨h1, h2⟩ := h j hlt
    obtain ⟨p1, p2, p3⟩ := hp j hlt
    rw [if_pos (by omega)]
    refine ⟨?_, by rw [p1]; omega⟩
    by_cases hl2 : j + 1 < n
    · rw [if_pos hl2] at h1
      rw [(hp (j + 1) hl2).1]
      exact tkOk_c h1 p1 p2 p3
    · rw [if_neg hl2] at h1
      have e : j + 1 = n := by omega
      rw [e, hn]
      exact tkOk_c h1 p1 p2 p3
theorem LX_of {S : mS} {n : Nat} {k : Int} (h : tkN S n k) (hn : n ≤ 4000) (hk : 0 ≤ k ∧ k ≤ 4000) (h0 : (S.2.1 1) n = 0) (hp : ((S.2.1 2) n).toInt = k) : LX n S := by
  refine ⟨hn, h0, fun j hj => ?_, fun j hj => ?_⟩
  · by_cases hjn : j = n
    · subst hjn; omega
    · have := h j (by omega)
      have a := this.1.1
      have b := this.2
      omega
  · have h1 := (h j hj).1
    by_cases hl : j + 1 < n
    · rw [if_pos hl] at h1; exact h1
    · rw [if_neg hl] at h1
      rw [show j + 1 = n by omega, hp]
      exact h1
