
theorem sZ_id {S : mS} {k : Nat} : sZ S k (S.1 k) = S := by
  obtain ⟨z, f, g⟩ := S
  unfold sZ
  congr 1
  funext j
  show upd z k (z k) j = z j
  unfold upd
  split
  · rename_i h; rw [h]
  · rfl
theorem lgc0 {x y : Int64} (h : lg_cmp x y = 0) : x = y := by
  unfold lg_cmp at h
  split at h
  · exact absurd h (by decide)
  · split at h
    · assumption
    · exact absurd h (by decide)
theorem lgc_lt {x y : Int64} (h : ¬ lg_cmp x y < 0) : y.toInt ≤ x.toInt := by
  have h1 : 0 ≤ lg_cmp x y := Int32.not_lt.mp h
  exact Int64.le_iff_toInt_le.mp ((lg_cmp_ge x y).mp h1)
theorem lgc_le {x y : Int64} (h : lg_cmp x y ≤ 0) : x.toInt ≤ y.toInt := by
  unfold lg_cmp at h
  split at h
  · exact absurd h (by decide)
  · rename_i hn
    rcases Int.lt_or_le y.toInt x.toInt with h1 | h1
    · exact absurd (Int64.lt_iff_toInt_lt.mpr h1) hn
    · exact h1
def PF (n : Nat) (S : mS) : Prop := LX n S ∧ 0 ≤ (S.1 4).toInt ∧ ((S.1 4) = 0 → 0 ≤ (S.1 3).toInt ∧ (S.1 3).toInt ≤ n)
theorem PF_at {n : Nat} {S : mS} (h : PF n S) (hf : (S.1 4) = 0) : inR (S.1 3) 4002 ∧ ix (S.1 3) ≤ n := by
  have h1 := h.2.2 hf
  have h2 := h.1.1
  have h3 : inR (S.1 3) 4002 := ⟨h1.1, by omega⟩
  have h4 := inR_ix h3
  exact ⟨h3, by omega⟩
theorem PF_lt {n : Nat} {S : mS} (h : PF n S) (hf : (S.1 4) = 0) (hs : (S.2.1 1) (ix (S.1 3)) ≠ 0) : (S.1 3).toInt < n := by
  obtain ⟨h1, h2⟩ := PF_at h hf
  have h4 := inR_ix h1
  have h5 : ix (S.1 3) ≠ n := fun e => hs (by rw [e]; exact h.1.2.1)
  omega
theorem PF_f {n : Nat} {S : mS} {v : Int32} (h : PF n S) (hv : 0 < v.toInt) : PF n (sZ S 4 v) := ⟨h.1, by show 0 ≤ v.toInt; omega, fun e => by
  have e : v = 0 := e
  rw [e] at hv
  exact absurd hv (by decide)⟩
theorem PF_a {n : Nat} {S : mS} {x : Int32} (h : PF n S) (hx : (S.1 4) = 0 → 0 ≤ x.toInt ∧ x.toInt ≤ n) : PF n (sZ S 3 x) := ⟨h.1, h.2.1, hx⟩
/-- the next token is of the sort s and gets taken -/
def Took (n : Nat) (s : Int32) (S S1 : mS) : Prop := ∃ x : Int32, S1 = sZ S 3 x ∧ x.toInt = (S.1 3).toInt + 1 ∧ (S.1 4) = 0 ∧ 0 ≤ (S.1 3).toInt ∧ (S.1 3).toInt < n ∧ (S.2.1 1) (ix (S.1 3)) = s
def Erred (S S1 : mS) : Prop := ∃ v : Int32, S1 = sZ S 4 v ∧ 0 < v.toInt
theorem Took_PF {n : Nat} {s : Int32} {S S1 : mS} (h : PF n S) (t : Took n s S S1) : PF n S1 := by
  obtain ⟨x, rfl, h1, h2, h3, h4, -⟩ := t
  exact PF_a h (fun _ => ⟨by omega, by omega⟩)
theorem Erred_PF {n : Nat} {S S1 : mS} (h : PF n S) (t : Erred S S1) : PF n S1 := by
  obtain ⟨v, rfl, h1⟩ := t
  exact PF_f h h1
theorem sp_isSign (c : Int32) {S : mS} {n : Nat} (h : PF n S) : wp_isSign c S (fun S1 r => S1 = S ∧ (r = 0 ∨ (r = 1 ∧ (S.1 4) = 0 ∧ (S.1 3).toInt < n ∧ (S.2.1 1) (ix (S.1 3)) = 3))) := by
  unfold wp_isSign
  refine ⟨fun _ => ⟨rfl, Or.inl rfl⟩, fun hf => ⟨(PF_at h hf).1, fun z2 e2 => ⟨fun _ => ⟨rfl, Or.inl rfl⟩, fun h3 => ⟨(PF_at h hf).1, fun z4 e4 z5 e5 z6 e6 => ⟨fun _ => ⟨rfl, Or.inl rfl⟩, fun _ => ⟨rfl, Or.inr ⟨rfl, hf, PF_lt h hf ?_, e2 ▸ h3⟩⟩⟩⟩⟩⟩⟩
  show S.2.1 1 (ix (S.1 3)) ≠ 0
  rw [← e2, h3]
  decide
theorem sp_isWord (w : Int32) (hw : inR w 22) {S : mS} {n : Nat} (h : PF n S) : wp_isWord w S (fun S1 r => S1 = S ∧ (r = 0 ∨ (r = 1 ∧ (S.1 4) = 0 ∧ (S.1 3).toInt < n ∧ (S.2.1 1) (ix (S.1 3)) = 1 ∧ (S.2.2 3) (ix (S.1 3)) = (S.2.2 4) (ix w)))) := by
  unfold wp_isWord
  refine ⟨fun _ => ⟨rfl, Or.inl rfl⟩, fun hf => ⟨(PF_at h hf).1, fun z2 e2 => ⟨fun _ => ⟨rfl, Or.inl rfl⟩, fun h3 => ⟨(PF_at h hf).1, fun z4 e4 => ⟨hw, fun z5 e5 z6 e6 => ⟨fun _ => ⟨rfl, Or.inl rfl⟩, fun h6 => ⟨rfl, Or.inr ⟨rfl, hf, PF_lt h hf ?_, e2 ▸ h3, ?_⟩⟩⟩⟩⟩⟩⟩⟩
  · show S.2.1 1 (ix (S.1 3)) ≠ 0
    rw [← e2, h3]
    decide
  · rw [e6] at h6
    have := lgc0 h6
    rw [← e4, ← e5]
    exact this
theorem sp_wrong (w : Int32) (hw : 1 ≤ w.toInt ∧ w.toInt ≤ 6) {S : mS} {n : Nat} (h : PF n S) : wp_wrong w S (fun S1 => Erred S S1) := by
  unfold wp_wrong
  refine ⟨fun hf => ⟨(S.1 4), sZ_id.symm, ?_⟩, fun hf => ⟨(PF_at h hf).1, fun z2 e2 z3 e3 z4 e4 S5 e5 => ⟨z4, e5, ?_⟩⟩⟩
  · have h1 := h.2.1
    have h2 := w_ne hf
    have h3 : (0 : Int32).toInt = 0 := rfl
    omega
  · have h1 := h.1.2.2.1 (ix (S.1 3)) (PF_at h hf).2
    have e2' : z2 = S.2.1 2 (ix (S.1 3)) := e2
    rw [← e2'] at h1
    have q : (16 : Int32).toInt = 16 := rfl
    have t3 := w_mul e3 (by rw [q]; omega)
    rw [q] at t3
    have t4 := w_add e4 (by omega)
    omega
theorem sp_takeSign (c : Int32) {S : mS} {n : Nat} (h : PF n S) : wp_takeSign c S (fun S1 => Erred S S1 ∨ Took n 3 S S1) := by
  unfold wp_takeSign
  refine fm_isSign _ _ _ _ (fun S1 r _ p => ?_) (sp_isSign c h)
  have hS := p.1.symm
  have pr := p.2
  subst hS
  refine ⟨fun _ => fm_wrong _ _ _ _ (fun S3 _ p3 => Or.inl p3) (sp_wrong 1 ⟨by decide, by decide⟩ h), fun h0 z4 e4 S5 e5 => Or.inr ?_⟩
  rcases pr with h1 | ⟨-, hf, hl, hs⟩
  · exact absurd h1 h0
  · have h3 := h.2.2 hf
    have h4 := h.1.1
    have q : (1 : Int32).toInt = 1 := rfl
    have t4 := w_add e4 (by omega)
    exact ⟨z4, e5, by omega, hf, h3.1, hl, hs⟩
theorem sp_hasSign (c : Int32) {S : mS} {n : Nat} (h : PF n S) : wp_hasSign c S (fun S1 r => (r = 0 ∧ S1 = S) ∨ (r = 1 ∧ Took n 3 S S1)) := by
  unfold wp_hasSign
  refine fm_isSign _ _ _ _ (fun S1 r _ p => ?_) (sp_isSign c h)
  have hS := p.1.symm
  have pr := p.2
  subst hS
  refine ⟨fun h0 z3 e3 S4 e4 => ⟨Or.inl h0, Or.inl ⟨h0, ?_⟩⟩, fun h0 z5 e5 S6 e6 => ?_⟩
  · rw [Int32.add_zero] at e3
    rw [e4, e3]
    exact sZ_id
  · rcases pr with h1 | ⟨h1, hf, hl, hs⟩
    · exact absurd h1 h0
    · have h3 := h.2.2 hf
      have h4 := h.1.1
      have q : (1 : Int32).toInt = 1 := rfl
      have t4 := w_add e5 (by omega)
      exact ⟨Or.inr h1, Or.inr ⟨h1, z5, e6, by omega, hf, h3.1, hl, hs⟩⟩
theorem sp_hasWord (w : Int32) (hw : inR w 22) {S : mS} {n : Nat} (h : PF n S) : wp_hasWord w S (fun S1 r => (r = 0 ∧ S1 = S) ∨ (r = 1 ∧ Took n 1 S S1 ∧ (S.2.2 3) (ix (S.1 3)) = (S.2.2 4) (ix w))) := by
  unfold wp_hasWord
  refine fm_isWord _ _ _ _ (fun S1 r _ p => ?_) (sp_isWord w hw h)
  have hS := p.1.symm
  have pr := p.2
  subst hS
  refine ⟨fun h0 z3 e3 S4 e4 => ⟨Or.inl h0, Or.inl ⟨h0, ?_⟩⟩, fun h0 z5 e5 S6 e6 => ?_⟩
  · rw [Int32.add_zero] at e3
    rw [e4, e3]
    exact sZ_id
  · rcases pr with h1 | ⟨h1, hf, hl, hs, hv⟩
    · exact absurd h1 h0
    · have h3 := h.2.2 hf
      have h4 := h.1.1
      have q : (1 : Int32).toInt = 1 := rfl
      have t4 := w_add e5 (by omega)
      exact ⟨Or.inr h1, Or.inr ⟨h1, ⟨z5, e6, by omega, hf, h3.1, hl, hs⟩, hv⟩⟩
theorem sp_takeWord (w : Int32) (hw : inR w 22) {S : mS} {n : Nat} (h : PF n S) : wp_takeWord w S (fun S1 => Erred S S1 ∨ Took n 1 S S1) := by
  unfold wp_takeWord
  refine fm_hasWord _ _ _ _ (fun S1 r _ p => ?_) (sp_hasWord w hw h)
  refine ⟨fun h0 => ?_, fun h0 => ?_⟩
  · rcases p with ⟨h1, -⟩ | ⟨-, h1, -⟩
    · exact absurd h1 h0
    · exact Or.inr h1
  · rcases p with ⟨-, h1⟩ | ⟨h1, -⟩
    · subst h1
      exact fm_wrong _ _ _ _ (fun S3 _ p3 => Or.inl p3) (sp_wrong 1 ⟨by decide, by decide⟩ h)
    · rw [h1] at h0; exact absurd h0 (by decide)
theorem sp_isName {S : mS} {n : Nat} (h : PF n S) : wp_isName S (fun S1 r => S1 = S ∧ (r = 0 ∨ (r = 1 ∧ (S.1 4) = 0 ∧ (S.1 3).toInt < n ∧ (S.2.1 1) (ix (S.1 3)) = 1))) := by
  have loop : ∀ y : Int32, (y = 0 ∨ (y = 1 ∧ (S.1 4) = 0 ∧ (S.1 3).toInt < n ∧ (S.2.1 1) (ix (S.1 3)) = 1)) → wp_isName_25 (fun S1 r => S1 = S ∧ (r = 0 ∨ (r = 1 ∧ (S.1 4) = 0 ∧ (S.1 3).toInt < n ∧ (S.2.1 1) (ix (S.1 3)) = 1))) y S := by
    intro y hy
    unfold wp_isName_25
    refine it_rule (fun u : Int32 × Int32 × mS => u.2.2 = S ∧ (u.1 = 0 ∨ (u.1 = 1 ∧ (S.1 4) = 0 ∧ (S.1 3).toInt < n ∧ (S.2.1 1) (ix (S.1 3)) = 1)) ∧ 0 ≤ u.2.1.toInt ∧ u.2.1.toInt ≤ 21) (fun u => (21 - u.2.1.toInt).toNat) ?_ ⟨rfl, hy, (show 0 ≤ (0 : Int32).toInt by decide), (show (0 : Int32).toInt ≤ 21 by decide)⟩
    rintro ⟨x1, x2, Sx⟩ k28 ⟨g1, g2, g3, g4⟩ hk
    dsimp only at g1 g2 g3 g4
    subst g1
    show wp_isName_28 _ k28 x1 x2 Sx
    have q21 : (21 : Int32).toInt = 21 := rfl
    have q1 : (1 : Int32).toInt = 1 := rfl
    have b : x1 = 0 ∨ x1 = 1 := by rcases g2 with e | ⟨e, -⟩ <;> simp [e]
    unfold wp_isName_28
    refine ⟨fun _ => ⟨b, rfl, g2⟩, fun c => ⟨fun _ => ⟨b, rfl, g2⟩, fun h0 => ?_⟩⟩
    have c := w_nle c
    rcases g2 with e | ⟨e, hf, hl, hs⟩
    · exact absurd e h0
    · have nx : ∀ (K9 : mS → Int32 → Prop) (y0 : Int32), (y0 = 0 ∨ y0 = 1) → wp_isName_62 K9 k28 x2 y0 Sx := by
        intro K9 y0 hy0
        unfold wp_isName_62
        intro z ez
        have tz := w_add ez (by omega)
        refine hk (y0, z, Sx) ⟨rfl, ?_, by show 0 ≤ z.toInt; omega, by show z.toInt ≤ 21; omega⟩ ?_
        · rcases hy0 with e0 | e0
          · exact Or.inl e0
          · exact Or.inr ⟨e0, hf, hl, hs⟩
        · show (21 - z.toInt).toNat < (21 - x2.toInt).toNat
          omega
      exact ⟨(PF_at h hf).1, fun z6 _ => ⟨⟨by omega, by omega⟩, fun z7 _ z8 _ => ⟨fun _ => nx _ 0 (Or.inl rfl), fun _ => nx _ 1 (Or.inr rfl)⟩⟩⟩
  unfold wp_isName
  refine ⟨fun _ => ?_, fun hf => ⟨(PF_at h hf).1, fun z2 e2 => ⟨fun _ => ?_, fun h3 => ?_⟩⟩⟩
  · unfold wp_isName_24; exact loop 0 (Or.inl rfl)
  · unfold wp_isName_24; exact loop 0 (Or.inl rfl)
  · refine loop 1 (Or.inr ⟨rfl, hf, PF_lt h hf ?_, e2 ▸ h3⟩)
    show S.2.1 1 (ix (S.1 3)) ≠ 0
    rw [← e2, h3]
    decide
