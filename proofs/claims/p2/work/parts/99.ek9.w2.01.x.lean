
section KBs
variable {ad : Nat → Nat} {fr : Nat → Int64} {oq : Nat}
theorem k0ix_i {a i : Nat} (h : k0ix ad a = i) (hi : i < 85) : a = ad i := by
  unfold k0ix at h
  cases e : (List.range 85).find? (fun j => ad j == a) with
  | none =>
    rw [e] at h
    have : (85 : Nat) = i := h
    omega
  | some j =>
    rw [e] at h
    have h2 : j = i := h
    have he := List.find?_some e
    rw [h2] at he
    have : ad i = a := by simpa using he
    exact this.symm
theorem k0r_l : ∀ l, l ∈ k0rk → ∀ p, p ∈ l → p.2 < 85 := by decide +kernel
theorem k0r_i {f i j : Nat} (h : k0r f i = some j) : ∃ l, k0rk[i]? = some l ∧ (f, j) ∈ l := by
  unfold k0r at h
  cases e : k0rk[i]? with
  | none =>
    rw [List.getD_eq_getElem?_getD, e] at h
    cases h
  | some l =>
    rw [List.getD_eq_getElem?_getD, e] at h
    refine ⟨l, rfl, ?_⟩
    have h1 : (l.find? (fun p => p.1 == f)).map Prod.snd = some j := h
    cases ee : l.find? (fun p => p.1 == f) with
    | none =>
      rw [ee] at h1
      cases h1
    | some q =>
      rw [ee] at h1
      have h2 : q.2 = j := Option.some.inj h1
      have h3 : q.1 = f := by simpa using List.find?_some ee
      have h4 := List.mem_of_find?_eq_some ee
      rw [← h2, ← h3]
      exact h4
theorem k0r_85 {f i j : Nat} (h : k0r f i = some j) : i < 85 ∧ j < 85 := by
  obtain ⟨l, h1, h2⟩ := k0r_i h
  have h3 := (List.getElem?_eq_some_iff.mp h1).1
  have h4 : k0rk.length = 85 := by decide +kernel
  exact ⟨by omega, k0r_l l (List.mem_of_getElem? h1) (f, j) h2⟩
def k0fl : List (Nat × Nat × Nat) := (List.range 85).flatMap (fun i => ((k0rk.getD i []).filter (fun p => arrL.contains p.1)).map (fun p => (i, p.1, p.2)))
theorem k0fl_u : ∀ p, p ∈ k0fl → ∀ q, q ∈ k0fl → p.2.2 = q.2.2 → p = q := by decide +kernel
theorem k0fl_m {f i j : Nat} (h : k0r f i = some j) (hf : f ∈ arrL) : (i, f, j) ∈ k0fl := by
  obtain ⟨l, h1, h2⟩ := k0r_i h
  unfold k0fl
  refine List.mem_flatMap.mpr ⟨i, List.mem_range.mpr (k0r_85 h).1, List.mem_map.mpr ⟨(f, j), List.mem_filter.mpr ⟨?_, List.contains_iff_mem.mpr hf⟩, rfl⟩⟩
  rw [List.getD_eq_getElem?_getD, h1]
  exact h2
theorem k1_r (hin : ∀ i j, i < 85 → j < 85 → ad i = ad j → i = j) {f i : Nat} (hi : i < 85) : (k1S ad fr oq).2.1 f (ad i) = (k0r f i).map ad := by
  show (k0r f (k0ix ad (ad i))).map ad = _
  rw [k0ix_ad hin hi]
theorem k1_s {f a b : Nat} (h : (k1S ad fr oq).2.1 f a = some b) : ∃ i j, k0r f i = some j ∧ a = ad i ∧ b = ad j ∧ i < 85 ∧ j < 85 := by
  have h1 : (k0r f (k0ix ad a)).map ad = some b := h
  cases e : k0r f (k0ix ad a) with
  | none =>
    rw [e] at h1
    cases h1
  | some j =>
    rw [e] at h1
    have k := k0r_85 e
    exact ⟨_, j, e, k0ix_i rfl k.1, (Option.some.inj h1).symm, k.1, k.2⟩
theorem k1_m {i : Nat} (hi : i < 85) : (ad i, k0kd i) ∈ (k1S ad fr oq).2.2.2.2.2 := List.mem_append_left _ (List.mem_map.mpr ⟨i, by rw [k0is_r]; exact List.mem_range.mpr hi, rfl⟩)
theorem k1_ar {f a i : Nat} : ar (k1S ad fr oq) f a i = 0 ∨ ar (k1S ad fr oq) f a i = 4 := by
  unfold ar
  rcases Decidable.em (f ∈ arrL) with hf | hf
  · rw [if_pos hf]
    cases e : (k1S ad fr oq).2.1 f a with
    | none => exact Or.inl rfl
    | some b =>
      show k0A (k0ix ad b) i = 0 ∨ k0A (k0ix ad b) i = 4
      unfold k0A
      rcases Decidable.em (k0ix ad b = 2) with c | c
      · rw [if_pos c]
        unfold upd
        split
        · exact Or.inr rfl
        · exact Or.inl rfl
      · rw [if_neg c]
        exact Or.inl rfl
  · rw [if_neg hf]
    exact Or.inl rfl
theorem k1_rg {f a i : Nat} {lo hi : Int} (h0 : lo ≤ 0) (h4 : 4 ≤ hi) : lo ≤ (ar (k1S ad fr oq) f a i).toInt ∧ (ar (k1S ad fr oq) f a i).toInt ≤ hi := by
  have z0 : (0 : Int32).toInt = 0 := rfl
  have z4 : (4 : Int32).toInt = 4 := rfl
  rcases k1_ar (ad := ad) (fr := fr) (oq := oq) (f := f) (a := a) (i := i) with c | c
  · rw [c, z0]
    omega
  · rw [c, z4]
    omega
theorem k1_a0 (hin : ∀ i j, i < 85 → j < 85 → ad i = ad j → i = j) {f i j k : Nat} (hf : f ∈ arrL) (hi : i < 85) (hj : j < 85) (h : k0r f i = some j) (h2 : j ≠ 2) : ar (k1S ad fr oq) f (ad i) k = 0 := by
  unfold ar
  rw [if_pos hf, k1_r hin hi, h]
  show k0A (k0ix ad (ad j)) k = 0
  rw [k0ix_ad hin hj]
  unfold k0A
  rw [if_neg h2]
theorem k1_qn (hin : ∀ i j, i < 85 → j < 85 → ad i = ad j → i = j) {k : Nat} : qa (k1S ad fr oq) 3 (ad 15) k = none := by
  unfold qa
  rw [if_pos (by decide), k1_r hin (by decide), show k0r 3 15 = some 20 by decide +kernel]
  show k0Q ad (k0ix ad (ad 20)) k = none
  rw [k0ix_ad hin (by decide)]
  rfl
theorem k1_q7 (hin : ∀ i j, i < 85 → j < 85 → ad i = ad j → i = j) {k : Nat} : qa (k1S ad fr oq) 7 (ad 15) k = k0ln[k]?.map ad := by
  unfold qa
  rw [if_pos (by decide), k1_r hin (by decide), show k0r 7 15 = some 21 by decide +kernel]
  show k0Q ad (k0ix ad (ad 21)) k = _
  rw [k0ix_ad hin (by decide)]
  rfl
theorem kb_WT (hin : ∀ i j, i < 85 → j < 85 → ad i = ad j → i = j) (ho : ∀ i, i < 85 → ad i ≠ oq) : WT (k1S ad fr oq).2.2.2.2.2 (k1S ad fr oq) := by
  have w := k0_WT (fr := fr) hin
  have inl9 : ∀ {a c : Nat}, (a, Sum.inl c) ∈ k1d ad oq → (a, Sum.inl c) ∈ k0d ad := fun h => by
    rcases List.mem_append.mp h with c | c
    · exact c
    · rcases List.mem_cons.mp c with c | c
      · have y := congrArg Prod.snd c
        cases y
      · exact absurd c List.not_mem_nil
  have up : ∀ {y : Nat × cK}, y ∈ k0d ad → y ∈ k1d ad oq := fun h => List.mem_append_left _ h
  refine ⟨rfl, fun f a b ha hb => up (w.2.1 f a b (inl9 ha) hb), fun f a hf ha => w.2.2.1 f a hf (inl9 ha), fun a i b ha hb => up (w.2.2.2.1 a i b ?_ hb), fun a i ha hi => ?_, fun a k k' h1 h2 => ?_⟩
  · rcases List.mem_append.mp ha with c | c
    · exact c
    · rcases List.mem_cons.mp c with c | c
      · have y : (Sum.inr (200, 2) : cK) = Sum.inr (1, 1) := congrArg Prod.snd c
        exact absurd y (by decide)
      · exact absurd c List.not_mem_nil
  · have ha2 : (a, Sum.inr (8, 4)) ∈ k0d ad := by
      rcases List.mem_append.mp ha with c | c
      · exact c
      · rcases List.mem_cons.mp c with c | c
        · have y : (Sum.inr (8, 4) : cK) = Sum.inr (1, 1) := congrArg Prod.snd c
          exact absurd y (by decide)
        · exact absurd c List.not_mem_nil
    obtain ⟨b, h1, h2⟩ := w.2.2.2.2.1 a i ha2 hi
    exact ⟨b, h1, up h2⟩
  · have no : ∀ {k : cK}, (oq, k) ∉ k0d ad := fun h => by
      obtain ⟨i, hi, e⟩ := List.mem_map.mp h
      rw [k0is_r] at hi
      exact ho i (List.mem_range.mp hi) (congrArg Prod.fst e)
    rcases List.mem_append.mp h1 with c | c
    · rcases List.mem_append.mp h2 with d | d
      · exact w.2.2.2.2.2 a k k' c d
      · rcases List.mem_cons.mp d with d | d
        · have y : a = oq := congrArg Prod.fst d
          rw [y] at c
          exact absurd c no
        · exact absurd d List.not_mem_nil
    · rcases List.mem_cons.mp c with c | c
      · have y : a = oq := congrArg Prod.fst c
        have yk : k = Sum.inr (1, 1) := congrArg Prod.snd c
        rcases List.mem_append.mp h2 with d | d
        · rw [y] at d
          exact absurd d no
        · rcases List.mem_cons.mp d with d | d
          · have yk2 : k' = Sum.inr (1, 1) := congrArg Prod.snd d
            rw [yk, yk2]
          · exact absurd d List.not_mem_nil
      · exact absurd c List.not_mem_nil
theorem KI_0 (hin : ∀ i j, i < 85 → j < 85 → ad i = ad j → i = j) (ho : ∀ i, i < 85 → ad i ≠ oq) : KIx (ad 0) oq 86 0 0 (k1S ad fr oq) := by
  have R : ∀ {f i j : Nat}, i < 85 → k0r f i = some j → (k1S ad fr oq).2.1 f (ad i) = some (ad j) := fun hi h => by
    rw [k1_r hin hi, h]
    rfl
  have Rn : ∀ {f i : Nat}, i < 85 → k0r f i = none → (k1S ad fr oq).2.1 f (ad i) = none := fun hi h => by
    rw [k1_r hin hi, h]
    rfl
  have M : ∀ {i : Nat} {c : cK}, i < 85 → k0kd i = c → (ad i, c) ∈ (k1S ad fr oq).2.2.2.2.2 := fun hi h => by
    rw [← h]
    exact k1_m hi
  have I0 : ∀ f y, (k1S ad fr oq).1 f y = 0 := fun _ _ => rfl
  have z0 : (0 : Int32).toInt = 0 := rfl
  have wt := kb_WT (fr := fr) hin ho
  have e8 : (k1S ad fr oq).2.1 8 (ad 15) = some (ad 30) := R (by decide) (by decide +kernel)
  have e9 : (k1S ad fr oq).2.1 9 (ad 15) = some (ad 31) := R (by decide) (by decide +kernel)
  have kl : ∀ k, k < 8 → ∃ j ∈ k0is, k0ln[k]? = some j ∧ 22 ≤ j ∧ j ≤ 30 ∧ k0kd j = Sum.inl 2 := by decide +kernel
  have hinj : INJ (k1S ad fr oq) := fun f g a b q hf hg h1 h2 => by
    obtain ⟨i, j, y1, y2, y3, y4, y5⟩ := k1_s h1
    obtain ⟨i2, j2, x1, x2, x3, x4, x5⟩ := k1_s h2
    have ej : j = j2 := hin j j2 y5 x5 (y3.symm.trans x3)
    have u := k0fl_u _ (k0fl_m y1 hf) _ (k0fl_m x1 hg) ej
    have u1 : i = i2 := congrArg Prod.fst u
    have u2 : f = g := congrArg (fun p => p.2.1) u
    exact ⟨u2, by rw [y2, x2, u1]⟩
  have tka : TKA (k1S ad fr oq) (ad 15) := ⟨by rw [I0]; decide, by rw [I0]; decide, fun i hi => absurd hi (by rw [I0, z0]; omega), fun i t _ hq => (by rw [k1_qn hin] at hq; cases hq)⟩
  have notk : ∀ t, ¬ tk (k1S ad fr oq) (ad 15) t := fun t h => by
    obtain ⟨i, _, hq⟩ := h
    rw [k1_qn hin] at hq
    cases hq
  have pai : PAI (k1S ad fr oq) (ad 15) [] (fun _ => []) (fun _ => 0) := ⟨Rn (by decide) (by decide +kernel), List.nodup_nil, fun t ht => absurd ht (notk t), fun _ => List.nodup_nil, fun _ _ h => absurd h List.not_mem_nil, fun _ _ _ h => absurd h List.not_mem_nil, fun _ _ h => absurd h List.not_mem_nil, fun _ h => absurd h List.not_mem_nil, fun _ _ h => absurd h List.not_mem_nil⟩
  have lin : ∀ i, 22 ≤ i → i ≤ 30 → (k1S ad fr oq).2.1 12 (ad i) = none ∧ (k1S ad fr oq).2.1 13 (ad i) = none := fun i h1 h2 => by
    have y : ∀ i, i < 31 → 22 ≤ i → k0r 12 i = none ∧ k0r 13 i = none := by decide +kernel
    exact ⟨Rn (by omega) (y i (by omega) h1).1, Rn (by omega) (y i (by omega) h1).2⟩
  have hN : ∀ l, ((k1S ad fr oq).2.1 8 (ad 15) = some l ∨ ∃ i, i < 8 ∧ qa (k1S ad fr oq) 7 (ad 15) i = some l) → ((k1S ad fr oq).2.1 12 l = none ∧ (k1S ad fr oq).2.1 13 l = none) ∧ (l, Sum.inl 2) ∈ (k1S ad fr oq).2.2.2.2.2 := fun l h => by
    rcases h with h | ⟨i, hi, h⟩
    · rw [e8] at h
      rw [← Option.some.inj h]
      exact ⟨lin 30 (by decide) (by decide), M (by decide) (by decide +kernel)⟩
    · rw [k1_q7 hin] at h
      obtain ⟨j, _, h1, h2, h3, h4⟩ := kl i hi
      rw [h1] at h
      have el : ad j = l := Option.some.inj h
      rw [← el]
      exact ⟨lin j h2 h3, M (by omega) h4⟩
  have hi : HI (ad 15) (fun l => (k1S ad fr oq).2.1 8 (ad 15) = some l ∨ ∃ i, i < 8 ∧ qa (k1S ad fr oq) 7 (ad 15) i = some l) (fun _ => False) (fun _ => True) [] (fun _ => []) (fun _ => 0) (fun _ => 0) (k1S ad fr oq) := HI_op (b := ad 31) tka pai (fun _ => rfl) (by rw [I0]; rfl) (fun l hl => (hN l hl).1) (I0 _ _) (I0 _ _) (fun i _ => k1_a0 hin (by decide) (by decide) (j := 18) (by decide) (by decide +kernel) (by decide)) HF_rf e9 (I0 _ _) (fun _ _ => rfl) (fun _ _ _ => rfl)
  have kdi : KDI (k1S ad fr oq) (ad 15) (fun l => (k1S ad fr oq).2.1 8 (ad 15) = some l ∨ ∃ i, i < 8 ∧ qa (k1S ad fr oq) 7 (ad 15) i = some l) := by
    refine ⟨M (by decide) (by decide +kernel), fun i t _ hq => ?_, wt.2.2.2.2.2, fun f y b _ h => ?_, fun b h => ?_, fun l hl => (hN l hl).2⟩
    · rw [k1_qn hin] at hq
      cases hq
    · obtain ⟨i, j, _, _, y3, _, y5⟩ := k1_s h
      exact ⟨_, by rw [y3]; exact k1_m y5⟩
    · rw [e9] at h
      rw [← Option.some.inj h]
      exact M (by decide) (by decide +kernel)
  have v0 : ∀ f, (pv (ad 39) (ad 51) (k1S ad fr oq)).1 f = 0 := fun f => by
    unfold pv
    dsimp only
    split
    · rfl
    · split
      · rfl
      · split
        · rfl
        · split <;> rfl
  have notl : ∀ u, ¬ tl (k1S ad fr oq) (ad 15) u := fun u h => by
    obtain ⟨i, hi9, _⟩ := h
    rw [I0, z0] at hi9
    omega
  have rg : ∀ {a b c : Nat}, RGS a b c (k1S ad fr oq) := ⟨fun _ => k1_rg (by decide) (by decide), fun _ => k1_rg (by decide) (by decide), fun _ => k1_rg (by decide) (by decide), fun _ => k1_rg (by decide) (by decide), fun _ => k1_rg (by decide) (by decide), fun _ => k1_rg (by decide) (by decide), fun _ => k1_rg (by decide) (by decide), fun _ => k1_rg (by decide) (by decide)⟩
  refine ⟨ad 34, ad 15, ad 39, ad 51, ad 1, ad 7, ad 12, ad 62, ad 74, _, pv (ad 39) (ad 51) (k1S ad fr oq), ⟨wt, M (by decide) (by decide +kernel), List.mem_append_right _ (List.mem_cons_self ..)⟩, ⟨R (by decide) (by decide +kernel), R (by decide) (by decide +kernel), R (by decide) (by decide +kernel), R (by decide) (by decide +kernel), R (by decide) (by decide +kernel), R (by decide) (by decide +kernel), R (by decide) (by decide +kernel)⟩, ⟨R (by decide) (by decide +kernel), R (by decide) (by decide +kernel), fun c => absurd (hin 39 62 (by decide) (by decide) c) (by decide), fun c => absurd (hin 51 74 (by decide) (by decide) c) (by decide)⟩, ⟨⟨by rw [v0]; decide, by rw [v0]; decide, by rw [v0]; decide, by rw [v0]; decide, fun _ => k1_rg (by decide) (by decide), fun _ => k1_rg (by decide) (by decide), fun _ => k1_rg (by decide) (by decide), fun _ => k1_rg (by decide) (by decide), ?_, fun i h => absurd h (by rw [v0]; omega), fun i h => absurd h (by rw [v0]; omega), fun i h => absurd h (by rw [v0]; omega), fun i h => absurd h (by rw [v0]; omega), fun i h => absurd h (by rw [v0]; omega)⟩, fun i w h => absurd h (by rw [v0]; omega)⟩, ⟨rg, rg⟩, ⟨rfl, by decide, by rw [I0]; decide, by rw [I0]; decide, ?_, fun _ => k1_rg (by decide) (by decide)⟩, fun l hl => hl, by rw [I0]; rfl, fun _ => False, [], fun _ => [], fun _ => 0, fun _ => 0, fun _ _ => False, ⟨R (by decide) (by decide +kernel), R (by decide) (by decide +kernel), R (by decide) (by decide +kernel), ⟨M (by decide) (by decide +kernel), M (by decide) (by decide +kernel), M (by decide) (by decide +kernel), FRZ_rf⟩, rfl, fun i l hi9 hq => Or.inr ⟨i, hi9, hq⟩, fun l hq => Or.inl hq, ad 36, R (by decide) (by decide +kernel), M (by decide) (by decide +kernel), fun c => ?_⟩, ⟨0, ?_, by decide, fun i _ => ⟨fun _ => Nat.zero_le _, fun _ => k1_qn hin⟩, ?_⟩, ⟨by rw [I0]; decide, by rw [I0]; decide⟩, fun b _ => ⟨by rw [I0]; decide, by rw [I0, I0]; exact Int.le_refl _⟩, fun u hu => absurd hu (notl u), fun c => absurd c (by rw [I0]; decide), hi, kdi, hinj, fun u hu => absurd hu (notl u)⟩
  · rw [v0]
    rfl
  · unfold ar
    rw [if_pos (by decide), k1_r hin (by decide), show k0r 64 1 = some 2 by decide +kernel]
    show k0A (k0ix ad (ad 2)) 4001 = 4
    rw [k0ix_ad hin (by decide)]
    rfl
  · rw [e9] at c
    exact absurd (hin 31 36 (by decide) (by decide) (Option.some.inj c)) (by decide)
  · have : cnt (k1S ad fr oq) = 86 := rfl
    rw [this]
    decide
  · have : cnt (k1S ad fr oq) = 86 := rfl
    rw [this, I0]
    decide
end KBs
