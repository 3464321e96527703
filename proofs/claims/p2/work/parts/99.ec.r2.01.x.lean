
/-- the trees of the waits -/
def TREE (T : mS) : Prop := (0 ≤ (T.1 22).toInt ∧ (T.1 22).toInt ≤ 200 ∧ 0 ≤ (T.1 29).toInt ∧ (T.1 29).toInt ≤ 100000) ∧ (∀ n : Int32, 0 ≤ n.toInt → n.toInt < (T.1 29).toInt → OR1 0 n.toInt ((T.2.1 81) (ix n)).toInt ∧ (0 ≤ ((T.2.1 85) (ix n)).toInt ∧ ((T.2.1 85) (ix n)).toInt < (T.1 22).toInt) ∧ ((T.2.1 82) (ix n)).toInt ≤ (T.1 29).toInt ∧ (0 < ((T.2.1 82) (ix n)).toInt → n.toInt < ((T.2.1 82) (ix n)).toInt ∧ ∀ k : Int32, n.toInt < k.toInt → k.toInt < ((T.2.1 82) (ix n)).toInt → 0 < ((T.2.1 82) (ix k)).toInt ∧ (T.2.1 85) (ix k) = (T.2.1 85) (ix n)) ∧ ∃ h, h ≤ 12 ∧ dpt ((T.2.1 81)) h n) ∧ (∀ t : Int32, 0 ≤ t.toInt → t.toInt < (T.1 22).toInt → OR1 0 t.toInt ((T.2.1 52) (ix t)).toInt ∧ (0 ≤ ((T.2.1 52) (ix t)).toInt → 0 ≤ ((T.2.1 53) (ix t)).toInt ∧ ((T.2.1 53) (ix t)).toInt < (T.1 29).toInt))
theorem TREE_b {T : mS} (h : TREE T) : 0 ≤ (T.1 22).toInt ∧ (T.1 22).toInt ≤ 200 ∧ 0 ≤ (T.1 29).toInt ∧ (T.1 29).toInt ≤ 100000 := h.1
theorem TREE_u {T : mS} {n : Int32} (h : TREE T) (h0 : 0 ≤ n.toInt) (h1 : n.toInt < (T.1 29).toInt) : OR1 0 n.toInt ((T.2.1 81) (ix n)).toInt := (h.2.1 n h0 h1).1
theorem TREE_t {T : mS} {n : Int32} (h : TREE T) (h0 : 0 ≤ n.toInt) (h1 : n.toInt < (T.1 29).toInt) : 0 ≤ ((T.2.1 85) (ix n)).toInt ∧ ((T.2.1 85) (ix n)).toInt < (T.1 22).toInt := (h.2.1 n h0 h1).2.1
theorem TREE_e {T : mS} {n : Int32} (h : TREE T) (h0 : 0 ≤ n.toInt) (h1 : n.toInt < (T.1 29).toInt) : ((T.2.1 82) (ix n)).toInt ≤ (T.1 29).toInt ∧ (0 < ((T.2.1 82) (ix n)).toInt → n.toInt < ((T.2.1 82) (ix n)).toInt) := ⟨(h.2.1 n h0 h1).2.2.1, fun q => ((h.2.1 n h0 h1).2.2.2.1 q).1⟩
theorem TREE_c {T : mS} {n k : Int32} (h : TREE T) (h0 : 0 ≤ n.toInt) (h1 : n.toInt < (T.1 29).toInt) (h2 : 0 < ((T.2.1 82) (ix n)).toInt) (h3 : n.toInt < k.toInt) (h4 : k.toInt < ((T.2.1 82) (ix n)).toInt) : k.toInt < ((T.2.1 82) (ix k)).toInt := by
  have q := ((h.2.1 n h0 h1).2.2.2.1 h2).2 k h3 h4
  have a := (h.2.1 n h0 h1).2.2.1
  exact ((h.2.1 k (by omega) (by omega)).2.2.2.1 q.1).1
theorem TREE_p {T : mS} {t : Int32} (h : TREE T) (h0 : 0 ≤ t.toInt) (h1 : t.toInt < (T.1 22).toInt) : OR1 0 t.toInt ((T.2.1 52) (ix t)).toInt ∧ (0 ≤ ((T.2.1 52) (ix t)).toInt → 0 ≤ ((T.2.1 53) (ix t)).toInt ∧ ((T.2.1 53) (ix t)).toInt < (T.1 29).toInt) := h.2.2 t h0 h1
theorem TREE_d {T : mS} {n : Int32} (h : TREE T) (h0 : 0 ≤ n.toInt) (h1 : n.toInt < (T.1 29).toInt) : ∃ h, h ≤ 12 ∧ dpt ((T.2.1 81)) h n := (h.2.1 n h0 h1).2.2.2.2
theorem dpt_s {f : Nat → Int32} {h : Nat} {n : Int32} (hd : dpt f h n) (h0 : 0 ≤ n.toInt) : 1 ≤ h ∧ dpt f (h - 1) (f (ix n)) := by
  cases h with
  | zero => exact absurd (show n.toInt < 0 from hd) (by omega)
  | succ h => exact ⟨by omega, hd.2⟩
/-- of a task all nodes from a to b -/
def OFT (T : mS) (tau a b : Int) : Prop := ∀ n : Int32, a ≤ n.toInt → n.toInt < b → ((T.2.1 85) (ix n)).toInt = tau
theorem OFT_c {T : mS} {n : Int32} {tau m : Int} (h : TREE T) (h0 : 0 ≤ n.toInt) (h1 : n.toInt < (T.1 29).toInt) (h2 : 0 < ((T.2.1 82) (ix n)).toInt) (ht : tau = ((T.2.1 85) (ix n)).toInt) (hm : m = n.toInt + 1) : OFT T tau m ((T.2.1 82) (ix n)).toInt := fun k h3 h4 => by
  rw [(((h.2.1 n h0 h1).2.2.2.1 h2).2 k (by omega) h4).2, ht]
def D2 (T : mS) (st : Nat → Int32) : Prop := ∀ t : Int32, 0 ≤ t.toInt → t.toInt < (T.1 22).toInt → (T.2.1 60) (ix t) = 0 → st (ix t) = 0 ∨ st (ix t) = 3
def D3 (T : mS) (ns nv : Nat → Int32) : Prop := ∀ n : Int32, 0 ≤ n.toInt → n.toInt < (T.1 29).toInt → (T.2.1 80) (ix n) = 6 → ns (ix n) = 0 → ((T.2.1 85) (ix n)).toInt < (nv (ix n)).toInt ∧ (nv (ix n)).toInt < (T.1 22).toInt ∧ (T.2.1 53) (ix (nv (ix n))) = n
def D4 (T : mS) (st : Nat → Int32) : Prop := ∀ t : Int32, 0 ≤ t.toInt → t.toInt < (T.1 22).toInt → st (ix t) = 1 → 0 ≤ ((T.2.1 65) (ix t)).toInt ∧ ((T.2.1 65) (ix t)).toInt ≤ ((T.2.1 66) (ix t)).toInt ∧ ((T.2.1 66) (ix t)).toInt ≤ (T.1 29).toInt ∧ OFT T t.toInt ((T.2.1 65) (ix t)).toInt ((T.2.1 66) (ix t)).toInt
def TRs (st st1 : Nat → Int32) : Prop := ∀ i, st1 i = st i ∨ ((st i = 0 ∨ st i = 1 ∨ st i = 2) ∧ (st1 i = 0 ∨ st1 i = 2 ∨ st1 i = 3))
def TRn (ns ns1 : Nat → Int32) : Prop := ∀ i, ¬ ns i = 0 → ¬ ns1 i = 0
theorem TRs_rf {st : Nat → Int32} : TRs st st := fun _ => Or.inl rfl
theorem TRn_rf {ns : Nat → Int32} : TRn ns ns := fun _ h => h
theorem TRs_tr {a b c : Nat → Int32} (h : TRs a b) (k : TRs b c) : TRs a c := fun i => by
  rcases h i with h | h
  · rcases k i with k | k
    · exact Or.inl (k.trans h)
    · exact Or.inr (by rw [← h]; exact k)
  · rcases k i with k | k
    · exact Or.inr ⟨h.1, by rw [k]; exact h.2⟩
    · exact Or.inr ⟨h.1, k.2⟩
theorem TRn_tr {a b c : Nat → Int32} (h : TRn a b) (k : TRn b c) : TRn a c := fun i q => k i (h i q)
theorem TRs_u {st : Nat → Int32} {i : Nat} {v : Int32} (h : st i = 0 ∨ st i = 1 ∨ st i = 2) (hv : v = 0 ∨ v = 2 ∨ v = 3) : TRs st (upd st i v) := fun j => by
  unfold upd
  rcases Decidable.em (j = i) with d | d
  · subst d; rw [if_pos rfl]; exact Or.inr ⟨h, hv⟩
  · rw [if_neg d]; exact Or.inl rfl
theorem TRn_u {ns : Nat → Int32} {i : Nat} {v : Int32} (hv : ¬ v = 0) : TRn ns (upd ns i v) := fun j q => by
  unfold upd
  rcases Decidable.em (j = i) with d | d
  · rw [if_pos d]; exact hv
  · rw [if_neg d]; exact q
theorem TRn_p {ns ns1 : Nat → Int32} {i : Nat} (h : TRn ns ns1) (k : ¬ ns i = 0) : ¬ ns1 i = 0 := h i k
theorem TRs_p {st st1 : Nat → Int32} {i : Nat} (h : TRs st st1) : st1 i = st i ∨ ((st i = 0 ∨ st i = 1 ∨ st i = 2) ∧ (st1 i = 0 ∨ st1 i = 2 ∨ st1 i = 3)) := h i
theorem D2_u {T : mS} {st : Nat → Int32} {t v : Int32} (h : D2 T st) (h0 : 0 ≤ t.toInt) (hv : v = 0 ∨ v = 3 ∨ ¬ (T.2.1 60) (ix t) = 0) : D2 T (upd st (ix t) v) := fun s s0 s1 e => by
  unfold upd
  rcases Decidable.em (ix s = ix t) with d | d
  · rw [if_pos d]
    rcases hv with g | g | g
    · exact Or.inl g
    · exact Or.inr g
    · rw [d] at e; exact absurd e g
  · rw [if_neg d]; exact h s s0 s1 e
theorem D2_p {T : mS} {st : Nat → Int32} {t : Int32} (h : D2 T st) (h0 : 0 ≤ t.toInt) (h1 : t.toInt < (T.1 22).toInt) (h2 : (T.2.1 60) (ix t) = 0) : st (ix t) = 0 ∨ st (ix t) = 3 := h t h0 h1 h2
theorem D3_s {T : mS} {ns nv : Nat → Int32} {n v : Int32} (h : D3 T ns nv) (h0 : 0 ≤ n.toInt) (hv : ¬ v = 0) : D3 T (upd ns (ix n) v) nv := fun s s0 s1 a b => by
  unfold upd at b
  rcases Decidable.em (ix s = ix n) with d | d
  · rw [if_pos d] at b; exact absurd b hv
  · rw [if_neg d] at b; exact h s s0 s1 a b
theorem D3_v {T : mS} {ns nv : Nat → Int32} {n v : Int32} (h : D3 T ns nv) (h0 : 0 ≤ n.toInt) (hs : ¬ ns (ix n) = 0) : D3 T ns (upd nv (ix n) v) := fun s s0 s1 a b => by
  unfold upd
  rcases Decidable.em (ix s = ix n) with d | d
  · rw [d] at b; exact absurd b hs
  · rw [if_neg d]; exact h s s0 s1 a b
theorem D3_p {T : mS} {ns nv : Nat → Int32} {n : Int32} (h : D3 T ns nv) (h0 : 0 ≤ n.toInt) (h1 : n.toInt < (T.1 29).toInt) (h2 : (T.2.1 80) (ix n) = 6) (h3 : ns (ix n) = 0) : ((T.2.1 85) (ix n)).toInt < (nv (ix n)).toInt ∧ (nv (ix n)).toInt < (T.1 22).toInt ∧ (T.2.1 53) (ix (nv (ix n))) = n := h n h0 h1 h2 h3
theorem D4_u {T : mS} {st : Nat → Int32} {i : Nat} {v : Int32} (h : D4 T st) (hv : ¬ v = 1) : D4 T (upd st i v) := fun s s0 s1 e => by
  unfold upd at e
  rcases Decidable.em (ix s = i) with d | d
  · rw [if_pos d] at e; exact absurd e hv
  · rw [if_neg d] at e; exact h s s0 s1 e
theorem D4_p {T : mS} {st : Nat → Int32} {t : Int32} (h : D4 T st) (h0 : 0 ≤ t.toInt) (h1 : t.toInt < (T.1 22).toInt) (h2 : st (ix t) = 1) : 0 ≤ ((T.2.1 65) (ix t)).toInt ∧ ((T.2.1 65) (ix t)).toInt ≤ ((T.2.1 66) (ix t)).toInt ∧ ((T.2.1 66) (ix t)).toInt ≤ (T.1 29).toInt ∧ OFT T t.toInt ((T.2.1 65) (ix t)).toInt ((T.2.1 66) (ix t)).toInt := h t h0 h1 h2
/-- the lost are no more than the cancelled -/
def D5 (m : Int) (lo : Int32) (ic : Nat → Int32) : Prop := 0 ≤ lo.toInt ∧ lo.toInt ≤ (cn ic m.toNat : Nat)
theorem D5_b {m : Int} {lo : Int32} {ic : Nat → Int32} (h : D5 m lo ic) (h0 : 0 ≤ m) : 0 ≤ lo.toInt ∧ lo.toInt ≤ m := by
  have q := cn_le ic m.toNat
  exact ⟨h.1, by have := h.2; omega⟩
theorem D5_u {m : Int} {lo t v : Int32} {ic : Nat → Int32} (h : D5 m lo ic) (h0 : 0 ≤ t.toInt) (h1 : t.toInt < m) (h2 : ic (ix t) = 0) (hv : ¬ v = 0) : 0 ≤ lo.toInt ∧ lo.toInt + 1 ≤ (cn (upd ic (ix t) v) m.toNat : Nat) := by
  have q := cn_u h2 hv m.toNat (by unfold ix; omega)
  rw [q]
  have a := h.1
  have b := h.2
  exact ⟨a, by omega⟩
theorem D5_i {m : Int} {lo lo1 : Int32} {ic : Nat → Int32} (h : 0 ≤ lo.toInt ∧ lo.toInt + 1 ≤ (cn ic m.toNat : Nat)) (h1 : lo1 = lo ∨ lo1.toInt = lo.toInt + 1) : D5 m lo1 ic := by
  rcases h1 with g | g
  · rw [g]; exact ⟨h.1, by omega⟩
  · exact ⟨by omega, by omega⟩
/-- the tasks and nodes as calls find and leave them -/
def DY (T : mS) (x : Int) (S : mS) : Prop := ET T S ∧ RWX (T.1 22).toInt (S.1 23).toInt x ((S.2.1 54)) ((S.2.1 73)) ∧ D2 T ((S.2.1 54)) ∧ D3 T ((S.2.1 83)) ((S.2.1 84)) ∧ D4 T ((S.2.1 54)) ∧ D5 (T.1 22).toInt (S.1 28) ((S.2.1 61)) ∧ STG (S.1 30).toInt (T.1 29).toInt ((S.2.1 87)) ((T.2.1 80)) (T.2.2 86)
/-- v is among them, at x or behind -/
def FND (m x : Int) (f : Nat → Int32) (v : Int32) : Prop := ∃ i : Nat, x ≤ (i : Int) ∧ (i : Int) < m ∧ f i = v
theorem FND_b {m x : Int} {f : Nat → Int32} {v : Int32} (h : FND m x f v) : x < m := by obtain ⟨i, a, b, _⟩ := h; omega
theorem FND_s {m y : Int} {f : Nat → Int32} {x v : Int32} (h : FND m x.toInt f v) (h1 : ¬ f (ix x) = v) (h0 : 0 ≤ x.toInt) (hy : y = x.toInt + 1) : FND m y f v := by
  obtain ⟨i, a, b, c⟩ := h
  refine ⟨i, ?_, b, c⟩
  rcases Decidable.em ((i : Int) = x.toInt) with d | d
  · exact absurd (by rw [← c, show i = ix x by unfold ix; omega]) h1
  · omega
theorem RWX_f {tk rm x : Int} {st ro : Nat → Int32} {t : Int32} (h : RWX tk rm x st ro) (h0 : 0 ≤ t.toInt) (h1 : t.toInt < tk) (h2 : t.toInt ≠ x) (h3 : st (ix t) = 0) : FND rm 0 ro t := by
  obtain ⟨i, a, b⟩ := h.2.2.2 t h0 h1 h2 h3
  exact ⟨i, by omega, a, b⟩
theorem RWX_200 {tk rm x : Int} {st ro : Nat → Int32} (h : RWX tk rm x st ro) (h0 : 0 ≤ tk) : 0 ≤ rm ∧ rm ≤ tk := by
  refine ⟨h.1, ?_⟩
  have q := php tk.toNat rm.toNat (fun i => ix (ro i)) (fun i hi => ?_) (fun i j hi hj e => ?_)
  · have := h.1; omega
  · have a := h.2.1 i (by omega)
    show ix (ro i) < tk.toNat
    unfold ix; omega
  · exact h.2.2.1 i j (by omega) (by omega) (ix_inj (h.2.1 i (by omega)).1 (h.2.1 j (by omega)).1 e)
theorem OFT_p {T : mS} {tau a b : Int} {n : Int32} (h : OFT T tau a b) (h0 : a ≤ n.toInt) (h1 : n.toInt < b) : ((T.2.1 85) (ix n)).toInt = tau := h n h0 h1
