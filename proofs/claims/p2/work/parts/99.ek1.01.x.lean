
theorem fu_x {f : Nat → Option Nat} {a y : Nat} {v : Option Nat} : fu f a v y = if y = a then v else f y := rfl
theorem adA_x {f : Nat → Option Nat} {o : Option Nat} {p y : Nat} : adA f o p y = if o = some y then some p else f y := by
  unfold adA
  cases o with
  | none => rw [if_neg (fun h => by cases h)]
  | some c =>
    show fu f c (some p) y = _
    rw [fu_x]
    rcases Decidable.em (y = c) with h | h
    · rw [if_pos h, if_pos (by rw [h])]
    · rw [if_neg h, if_neg (fun q => h (Option.some.inj q).symm)]
theorem adB_x {f : Nat → Option Nat} {o : Option Nat} {p y : Nat} : adB f o p y = if o = some y then some p else f y := by
  unfold adB
  cases o with
  | none => rw [if_neg (fun h => by cases h)]
  | some c =>
    show fu f c (some p) y = _
    rw [fu_x]
    rcases Decidable.em (y = c) with h | h
    · rw [if_pos h, if_pos (by rw [h])]
    · rw [if_neg h, if_neg (fun q => h (Option.some.inj q).symm)]
/-- the place of q in a list, from 1 -/
def pos9 : List Nat → Nat → Nat
  | [], _ => 0
  | p :: r, q => if p = q then 1 else pos9 r q + 1
def psx (l : List Nat) : Option Nat → Nat
  | none => 0
  | some q => pos9 l q
theorem pos9_a {q : Nat} {l2 : List Nat} : ∀ {l1 : List Nat}, q ∉ l1 → pos9 (l1 ++ q :: l2) q = l1.length + 1
  | [], _ => if_pos rfl
  | p :: r, h => by
    show (if p = q then 1 else pos9 (r ++ q :: l2) q + 1) = _
    rw [if_neg (fun e => h (by rw [e]; exact List.mem_cons_self ..)), pos9_a (fun q9 => h (List.mem_cons_of_mem _ q9))]
    rfl
theorem psx_l {Q l1 l2 : List Nat} (h : Q = l1 ++ l2) (hn : Q.Nodup) : psx Q (lso l1 none) = l1.length := by
  rcases sno l1 with e | ⟨r, a, e⟩
  · rw [e]; rfl
  · have e3 : lso l1 none = some a := by rw [e, lso_app]; rfl
    rw [e3]
    show pos9 Q a = _
    subst h
    subst e
    have n1 := (List.nodup_append.mp (List.nodup_append.mp hn).1).2.2
    have na : a ∉ r := fun q => n1 a q a (List.mem_cons_self ..) rfl
    have e4 : r ++ [a] ++ l2 = r ++ a :: l2 := by rw [List.append_assoc]; rfl
    rw [e4, pos9_a na]
    simp
/-- what stands at a place of a line -/
theorem dl_fb {ah be : Nat → Option Nat} {Q l1 l2 : List Nat} (hD : DL ah be none Q none) (h : Q = l1 ++ l2) : (lso l1 none = none → hdo Q none = hdo l2 none) ∧ ∀ q, lso l1 none = some q → be q = hdo l2 none ∧ ∃ r, l1 = r ++ [q] ∧ ah q = lso r none := by
  subst h
  refine ⟨fun e => by rw [lso_nil e]; rfl, fun q e => ?_⟩
  obtain ⟨r, er⟩ := lso_end e
  subst er
  rw [List.append_assoc] at hD
  have h1 := DL_app.mp hD
  exact ⟨h1.2.2.1, r, rfl, h1.2.1⟩
