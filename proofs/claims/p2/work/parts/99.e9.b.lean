
theorem tb_l {w : Cond} (i : Nat) (h : tables_1[i]? = some w) : w ∈ lw_tbl := List.mem_append_right _ (List.mem_of_getElem? h)
def bs_29 : List Int32 := [114, 111, 117, 116, 105, 110, 101, 32, 119, 97, 105, 116, 32, 112, 117, 116, 32, 105, 102, 32, 101, 108, 115, 101, 32, 119, 104, 105, 108, 101, 32, 98, 114, 101, 97, 107, 32, 99, 111, 110, 116, 105, 110, 117, 101, 32, 114, 101, 116, 117, 114, 110, 32, 102, 97, 105, 108, 32, 116, 114, 121, 32, 111, 110, 32, 102, 105, 110, 105, 115, 104, 32, 108, 101, 116, 116, 101, 114, 32, 116, 105, 99, 107, 32, 121, 105, 101, 108, 100, 32, 99, 104, 105, 108, 100, 32, 98, 111, 116, 104, 32, 102, 105, 114, 115, 116, 32, 119, 105, 116, 104, 105, 110, 32, 99, 108, 111, 99, 107]
def bs_66 : List Int32 := [123, 125, 40, 41, 44, 59, 61, 60, 43, 45, 42, 47, 37]
theorem lw_ms29 : ((flatC (Jvm.Cond.and given_1 narrow_1)).drop 28).take 119 = (List.range 119).map (fun j => Cond.eq (.elem (.field (Term.string "Sleepers$Tokens" 29) "java/lang/String" "value" "[B") (.int (Int32.ofNat j))) (.int (bs_29.getD j 0))) := by decide +kernel
theorem lw_ns29 : ((flatC (Jvm.Cond.and given_1 narrow_1)).drop 24).take 4 = [Cond.exactly (Term.string "Sleepers$Tokens" 29) "java/lang/String", Cond.eq (.field (Term.string "Sleepers$Tokens" 29) "java/lang/String" "coder" "B") (.int 0), Cond.arrayOf (.field (Term.string "Sleepers$Tokens" 29) "java/lang/String" "value" "[B") .byte, Cond.eq (.length (.field (Term.string "Sleepers$Tokens" 29) "java/lang/String" "value" "[B")) (.int (Int32.ofNat 119))] := by decide +kernel
theorem lw_s29 {args : Array Value} {s : State} {A : Nat → Prop} (h : (Jvm.Cond.and given_1 narrow_1).before args s = true) (hAn : ∀ a : Nat, a < s.heap.size → ¬ A a) : ∃ a v : Nat, sx_F a v 119 bs_29 A s s.heap ∧ (Term.string "Sleepers$Tokens" 29).eval args s none [] s = some (.ref a) := by
  have hs := flat_of_before _ h
  have h4 : ∀ w ∈ [Cond.exactly (Term.string "Sleepers$Tokens" 29) "java/lang/String", Cond.eq (.field (Term.string "Sleepers$Tokens" 29) "java/lang/String" "coder" "B") (.int 0), Cond.arrayOf (.field (Term.string "Sleepers$Tokens" 29) "java/lang/String" "value" "[B") .byte, Cond.eq (.length (.field (Term.string "Sleepers$Tokens" 29) "java/lang/String" "value" "[B")) (.int (Int32.ofNat 119))], w.before args s = true := fun w hw => hs w (List.mem_of_mem_drop (List.mem_of_mem_take (by rw [lw_ns29]; exact hw)))
  have hj : ∀ j : Nat, j < 119 → (Cond.eq (.elem (.field (Term.string "Sleepers$Tokens" 29) "java/lang/String" "value" "[B") (.int (Int32.ofNat j))) (.int (bs_29.getD j 0))).before args s = true := fun j hj => hs _ (List.mem_of_mem_drop (List.mem_of_mem_take (by rw [lw_ms29]; exact List.mem_map_of_mem (f := fun j => Cond.eq (.elem (.field (Term.string "Sleepers$Tokens" 29) "java/lang/String" "value" "[B") (.int (Int32.ofNat j))) (.int (bs_29.getD j 0))) (List.mem_range.mpr hj))))
  obtain ⟨ad, av, hST, hET⟩ := vk_Sof (args := args) (s := s) (N := 1) (tm := fun _ => (Term.string "Sleepers$Tokens" 29)) (len := [119]) (byt := [bs_29]) (A := A) (by decide) (fun _ _ => h4 _ (List.mem_cons_self)) (fun _ _ => h4 _ (List.mem_cons_of_mem _ List.mem_cons_self)) (fun _ _ => h4 _ (List.mem_cons_of_mem _ (List.mem_cons_of_mem _ List.mem_cons_self))) (fun i hi => by obtain rfl : i = 0 := Nat.lt_one_iff.mp hi; exact h4 _ (List.mem_cons_of_mem _ (List.mem_cons_of_mem _ (List.mem_cons_of_mem _ List.mem_cons_self)))) (fun i hi j h9 => by obtain rfl : i = 0 := Nat.lt_one_iff.mp hi; exact hj j h9) (fun i j hi hj hij => absurd (by omega) hij) hAn
  exact ⟨ad 0, av 0, hST.1 0 (by decide), hET 0 (by decide)⟩
theorem lw_ms66 : ((flatC (Jvm.Cond.and given_1 narrow_1)).drop 151).take 13 = (List.range 13).map (fun j => Cond.eq (.elem (.field (Term.string "Sleepers$Tokens" 66) "java/lang/String" "value" "[B") (.int (Int32.ofNat j))) (.int (bs_66.getD j 0))) := by decide +kernel
theorem lw_ns66 : ((flatC (Jvm.Cond.and given_1 narrow_1)).drop 147).take 4 = [Cond.exactly (Term.string "Sleepers$Tokens" 66) "java/lang/String", Cond.eq (.field (Term.string "Sleepers$Tokens" 66) "java/lang/String" "coder" "B") (.int 0), Cond.arrayOf (.field (Term.string "Sleepers$Tokens" 66) "java/lang/String" "value" "[B") .byte, Cond.eq (.length (.field (Term.string "Sleepers$Tokens" 66) "java/lang/String" "value" "[B")) (.int (Int32.ofNat 13))] := by decide +kernel
theorem lw_s66 {args : Array Value} {s : State} {A : Nat → Prop} (h : (Jvm.Cond.and given_1 narrow_1).before args s = true) (hAn : ∀ a : Nat, a < s.heap.size → ¬ A a) : ∃ a v : Nat, sx_F a v 13 bs_66 A s s.heap ∧ (Term.string "Sleepers$Tokens" 66).eval args s none [] s = some (.ref a) := by
  have hs := flat_of_before _ h
  have h4 : ∀ w ∈ [Cond.exactly (Term.string "Sleepers$Tokens" 66) "java/lang/String", Cond.eq (.field (Term.string "Sleepers$Tokens" 66) "java/lang/String" "coder" "B") (.int 0), Cond.arrayOf (.field (Term.string "Sleepers$Tokens" 66) "java/lang/String" "value" "[B") .byte, Cond.eq (.length (.field (Term.string "Sleepers$Tokens" 66) "java/lang/String" "value" "[B")) (.int (Int32.ofNat 13))], w.before args s = true := fun w hw => hs w (List.mem_of_mem_drop (List.mem_of_mem_take (by rw [lw_ns66]; exact hw)))
  have hj : ∀ j : Nat, j < 13 → (Cond.eq (.elem (.field (Term.string "Sleepers$Tokens" 66) "java/lang/String" "value" "[B") (.int (Int32.ofNat j))) (.int (bs_66.getD j 0))).before args s = true := fun j hj => hs _ (List.mem_of_mem_drop (List.mem_of_mem_take (by rw [lw_ms66]; exact List.mem_map_of_mem (f := fun j => Cond.eq (.elem (.field (Term.string "Sleepers$Tokens" 66) "java/lang/String" "value" "[B") (.int (Int32.ofNat j))) (.int (bs_66.getD j 0))) (List.mem_range.mpr hj))))
  obtain ⟨ad, av, hST, hET⟩ := vk_Sof (args := args) (s := s) (N := 1) (tm := fun _ => (Term.string "Sleepers$Tokens" 66)) (len := [13]) (byt := [bs_66]) (A := A) (by decide) (fun _ _ => h4 _ (List.mem_cons_self)) (fun _ _ => h4 _ (List.mem_cons_of_mem _ List.mem_cons_self)) (fun _ _ => h4 _ (List.mem_cons_of_mem _ (List.mem_cons_of_mem _ List.mem_cons_self))) (fun i hi => by obtain rfl : i = 0 := Nat.lt_one_iff.mp hi; exact h4 _ (List.mem_cons_of_mem _ (List.mem_cons_of_mem _ (List.mem_cons_of_mem _ List.mem_cons_self)))) (fun i hi j h9 => by obtain rfl : i = 0 := Nat.lt_one_iff.mp hi; exact hj j h9) (fun i j hi hj hij => absurd (by omega) hij) hAn
  exact ⟨ad 0, av 0, hST.1 0 (by decide), hET 0 (by decide)⟩
theorem lw_ms34 : ((flatC (Jvm.Cond.and given_1 narrow_1)).drop 229).take 120 = (List.range 120).map (fun j => Cond.eq (.elem (.field (Term.string "SleepersModel" 34) "java/lang/String" "value" "[B") (.int (Int32.ofNat j))) (.int (bs_34.getD j 0))) := by decide +kernel
theorem lw_ns34 : ((flatC (Jvm.Cond.and given_1 narrow_1)).drop 225).take 4 = [Cond.exactly (Term.string "SleepersModel" 34) "java/lang/String", Cond.eq (.field (Term.string "SleepersModel" 34) "java/lang/String" "coder" "B") (.int 0), Cond.arrayOf (.field (Term.string "SleepersModel" 34) "java/lang/String" "value" "[B") .byte, Cond.eq (.length (.field (Term.string "SleepersModel" 34) "java/lang/String" "value" "[B")) (.int (Int32.ofNat 120))] := by decide +kernel
theorem lw_s34 {args : Array Value} {s : State} {A : Nat → Prop} (h : (Jvm.Cond.and given_1 narrow_1).before args s = true) (hAn : ∀ a : Nat, a < s.heap.size → ¬ A a) : ∃ a v : Nat, sx_F a v 120 bs_34 A s s.heap ∧ (Term.string "SleepersModel" 34).eval args s none [] s = some (.ref a) := by
  have hs := flat_of_before _ h
  have h4 : ∀ w ∈ [Cond.exactly (Term.string "SleepersModel" 34) "java/lang/String", Cond.eq (.field (Term.string "SleepersModel" 34) "java/lang/String" "coder" "B") (.int 0), Cond.arrayOf (.field (Term.string "SleepersModel" 34) "java/lang/String" "value" "[B") .byte, Cond.eq (.length (.field (Term.string "SleepersModel" 34) "java/lang/String" "value" "[B")) (.int (Int32.ofNat 120))], w.before args s = true := fun w hw => hs w (List.mem_of_mem_drop (List.mem_of_mem_take (by rw [lw_ns34]; exact hw)))
  have hj : ∀ j : Nat, j < 120 → (Cond.eq (.elem (.field (Term.string "SleepersModel" 34) "java/lang/String" "value" "[B") (.int (Int32.ofNat j))) (.int (bs_34.getD j 0))).before args s = true := fun j hj => hs _ (List.mem_of_mem_drop (List.mem_of_mem_take (by rw [lw_ms34]; exact List.mem_map_of_mem (f := fun j => Cond.eq (.elem (.field (Term.string "SleepersModel" 34) "java/lang/String" "value" "[B") (.int (Int32.ofNat j))) (.int (bs_34.getD j 0))) (List.mem_range.mpr hj))))
  obtain ⟨ad, av, hST, hET⟩ := vk_Sof (args := args) (s := s) (N := 1) (tm := fun _ => (Term.string "SleepersModel" 34)) (len := [120]) (byt := [bs_34]) (A := A) (by decide) (fun _ _ => h4 _ (List.mem_cons_self)) (fun _ _ => h4 _ (List.mem_cons_of_mem _ List.mem_cons_self)) (fun _ _ => h4 _ (List.mem_cons_of_mem _ (List.mem_cons_of_mem _ List.mem_cons_self))) (fun i hi => by obtain rfl : i = 0 := Nat.lt_one_iff.mp hi; exact h4 _ (List.mem_cons_of_mem _ (List.mem_cons_of_mem _ (List.mem_cons_of_mem _ List.mem_cons_self)))) (fun i hi j h9 => by obtain rfl : i = 0 := Nat.lt_one_iff.mp hi; exact hj j h9) (fun i j hi hj hij => absurd (by omega) hij) hAn
  exact ⟨ad 0, av 0, hST.1 0 (by decide), hET 0 (by decide)⟩
theorem lw_ref {args : Array Value} {s : State} {t : Term} (h : (Cond.exactly t "java/lang/String").before args s = true) : ∃ a : Nat, t.eval args s none [] s = some (.ref a) := by
  obtain ⟨a, c, cA, kA, q1, -⟩ := Cond.exactly_spec (args := args) (first := s) (o := none) (s := s) (idx := []) (t := t) (cls := "java/lang/String") h
  exact ⟨a, q1⟩
theorem k0ix_no {ad : Nat → Nat} {a : Nat} (h : ∀ i, i < 85 → ad i ≠ a) : k0ix ad a = 85 := by
  unfold k0ix
  have e : (List.range 85).find? (fun i => ad i == a) = none := List.find?_eq_none.mpr (fun i hi => by simpa using h i (List.mem_range.mp hi))
  rw [e]; rfl
def k1d (ad : Nat → Nat) (oq : Nat) : List (Nat × cK) := k0d ad ++ [(oq, Sum.inr (1, 1))]
/-- the class as it begins, with the law's row beside it -/
def k1S (ad : Nat → Nat) (fr : Nat → Int64) (oq : Nat) : kS := ((k0S ad fr).1, (k0S ad fr).2.1, (k0S ad fr).2.2.1, (k0S ad fr).2.2.2.1, (k0S ad fr).2.2.2.2.1, k1d ad oq)
theorem k1_cW {E : kE} {ad : Nat → Nat} {fr : Nat → Int64} {oq : Nat} (h : ∀ i, i < 85 → ad i ≠ oq) : cW E (k1S ad fr oq) = cW E (k0S ad fr) ++ [(oq, .inl (E.2.1 1, 1, .inr (.inl (fun _ => 0))))] := by
  have e : k0L fr (k0ix ad oq) = fun _ => 0 := by rw [k0ix_no h]; rfl
  show (k0d ad ++ [(oq, Sum.inr (1, 1))]).map (cC E (k1S ad fr oq)) = (k0d ad).map (cC E (k0S ad fr)) ++ _
  rw [List.map_append]
  show (k0d ad).map (cC E (k0S ad fr)) ++ [(oq, Sum.inl (E.2.1 1, 1, Sum.inr (Sum.inl (k0L fr (k0ix ad oq)))))] = _
  rw [e]
theorem k1_WT {ad : Nat → Nat} {fr : Nat → Int64} {oq : Nat} (hin : ∀ i j, i < 85 → j < 85 → ad i = ad j → i = j) (h : ∀ i, i < 85 → ad i ≠ oq) : WT (k1d ad oq) (k1S ad fr oq) := by
  have w := k0_WT (fr := fr) hin
  have m0 : ∀ q, q ∈ k1d ad oq ↔ q ∈ k0d ad ∨ q = (oq, Sum.inr (1, 1)) := fun q => by unfold k1d; simp
  have ml : ∀ (a : Nat) (k : cK), k ≠ Sum.inr (1, 1) → (a, k) ∈ k1d ad oq → (a, k) ∈ k0d ad := fun a k hk hm => by
    rcases (m0 _).mp hm with q | q
    · exact q
    · exact absurd (congrArg Prod.snd q) hk
  have mo : ∀ k, (oq, k) ∉ k0d ad := fun k hm => by
    obtain ⟨i, hi, e, -⟩ := k0mem hm
    exact h i hi e.symm
  refine ⟨rfl, fun f a b hm hs => (m0 _).mpr (Or.inl (w.2.1 f a b (ml a _ (fun z => by cases z) hm) hs)), fun f a hf hm => w.2.2.1 f a hf (ml a _ (fun z => by cases z) hm), fun a i b hm hs => (m0 _).mpr (Or.inl (w.2.2.2.1 a i b (ml a _ (by decide) hm) hs)), fun a i hm hi => ?_, fun a k k2 h1 h2 => ?_⟩
  · obtain ⟨b, e, hb⟩ := w.2.2.2.2.1 a i (ml a _ (by decide) hm) hi
    exact ⟨b, e, (m0 _).mpr (Or.inl hb)⟩
  · rcases (m0 _).mp h1 with q | q <;> rcases (m0 _).mp h2 with q2 | q2
    · exact w.2.2.2.2.2 a k k2 q q2
    · have e9 : a = oq := congrArg Prod.fst q2
      rw [e9] at q; exact absurd q (mo k)
    · have e9 : a = oq := congrArg Prod.fst q
      rw [e9] at q2; exact absurd q2 (mo k2)
    · exact (congrArg Prod.snd q).trans (congrArg Prod.snd q2).symm
theorem P_appL {D : va_G} {cl : List vw_C} {a b : va_W} {H : Heap} (h : va_P D cl (a ++ b) H) : va_P D cl a H := fun k q hq => h k q (by rw [List.getElem?_append_left (List.getElem?_eq_some_iff.mp hq).1]; exact hq)
theorem P_appR {D : va_G} {cl : List vw_C} {a b : va_W} {H : Heap} (h : va_P D cl (a ++ b) H) : va_P D cl b H := fun k q hq => h (a.length + k) q (by rw [List.getElem?_append_right (Nat.le_add_right _ _), Nat.add_sub_cancel_left]; exact hq)
theorem D_appL {A : Nat → Prop} {a b : va_W} (h : va_D A (a ++ b)) : va_D A a := ⟨fun i j p q hp hq e => h.1 i j p q (by rw [List.getElem?_append_left (List.getElem?_eq_some_iff.mp hp).1]; exact hp) (by rw [List.getElem?_append_left (List.getElem?_eq_some_iff.mp hq).1]; exact hq) e, fun k q hq => h.2 k q (by rw [List.getElem?_append_left (List.getElem?_eq_some_iff.mp hq).1]; exact hq)⟩
theorem D_appR {A : Nat → Prop} {a b : va_W} (h : va_D A (a ++ b)) : va_D A b := ⟨fun i j p q hp hq e => by
    have z := h.1 (a.length + i) (a.length + j) p q (by rw [List.getElem?_append_right (Nat.le_add_right _ _), Nat.add_sub_cancel_left]; exact hp) (by rw [List.getElem?_append_right (Nat.le_add_right _ _), Nat.add_sub_cancel_left]; exact hq) e
    omega, fun k q hq => h.2 (a.length + k) q (by rw [List.getElem?_append_right (Nat.le_add_right _ _), Nat.add_sub_cancel_left]; exact hq)⟩
theorem D_apart {A : Nat → Prop} {a b : va_W} (h : va_D A (a ++ b)) : Apart a b := fun i j p q hp hq e => by
  have hi := (List.getElem?_eq_some_iff.mp hp).1
  have z := h.1 i (a.length + j) p q (by rw [List.getElem?_append_left hi]; exact hp) (by rw [List.getElem?_append_right (Nat.le_add_right _ _), Nat.add_sub_cancel_left]; exact hq) e
  omega
theorem D_app {A : Nat → Prop} {a b : va_W} (h1 : va_D A a) (h2 : va_D A b) (hap : Apart a b) : va_D A (a ++ b) := by
  have g : ∀ (k : Nat) (q : Nat × va_E), (a ++ b)[k]? = some q → (k < a.length ∧ a[k]? = some q) ∨ (a.length ≤ k ∧ b[k - a.length]? = some q) := fun k q hq => by
    rcases Nat.lt_or_ge k a.length with z | z
    · rw [List.getElem?_append_left z] at hq; exact Or.inl ⟨z, hq⟩
    · rw [List.getElem?_append_right z] at hq; exact Or.inr ⟨z, hq⟩
  refine ⟨fun i j p q hp hq e => ?_, fun k q hq => ?_⟩
  · rcases g i p hp with ⟨zi, hi⟩ | ⟨zi, hi⟩ <;> rcases g j q hq with ⟨zj, hj⟩ | ⟨zj, hj⟩
    · exact h1.1 i j p q hi hj e
    · exact absurd e (hap i _ p q hi hj)
    · exact absurd e.symm (hap j _ q p hj hi)
    · have z := h2.1 _ _ p q hi hj e
      omega
  · rcases g k q hq with ⟨z, h⟩ | ⟨z, h⟩
    · exact h1.2 k q h
    · exact h2.2 _ q h
