
theorem tb_l {w : Cond} (i : Nat) (h : tables_1[i]? = some w) : w ∈ lw_tbl := List.mem_append_right _ (List.mem_of_getElem? h)
def bs_29 : List Int32 := [114, 111, 117, 116, 105, 110, 101, 32, 119, 97, 105, 116, 32, 112, 117, 116, 32, 105, 102, 32, 101, 108, 115, 101, 32, 119, 104, 105, 108, 101, 32, 98, 114, 101, 97, 107, 32, 99, 111, 110, 116, 105, 110, 117, 101, 32, 114, 101, 116, 117, 114, 110, 32, 102, 97, 105, 108, 32, 116, 114, 121, 32, 111, 110, 32, 102, 105, 110, 105, 115, 104, 32, 108, 101, 116, 116, 101, 114, 32, 116, 105, 99, 107, 32, 121, 105, 101, 108, 100, 32, 99, 104, 105, 108, 100, 32, 98, 111, 116, 104, 32, 102, 105, 114, 115, 116, 32, 119, 105, 116, 104, 105, 110, 32, 99, 108, 111, 99, 107]
def bs_34 : List Int32 := [114, 111, 117, 116, 105, 110, 101, 32, 119, 97, 105, 116, 32, 112, 117, 116, 32, 105, 102, 32, 101, 108, 115, 101, 32, 119, 104, 105, 108, 101, 32, 98, 114, 101, 97, 107, 32, 99, 111, 110, 116, 105, 110, 117, 101, 32, 114, 101, 116, 117, 114, 110, 32, 102, 97, 105, 108, 32, 116, 114, 121, 32, 111, 110, 32, 102, 105, 110, 105, 115, 104, 32, 108, 101, 116, 116, 101, 114, 32, 116, 105, 99, 107, 32, 121, 105, 101, 108, 100, 32, 99, 104, 105, 108, 100, 32, 98, 111, 116, 104, 32, 102, 105, 114, 115, 116, 32, 119, 105, 116, 104, 105, 110, 32, 99, 108, 111, 99, 107, 32]
theorem th_sp : ∀ k, k ≤ 120 → sx_sp bs_34 k ≤ 21 := by decide +kernel
set_option maxRecDepth 100000 in
theorem lw_s29 {args : Array Value} {s : State} {A : Nat → Prop} (h : (Jvm.Cond.and given_1 narrow_1).before args s = true) (hAn : ∀ a : Nat, a < s.heap.size → ¬ A a) : ∃ a v : Nat, sx_F a v 119 bs_29 A s s.heap ∧ (Term.string "Sleepers$Tokens" 29).eval args s none [] s = some (.ref a) := by
  have hs := flat_of_before _ h
  obtain ⟨ad, av, hST, hET⟩ := vk_Sof (args := args) (s := s) (N := 1) (tm := fun _ => .string "Sleepers$Tokens" 29) (len := [119]) (byt := [bs_29]) (A := A) (by decide) (fun i hi => hs _ (by revert i hi; decide +kernel)) (fun i hi => hs _ (by revert i hi; decide +kernel)) (fun i hi => hs _ (by revert i hi; decide +kernel)) (fun i hi => hs _ (by revert i hi; decide +kernel)) (fun i hi j hj => hs _ (by revert j hj; revert i hi; decide +kernel)) (fun i j hi hj hij => absurd (by omega) hij) hAn
  exact ⟨ad 0, av 0, hST.1 0 (by decide), hET 0 (by decide)⟩
set_option maxRecDepth 100000 in
theorem lw_s34 {args : Array Value} {s : State} {A : Nat → Prop} (h : (Jvm.Cond.and given_1 narrow_1).before args s = true) (hAn : ∀ a : Nat, a < s.heap.size → ¬ A a) : ∃ a v : Nat, sx_F a v 120 bs_34 A s s.heap ∧ (Term.string "SleepersModel" 34).eval args s none [] s = some (.ref a) := by
  have hs := flat_of_before _ h
  obtain ⟨ad, av, hST, hET⟩ := vk_Sof (args := args) (s := s) (N := 1) (tm := fun _ => .string "SleepersModel" 34) (len := [120]) (byt := [bs_34]) (A := A) (by decide) (fun i hi => hs _ (by revert i hi; decide +kernel)) (fun i hi => hs _ (by revert i hi; decide +kernel)) (fun i hi => hs _ (by revert i hi; decide +kernel)) (fun i hi => hs _ (by revert i hi; decide +kernel)) (fun i hi j hj => hs _ (by revert j hj; revert i hi; decide +kernel)) (fun i j hi hj hij => absurd (by omega) hij) hAn
  exact ⟨ad 0, av 0, hST.1 0 (by decide), hET 0 (by decide)⟩
theorem lw_ref {args : Array Value} {s : State} {t : Term} (h : (Cond.exactly t "java/lang/String").before args s = true) : ∃ a : Nat, t.eval args s none [] s = some (.ref a) := by
  obtain ⟨a, c, cA, kA, q1, -⟩ := Cond.exactly_spec (args := args) (first := s) (o := none) (s := s) (idx := []) (t := t) (cls := "java/lang/String") h
  exact ⟨a, q1⟩
