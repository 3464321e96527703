
def fu (f : Nat → Option Nat) (a : Nat) (v : Option Nat) : Nat → Option Nat := fun i => if i = a then v else f i
theorem fu_at {f : Nat → Option Nat} {a : Nat} {v : Option Nat} : fu f a v a = v := if_pos rfl
theorem fu_ne {f : Nat → Option Nat} {a i : Nat} {v : Option Nat} (h : i ≠ a) : fu f a v i = f i := if_neg h
def hdo : List Nat → Option Nat → Option Nat
  | [], x => x
  | p :: _, _ => some p
def lso : List Nat → Option Nat → Option Nat
  | [], x => x
  | p :: r, _ => lso r (some p)
theorem hdo_app {l1 l2 : List Nat} {x : Option Nat} : hdo (l1 ++ l2) x = hdo l1 (hdo l2 x) := by
  cases l1 <;> rfl
theorem lso_app : ∀ {l1 l2 : List Nat} {x : Option Nat}, lso (l1 ++ l2) x = lso l2 (lso l1 x)
  | [], _, _ => rfl
  | p :: r, l2, x => by
    show lso (r ++ l2) (some p) = lso l2 (lso r (some p))
    exact lso_app
theorem sno (l : List Nat) : l = [] ∨ ∃ r a, l = r ++ [a] := by
  rcases List.eq_nil_or_concat l with e | ⟨r, a, e⟩
  · exact Or.inl e
  · exact Or.inr ⟨r, a, by rw [e, List.concat_eq_append]⟩
theorem hdo_none {l : List Nat} (h : hdo l none = none) : l = [] := by
  cases l with
  | nil => rfl
  | cons p r =>
    have h : some p = none := h
    cases h
theorem hdo_some {l : List Nat} {b : Nat} (h : hdo l none = some b) : ∃ r, l = b :: r := by
  cases l with
  | nil =>
    have h : none = some b := h
    cases h
  | cons p r =>
    have e : p = b := Option.some.inj h
    exact ⟨r, by rw [e]⟩
theorem lso_some : ∀ {l : List Nat} {x : Nat}, ∃ y, lso l (some x) = some y
  | [], x => ⟨x, rfl⟩
  | _ :: r, _ => lso_some (l := r)
theorem lso_end {l : List Nat} {a : Nat} (h : lso l none = some a) : ∃ r, l = r ++ [a] := by
  rcases sno l with e | ⟨r, q, e⟩
  · rw [e] at h
    have h : none = some a := h
    cases h
  · rw [e, lso_app] at h
    have e2 : q = a := Option.some.inj h
    exact ⟨r, by rw [e, e2]⟩
theorem lso_nil {l : List Nat} (h : lso l none = none) : l = [] := by
  cases l with
  | nil => rfl
  | cons p r =>
    obtain ⟨y, e⟩ := lso_some (l := r) (x := p)
    have h : lso r (some p) = none := h
    rw [e] at h
    cases h
/-- a stretch of a doubly linked list: pr lies ahead of it, nx behind it -/
def DL (ah be : Nat → Option Nat) : Option Nat → List Nat → Option Nat → Prop
  | _, [], _ => True
  | pr, p :: r, nx => ah p = pr ∧ be p = hdo r nx ∧ DL ah be (some p) r nx
theorem DL_app {ah be : Nat → Option Nat} : ∀ {l1 l2 : List Nat} {pr nx : Option Nat}, DL ah be pr (l1 ++ l2) nx ↔ DL ah be pr l1 (hdo l2 nx) ∧ DL ah be (lso l1 pr) l2 nx
  | [], _, _, _ => ⟨fun h => ⟨trivial, h⟩, fun h => h.2⟩
  | p :: r, l2, pr, nx => by
    show (ah p = pr ∧ be p = hdo (r ++ l2) nx ∧ DL ah be (some p) (r ++ l2) nx) ↔ (ah p = pr ∧ be p = hdo r (hdo l2 nx) ∧ DL ah be (some p) r (hdo l2 nx)) ∧ DL ah be (lso r (some p)) l2 nx
    rw [hdo_app]
    exact ⟨fun h => ⟨⟨h.1, h.2.1, (DL_app.mp h.2.2).1⟩, (DL_app.mp h.2.2).2⟩, fun h => ⟨h.1.1, h.1.2.1, DL_app.mpr ⟨h.1.2.2, h.2⟩⟩⟩
theorem DL_eq {ah be ah2 be2 : Nat → Option Nat} : ∀ {l : List Nat} {pr nx : Option Nat}, (∀ p, p ∈ l → ah2 p = ah p ∧ be2 p = be p) → DL ah be pr l nx → DL ah2 be2 pr l nx
  | [], _, _, _, _ => trivial
  | p :: r, _, _, h, d => ⟨(h p (List.mem_cons_self ..)).1.trans d.1, (h p (List.mem_cons_self ..)).2.trans d.2.1, DL_eq (fun q hq => h q (List.mem_cons_of_mem _ hq)) d.2.2⟩
/-- the one behind is another now -/
theorem DL_nx {ah be : Nat → Option Nat} {l : List Nat} {pr nx nx2 : Option Nat} {q : Nat} (h : DL ah be pr (l ++ [q]) nx) (hq : q ∉ l) : DL ah (fu be q nx2) pr (l ++ [q]) nx2 := by
  have h1 := DL_app.mp h
  refine DL_app.mpr ⟨DL_eq (fun p hp => ⟨rfl, fu_ne (fun e => hq (e ▸ hp))⟩) h1.1, h1.2.1, fu_at, trivial⟩
/-- the one ahead is another now -/
theorem DL_pr {ah be : Nat → Option Nat} {l : List Nat} {pr pr2 nx : Option Nat} {q : Nat} (h : DL ah be pr (q :: l) nx) (hq : q ∉ l) : DL (fu ah q pr2) be pr2 (q :: l) nx :=
  ⟨fu_at, h.2.1, DL_eq (fun p hp => ⟨fu_ne (fun e => hq (e ▸ hp)), rfl⟩) h.2.2⟩
theorem DL_fu {ah be : Nat → Option Nat} {l : List Nat} {pr nx v w : Option Nat} {q : Nat} (h : DL ah be pr l nx) (hq : q ∉ l) : DL (fu ah q v) (fu be q w) pr l nx := DL_eq (fun _ hp => ⟨fu_ne (fun e => hq (e ▸ hp)), fu_ne (fun e => hq (e ▸ hp))⟩) h
theorem DL_fa {ah be : Nat → Option Nat} {l : List Nat} {pr nx v : Option Nat} {q : Nat} (h : DL ah be pr l nx) (hq : q ∉ l) : DL (fu ah q v) be pr l nx := DL_eq (fun _ hp => ⟨fu_ne (fun e => hq (e ▸ hp)), rfl⟩) h
theorem DL_fb {ah be : Nat → Option Nat} {l : List Nat} {pr nx w : Option Nat} {q : Nat} (h : DL ah be pr l nx) (hq : q ∉ l) : DL ah (fu be q w) pr l nx := DL_eq (fun _ hp => ⟨rfl, fu_ne (fun e => hq (e ▸ hp))⟩) h
/-- what remove writes -/
def rmB (ah be : Nat → Option Nat) (p : Nat) : Nat → Option Nat := match ah p with
  | none => be
  | some a => fu be a (be p)
def rmA (ah be : Nat → Option Nat) (p : Nat) : Nat → Option Nat := match be p with
  | none => ah
  | some b => fu ah b (ah p)
theorem DL_rm {ah be : Nat → Option Nat} {l1 l2 : List Nat} {p : Nat} (h : DL ah be none (l1 ++ p :: l2) none) (hn : (l1 ++ p :: l2).Nodup) : DL (rmA ah be p) (rmB ah be p) none (l1 ++ l2) none ∧ ah p = lso l1 none ∧ be p = hdo l2 none := by
  have h1 := DL_app.mp h
  have ea : ah p = lso l1 none := h1.2.1
  have eb : be p = hdo l2 none := h1.2.2.1
  have d1 : DL ah be none l1 (some p) := h1.1
  have d2 : DL ah be (some p) l2 none := h1.2.2.2
  have hn2 := List.nodup_append.mp hn
  have n1 : l1.Nodup := hn2.1
  have n2 : l2.Nodup := (List.nodup_cons.mp hn2.2.1).2
  have n12 : ∀ a, a ∈ l1 → ∀ b, b ∈ l2 → a ≠ b := fun a ha b hb => hn2.2.2 a ha b (List.mem_cons_of_mem _ hb)
  refine ⟨?_, ea, eb⟩
  -- the front
  have f1 : DL (rmA ah be p) (rmB ah be p) none l1 (hdo l2 none) := by
    have g1 : DL ah (rmB ah be p) none l1 (hdo l2 none) := by
      unfold rmB
      rcases sno l1 with e | ⟨r, a, e⟩
      · rw [e]; trivial
      · have e3 : ah p = some a := by rw [ea, e, lso_app]; rfl
        rw [e3, eb]
        rw [e] at d1 n1 ⊢
        have n3 := List.nodup_append.mp n1
        exact DL_nx d1 (fun q => n3.2.2 a q a (List.mem_cons_self ..) rfl)
    unfold rmA
    cases hb : be p with
    | none => exact g1
    | some b =>
      obtain ⟨r, e⟩ := hdo_some (eb.symm.trans hb)
      exact DL_fa g1 (fun q => n12 b q b (by rw [e]; exact List.mem_cons_self ..) rfl)
  have f2 : DL (rmA ah be p) (rmB ah be p) (lso l1 none) l2 none := by
    have g1 : DL (rmA ah be p) be (lso l1 none) l2 none := by
      unfold rmA
      cases l2 with
      | nil => trivial
      | cons b r =>
        have e3 : be p = some b := eb
        rw [e3, ea]
        exact DL_pr d2 (List.nodup_cons.mp n2).1
    unfold rmB
    cases ha : ah p with
    | none => exact g1
    | some a =>
      obtain ⟨r, e⟩ := lso_end (ea.symm.trans ha)
      exact DL_fb g1 (fun q => n12 a (by rw [e]; exact List.mem_append_right _ (List.mem_cons_self ..)) a q rfl)
  exact DL_app.mpr ⟨f1, f2⟩
/-- what add writes: p comes between l1 and l2 -/
def adB (be : Nat → Option Nat) (f : Option Nat) (p : Nat) : Nat → Option Nat := match f with
  | none => be
  | some a => fu be a (some p)
def adA (ah : Nat → Option Nat) (b : Option Nat) (p : Nat) : Nat → Option Nat := match b with
  | none => ah
  | some c => fu ah c (some p)
theorem DL_ad {ah be : Nat → Option Nat} {l1 l2 : List Nat} {p : Nat} (h : DL ah be none (l1 ++ l2) none) (hn : (l1 ++ l2).Nodup) (hp : p ∉ l1 ++ l2) : DL (adA (fu ah p (lso l1 none)) (hdo l2 none) p) (adB (fu be p (hdo l2 none)) (lso l1 none) p) none (l1 ++ p :: l2) none := by
  have hn2 := List.nodup_append.mp hn
  have p1 : p ∉ l1 := fun q => hp (List.mem_append_left _ q)
  have p2 : p ∉ l2 := fun q => hp (List.mem_append_right _ q)
  have h1 := DL_app.mp h
  have d1 : DL (fu ah p (lso l1 none)) (fu be p (hdo l2 none)) none l1 (hdo l2 none) := DL_fu h1.1 p1
  have d2 : DL (fu ah p (lso l1 none)) (fu be p (hdo l2 none)) (lso l1 none) l2 none := DL_fu h1.2 p2
  have f1 : DL (adA (fu ah p (lso l1 none)) (hdo l2 none) p) (adB (fu be p (hdo l2 none)) (lso l1 none) p) none l1 (some p) := by
    have g1 : DL (fu ah p (lso l1 none)) (adB (fu be p (hdo l2 none)) (lso l1 none) p) none l1 (some p) := by
      rcases sno l1 with e | ⟨r, a, e⟩
      · rw [e]; trivial
      · have e3 : lso l1 none = some a := by rw [e, lso_app]; rfl
        have n1 := hn2.1
        rw [e] at n1
        have n3 := List.nodup_append.mp n1
        rw [e3] at d1 ⊢
        unfold adB
        rw [e] at d1 ⊢
        exact DL_nx d1 (fun q => n3.2.2 a q a (List.mem_cons_self ..) rfl)
    unfold adA
    cases hb : hdo l2 none with
    | none => rw [hb] at g1; exact g1
    | some b =>
      rw [hb] at g1
      obtain ⟨r, e⟩ := hdo_some hb
      exact DL_fa g1 (fun q => hn2.2.2 b q b (by rw [e]; exact List.mem_cons_self ..) rfl)
  have f2 : DL (adA (fu ah p (lso l1 none)) (hdo l2 none) p) (adB (fu be p (hdo l2 none)) (lso l1 none) p) (some p) l2 none := by
    have g1 : DL (adA (fu ah p (lso l1 none)) (hdo l2 none) p) (fu be p (hdo l2 none)) (some p) l2 none := by
      cases l2 with
      | nil => trivial
      | cons b r => exact DL_pr d2 (List.nodup_cons.mp hn2.2.1).1
    unfold adB
    cases ha : lso l1 none with
    | none => rw [ha] at g1; exact g1
    | some a =>
      rw [ha] at g1
      obtain ⟨r, e⟩ := lso_end ha
      exact DL_fb g1 (fun q => hn2.2.2 a (by rw [e]; exact List.mem_append_right _ (List.mem_cons_self ..)) a q rfl)
  have ap : adA (fu ah p (lso l1 none)) (hdo l2 none) p p = lso l1 none := by
    unfold adA
    cases hb : hdo l2 none with
    | none => exact fu_at
    | some b =>
      obtain ⟨r, e⟩ := hdo_some hb
      exact (fu_ne (fun q => p2 (by rw [e, q]; exact List.mem_cons_self ..))).trans fu_at
  have bp : adB (fu be p (hdo l2 none)) (lso l1 none) p p = hdo l2 none := by
    unfold adB
    cases ha : lso l1 none with
    | none => exact fu_at
    | some a =>
      obtain ⟨r, e⟩ := lso_end ha
      exact (fu_ne (fun q => p1 (by rw [e, q]; exact List.mem_append_right _ (List.mem_cons_self ..)))).trans fu_at
  exact DL_app.mpr ⟨f1, ap, bp, f2⟩
/-- a chain over one field: f leads from the head through l to nothing -/
def CH (f : Nat → Option Nat) : Option Nat → List Nat → Prop
  | x, [] => x = none
  | x, p :: r => x = some p ∧ CH f (f p) r
theorem CH_eq {f g : Nat → Option Nat} : ∀ {l : List Nat} {x : Option Nat}, (∀ p, p ∈ l → g p = f p) → CH f x l → CH g x l
  | [], _, _, h => h
  | p :: r, _, e, h => ⟨h.1, by rw [e p (List.mem_cons_self ..)]; exact CH_eq (fun q hq => e q (List.mem_cons_of_mem _ hq)) h.2⟩
theorem CH_fu {f : Nat → Option Nat} {l : List Nat} {x v : Option Nat} {q : Nat} (h : CH f x l) (hq : q ∉ l) : CH (fu f q v) x l := CH_eq (fun _ hp => fu_ne (fun e => hq (e ▸ hp))) h
theorem CH_push {f : Nat → Option Nat} {l : List Nat} {x : Option Nat} {q : Nat} (h : CH f x l) (hq : q ∉ l) : CH (fu f q x) (some q) (q :: l) := ⟨rfl, by rw [fu_at]; exact CH_fu h hq⟩
theorem CH_nil {f : Nat → Option Nat} {l : List Nat} (h : CH f none l) : l = [] := by
  cases l with
  | nil => rfl
  | cons p r =>
    have q := h.1
    cases q
theorem CH_cons {f : Nat → Option Nat} {l : List Nat} {p : Nat} (h : CH f (some p) l) : ∃ r, l = p :: r ∧ CH f (f p) r := by
  cases l with
  | nil =>
    have q : some p = none := h
    cases q
  | cons q r =>
    have e : p = q := Option.some.inj h.1
    exact ⟨r, by rw [e], by rw [e]; exact h.2⟩
