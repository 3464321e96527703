
def fdn (n : Nat) (a b c : Int64) : Nat := min 4000 (n + (fs_n a 8 + fs_n b 8 + fs_n c 8))
/-- what the law asks of the class: n signs on the tape, k calls behind -/
def LawK (x o n0 : Nat) (KI : Nat → Nat → kS → Prop) : Prop := (∀ (n k : Nat) (S : kS), KI n k S → hasO S x 11 ∧ n0 ≤ cnt S ∧ cnt S ≤ n0 + 101000) ∧ (∀ (n k : Nat) (S : kS), KI n k S → KI n (k + 1) S) ∧ (∀ (n k : Nat) (S : kS) (a0 : Int64) (a1 : Int64) (a2 : Int64), k < 512 → KI n k S → wp_X11_feed x a0 a1 a2 S (fun S1 r => KI (fdn n a0 a1 a2) (k + 1) S1 ∧ r = nI (fdn n a0 a1 a2) ∧ cnt S ≤ cnt S1)) ∧ (∀ (n k : Nat) (S : kS), k < 512 → KI n k S → wp_X11_program x S (fun S1 r => KI 0 (k + 1) S1 ∧ cnt S ≤ cnt S1)) ∧ (∀ (n k : Nat) (S : kS) (a0 : Int32), k < 512 → KI n k S → wp_X11_named x a0 S (fun S1 r => KI 0 (k + 1) S1 ∧ cnt S ≤ cnt S1)) ∧ (∀ (n k : Nat) (S : kS) (a0 : Int32) (a1 : Int32), k < 512 → KI n k S → wp_L_routine x a0 a1 o S (fun S1 r => KI n (k + 1) S1 ∧ cnt S ≤ cnt S1)) ∧ (∀ (n k : Nat) (S : kS) (a0 : Int32) (a1 : Int32) (a2 : Int32), k < 512 → KI n k S → wp_X11_live x a0 a1 a2 S (fun S1 r => KI n (k + 1) S1 ∧ cnt S ≤ cnt S1)) ∧ (∀ (n k : Nat) (S : kS) (a0 : Int32) (a1 : Int32) (a2 : Int32), k < 512 → KI n k S → wp_X11_next x a0 a1 a2 S (fun S1 r => KI n (k + 1) S1 ∧ cnt S ≤ cnt S1)) ∧ (∀ (n k : Nat) (S : kS) (a0 : Int32) (a1 : Int32) (a2 : Int32) (a3 : Int32) (a4 : Int32), k < 512 → KI n k S → wp_X11_begin x a0 a1 a2 a3 a4 S (fun S1 r => KI n (k + 1) S1)) ∧ (∀ (n k : Nat) (S : kS) (a0 : Int32), k < 512 → KI n k S → wp_X11_turn x a0 S (fun S1 r => KI n (k + 1) S1)) ∧ (∀ (n k : Nat) (S : kS) (a0 : Int32), k < 512 → KI n k S → wp_X11_rounds x a0 S (fun S1 r => KI n (k + 1) S1)) ∧ (∀ (n k : Nat) (S : kS) (a0 : Int32) (a1 : Int32), k < 512 → KI n k S → wp_X11_letter x a0 a1 S (fun S1 r => KI n (k + 1) S1 ∧ cnt S ≤ cnt S1)) ∧ (∀ (n k : Nat) (S : kS) (a0 : Int32), k < 512 → KI n k S → wp_X11_tick x a0 S (fun S1 r => KI n (k + 1) S1 ∧ cnt S ≤ cnt S1)) ∧ (∀ (n k : Nat) (S : kS) (a0 : Int32), k < 512 → KI n k S → wp_X11_cancel x a0 S (fun S1 r => KI n (k + 1) S1 ∧ cnt S ≤ cnt S1)) ∧ (∀ (n k : Nat) (S : kS) (a0 : Int32) (a1 : Int32), k < 512 → KI n k S → wp_L_task x a0 a1 o S (fun S1 r => KI n (k + 1) S1 ∧ cnt S ≤ cnt S1)) ∧ (∀ (n k : Nat) (S : kS) (a0 : Int32) (a1 : Int32), k < 512 → KI n k S → wp_L_cell x a0 a1 o S (fun S1 r => KI n (k + 1) S1 ∧ cnt S ≤ cnt S1)) ∧ (∀ (n k : Nat) (S : kS) (a0 : Int32), k < 512 → KI n k S → wp_X11_row x a0 S (fun S1 r => KI n (k + 1) S1 ∧ cnt S ≤ cnt S1)) ∧ (∀ (n k : Nat) (S : kS) (a0 : Int32) (a1 : Int32), k < 512 → KI n k S → wp_X11_put x a0 a1 S (fun S1 r => KI n (k + 1) S1 ∧ cnt S ≤ cnt S1)) ∧ (∀ (n k : Nat) (S : kS) (a0 : Int32) (a1 : Int32), k < 512 → KI n k S → wp_X11_lost x a0 a1 S (fun S1 r => KI n (k + 1) S1 ∧ cnt S ≤ cnt S1)) ∧ (∀ (n k : Nat) (S : kS) (a0 : Int32) (a1 : Int32), k < 512 → KI n k S → wp_X11_box x a0 a1 S (fun S1 r => KI n (k + 1) S1 ∧ cnt S ≤ cnt S1)) ∧ (∀ (n k : Nat) (S : kS) (a0 : Int32) (a1 : Int32), k < 512 → KI n k S → wp_X11_stands x a0 a1 S (fun S1 r => KI n (k + 1) S1 ∧ cnt S ≤ cnt S1)) ∧ (∀ (n k : Nat) (S : kS) (a0 : Int32), k < 512 → KI n k S → wp_X11_count x a0 S (fun S1 r => KI n (k + 1) S1 ∧ cnt S ≤ cnt S1))
theorem LawK.has {x o n0 : Nat} {KI : Nat → Nat → kS → Prop} (h : LawK x o n0 KI) : ∀ (n k : Nat) (S : kS), KI n k S → hasO S x 11 ∧ n0 ≤ cnt S ∧ cnt S ≤ n0 + 101000 := h.1
theorem LawK.idle {x o n0 : Nat} {KI : Nat → Nat → kS → Prop} (h : LawK x o n0 KI) : ∀ (n k : Nat) (S : kS), KI n k S → KI n (k + 1) S := h.2.1
theorem LawK.feed {x o n0 : Nat} {KI : Nat → Nat → kS → Prop} (h : LawK x o n0 KI) : ∀ (n k : Nat) (S : kS) (a0 : Int64) (a1 : Int64) (a2 : Int64), k < 512 → KI n k S → wp_X11_feed x a0 a1 a2 S (fun S1 r => KI (fdn n a0 a1 a2) (k + 1) S1 ∧ r = nI (fdn n a0 a1 a2) ∧ cnt S ≤ cnt S1) := h.2.2.1
theorem LawK.program {x o n0 : Nat} {KI : Nat → Nat → kS → Prop} (h : LawK x o n0 KI) : ∀ (n k : Nat) (S : kS), k < 512 → KI n k S → wp_X11_program x S (fun S1 r => KI 0 (k + 1) S1 ∧ cnt S ≤ cnt S1) := h.2.2.2.1
theorem LawK.named {x o n0 : Nat} {KI : Nat → Nat → kS → Prop} (h : LawK x o n0 KI) : ∀ (n k : Nat) (S : kS) (a0 : Int32), k < 512 → KI n k S → wp_X11_named x a0 S (fun S1 r => KI 0 (k + 1) S1 ∧ cnt S ≤ cnt S1) := h.2.2.2.2.1
theorem LawK.routine {x o n0 : Nat} {KI : Nat → Nat → kS → Prop} (h : LawK x o n0 KI) : ∀ (n k : Nat) (S : kS) (a0 : Int32) (a1 : Int32), k < 512 → KI n k S → wp_L_routine x a0 a1 o S (fun S1 r => KI n (k + 1) S1 ∧ cnt S ≤ cnt S1) := h.2.2.2.2.2.1
theorem LawK.live {x o n0 : Nat} {KI : Nat → Nat → kS → Prop} (h : LawK x o n0 KI) : ∀ (n k : Nat) (S : kS) (a0 : Int32) (a1 : Int32) (a2 : Int32), k < 512 → KI n k S → wp_X11_live x a0 a1 a2 S (fun S1 r => KI n (k + 1) S1 ∧ cnt S ≤ cnt S1) := h.2.2.2.2.2.2.1
theorem LawK.next {x o n0 : Nat} {KI : Nat → Nat → kS → Prop} (h : LawK x o n0 KI) : ∀ (n k : Nat) (S : kS) (a0 : Int32) (a1 : Int32) (a2 : Int32), k < 512 → KI n k S → wp_X11_next x a0 a1 a2 S (fun S1 r => KI n (k + 1) S1 ∧ cnt S ≤ cnt S1) := h.2.2.2.2.2.2.2.1
theorem LawK.begin {x o n0 : Nat} {KI : Nat → Nat → kS → Prop} (h : LawK x o n0 KI) : ∀ (n k : Nat) (S : kS) (a0 : Int32) (a1 : Int32) (a2 : Int32) (a3 : Int32) (a4 : Int32), k < 512 → KI n k S → wp_X11_begin x a0 a1 a2 a3 a4 S (fun S1 r => KI n (k + 1) S1) := h.2.2.2.2.2.2.2.2.1
theorem LawK.turn {x o n0 : Nat} {KI : Nat → Nat → kS → Prop} (h : LawK x o n0 KI) : ∀ (n k : Nat) (S : kS) (a0 : Int32), k < 512 → KI n k S → wp_X11_turn x a0 S (fun S1 r => KI n (k + 1) S1) := h.2.2.2.2.2.2.2.2.2.1
theorem LawK.rounds {x o n0 : Nat} {KI : Nat → Nat → kS → Prop} (h : LawK x o n0 KI) : ∀ (n k : Nat) (S : kS) (a0 : Int32), k < 512 → KI n k S → wp_X11_rounds x a0 S (fun S1 r => KI n (k + 1) S1) := h.2.2.2.2.2.2.2.2.2.2.1
theorem LawK.letter {x o n0 : Nat} {KI : Nat → Nat → kS → Prop} (h : LawK x o n0 KI) : ∀ (n k : Nat) (S : kS) (a0 : Int32) (a1 : Int32), k < 512 → KI n k S → wp_X11_letter x a0 a1 S (fun S1 r => KI n (k + 1) S1 ∧ cnt S ≤ cnt S1) := h.2.2.2.2.2.2.2.2.2.2.2.1
theorem LawK.tick {x o n0 : Nat} {KI : Nat → Nat → kS → Prop} (h : LawK x o n0 KI) : ∀ (n k : Nat) (S : kS) (a0 : Int32), k < 512 → KI n k S → wp_X11_tick x a0 S (fun S1 r => KI n (k + 1) S1 ∧ cnt S ≤ cnt S1) := h.2.2.2.2.2.2.2.2.2.2.2.2.1
theorem LawK.cancel {x o n0 : Nat} {KI : Nat → Nat → kS → Prop} (h : LawK x o n0 KI) : ∀ (n k : Nat) (S : kS) (a0 : Int32), k < 512 → KI n k S → wp_X11_cancel x a0 S (fun S1 r => KI n (k + 1) S1 ∧ cnt S ≤ cnt S1) := h.2.2.2.2.2.2.2.2.2.2.2.2.2.1
theorem LawK.task {x o n0 : Nat} {KI : Nat → Nat → kS → Prop} (h : LawK x o n0 KI) : ∀ (n k : Nat) (S : kS) (a0 : Int32) (a1 : Int32), k < 512 → KI n k S → wp_L_task x a0 a1 o S (fun S1 r => KI n (k + 1) S1 ∧ cnt S ≤ cnt S1) := h.2.2.2.2.2.2.2.2.2.2.2.2.2.2.1
theorem LawK.cell {x o n0 : Nat} {KI : Nat → Nat → kS → Prop} (h : LawK x o n0 KI) : ∀ (n k : Nat) (S : kS) (a0 : Int32) (a1 : Int32), k < 512 → KI n k S → wp_L_cell x a0 a1 o S (fun S1 r => KI n (k + 1) S1 ∧ cnt S ≤ cnt S1) := h.2.2.2.2.2.2.2.2.2.2.2.2.2.2.2.1
theorem LawK.row {x o n0 : Nat} {KI : Nat → Nat → kS → Prop} (h : LawK x o n0 KI) : ∀ (n k : Nat) (S : kS) (a0 : Int32), k < 512 → KI n k S → wp_X11_row x a0 S (fun S1 r => KI n (k + 1) S1 ∧ cnt S ≤ cnt S1) := h.2.2.2.2.2.2.2.2.2.2.2.2.2.2.2.2.1
theorem LawK.put {x o n0 : Nat} {KI : Nat → Nat → kS → Prop} (h : LawK x o n0 KI) : ∀ (n k : Nat) (S : kS) (a0 : Int32) (a1 : Int32), k < 512 → KI n k S → wp_X11_put x a0 a1 S (fun S1 r => KI n (k + 1) S1 ∧ cnt S ≤ cnt S1) := h.2.2.2.2.2.2.2.2.2.2.2.2.2.2.2.2.2.1
theorem LawK.lost {x o n0 : Nat} {KI : Nat → Nat → kS → Prop} (h : LawK x o n0 KI) : ∀ (n k : Nat) (S : kS) (a0 : Int32) (a1 : Int32), k < 512 → KI n k S → wp_X11_lost x a0 a1 S (fun S1 r => KI n (k + 1) S1 ∧ cnt S ≤ cnt S1) := h.2.2.2.2.2.2.2.2.2.2.2.2.2.2.2.2.2.2.1
theorem LawK.box {x o n0 : Nat} {KI : Nat → Nat → kS → Prop} (h : LawK x o n0 KI) : ∀ (n k : Nat) (S : kS) (a0 : Int32) (a1 : Int32), k < 512 → KI n k S → wp_X11_box x a0 a1 S (fun S1 r => KI n (k + 1) S1 ∧ cnt S ≤ cnt S1) := h.2.2.2.2.2.2.2.2.2.2.2.2.2.2.2.2.2.2.2.1
theorem LawK.stands {x o n0 : Nat} {KI : Nat → Nat → kS → Prop} (h : LawK x o n0 KI) : ∀ (n k : Nat) (S : kS) (a0 : Int32) (a1 : Int32), k < 512 → KI n k S → wp_X11_stands x a0 a1 S (fun S1 r => KI n (k + 1) S1 ∧ cnt S ≤ cnt S1) := h.2.2.2.2.2.2.2.2.2.2.2.2.2.2.2.2.2.2.2.2.1
theorem LawK.count {x o n0 : Nat} {KI : Nat → Nat → kS → Prop} (h : LawK x o n0 KI) : ∀ (n k : Nat) (S : kS) (a0 : Int32), k < 512 → KI n k S → wp_X11_count x a0 S (fun S1 r => KI n (k + 1) S1 ∧ cnt S ≤ cnt S1) := h.2.2.2.2.2.2.2.2.2.2.2.2.2.2.2.2.2.2.2.2.2
/-- what the law asks of the reference -/
def LawM (MI : Nat → Nat → mS → Prop) : Prop := (∀ (n k : Nat) (M : mS), MI n k M → MI n (k + 1) M) ∧ (∀ (n k : Nat) (M : mS) (a0 : Int64) (a1 : Int64) (a2 : Int64), k < 512 → MI n k M → wp_feed a0 a1 a2 M (fun M1 r => MI (fdn n a0 a1 a2) (k + 1) M1 ∧ r = nI (fdn n a0 a1 a2))) ∧ (∀ (n k : Nat) (M : mS), k < 512 → MI n k M → wp_program M (fun M1 r => MI 0 (k + 1) M1)) ∧ (∀ (n k : Nat) (M : mS) (a0 : Int32), k < 512 → MI n k M → wp_named a0 M (fun M1 r => MI 0 (k + 1) M1)) ∧ (∀ (n k : Nat) (M : mS) (a0 : Int32) (a1 : Int32), k < 512 → MI n k M → wp_routine a0 a1 M (fun M1 r => MI n (k + 1) M1)) ∧ (∀ (n k : Nat) (M : mS) (a0 : Int32) (a1 : Int32) (a2 : Int32), k < 512 → MI n k M → wp_live a0 a1 a2 M (fun M1 r => MI n (k + 1) M1)) ∧ (∀ (n k : Nat) (M : mS) (a0 : Int32) (a1 : Int32) (a2 : Int32), k < 512 → MI n k M → wp_next a0 a1 a2 M (fun M1 r => MI n (k + 1) M1)) ∧ (∀ (n k : Nat) (M : mS) (a0 : Int32) (a1 : Int32) (a2 : Int32) (a3 : Int32) (a4 : Int32), k < 512 → MI n k M → wp_begin a0 a1 a2 a3 a4 M (fun M1 r => MI n (k + 1) M1)) ∧ (∀ (n k : Nat) (M : mS) (a0 : Int32), k < 512 → MI n k M → wp_turn a0 M (fun M1 r => MI n (k + 1) M1)) ∧ (∀ (n k : Nat) (M : mS) (a0 : Int32), k < 512 → MI n k M → wp_rounds a0 M (fun M1 r => MI n (k + 1) M1)) ∧ (∀ (n k : Nat) (M : mS) (a0 : Int32) (a1 : Int32), k < 512 → MI n k M → wp_letter a0 a1 M (fun M1 r => MI n (k + 1) M1)) ∧ (∀ (n k : Nat) (M : mS) (a0 : Int32), k < 512 → MI n k M → wp_tick a0 M (fun M1 r => MI n (k + 1) M1)) ∧ (∀ (n k : Nat) (M : mS) (a0 : Int32), k < 512 → MI n k M → wp_cancel a0 M (fun M1 r => MI n (k + 1) M1)) ∧ (∀ (n k : Nat) (M : mS) (a0 : Int32) (a1 : Int32), k < 512 → MI n k M → wp_task a0 a1 M (fun M1 r => MI n (k + 1) M1)) ∧ (∀ (n k : Nat) (M : mS) (a0 : Int32) (a1 : Int32), k < 512 → MI n k M → wp_cell a0 a1 M (fun M1 r => MI n (k + 1) M1)) ∧ (∀ (n k : Nat) (M : mS) (a0 : Int32), k < 512 → MI n k M → wp_row a0 M (fun M1 r => MI n (k + 1) M1)) ∧ (∀ (n k : Nat) (M : mS) (a0 : Int32) (a1 : Int32), k < 512 → MI n k M → wp_put a0 a1 M (fun M1 r => MI n (k + 1) M1)) ∧ (∀ (n k : Nat) (M : mS) (a0 : Int32) (a1 : Int32), k < 512 → MI n k M → wp_lost a0 a1 M (fun M1 r => MI n (k + 1) M1)) ∧ (∀ (n k : Nat) (M : mS) (a0 : Int32) (a1 : Int32), k < 512 → MI n k M → wp_box a0 a1 M (fun M1 r => MI n (k + 1) M1)) ∧ (∀ (n k : Nat) (M : mS) (a0 : Int32) (a1 : Int32), k < 512 → MI n k M → wp_stands a0 a1 M (fun M1 r => MI n (k + 1) M1)) ∧ (∀ (n k : Nat) (M : mS) (a0 : Int32), k < 512 → MI n k M → wp_count a0 M (fun M1 r => MI n (k + 1) M1))
theorem LawM.idle {MI : Nat → Nat → mS → Prop} (h : LawM MI) : ∀ (n k : Nat) (M : mS), MI n k M → MI n (k + 1) M := h.1
theorem LawM.feed {MI : Nat → Nat → mS → Prop} (h : LawM MI) : ∀ (n k : Nat) (M : mS) (a0 : Int64) (a1 : Int64) (a2 : Int64), k < 512 → MI n k M → wp_feed a0 a1 a2 M (fun M1 r => MI (fdn n a0 a1 a2) (k + 1) M1 ∧ r = nI (fdn n a0 a1 a2)) := h.2.1
theorem LawM.program {MI : Nat → Nat → mS → Prop} (h : LawM MI) : ∀ (n k : Nat) (M : mS), k < 512 → MI n k M → wp_program M (fun M1 r => MI 0 (k + 1) M1) := h.2.2.1
theorem LawM.named {MI : Nat → Nat → mS → Prop} (h : LawM MI) : ∀ (n k : Nat) (M : mS) (a0 : Int32), k < 512 → MI n k M → wp_named a0 M (fun M1 r => MI 0 (k + 1) M1) := h.2.2.2.1
theorem LawM.routine {MI : Nat → Nat → mS → Prop} (h : LawM MI) : ∀ (n k : Nat) (M : mS) (a0 : Int32) (a1 : Int32), k < 512 → MI n k M → wp_routine a0 a1 M (fun M1 r => MI n (k + 1) M1) := h.2.2.2.2.1
theorem LawM.live {MI : Nat → Nat → mS → Prop} (h : LawM MI) : ∀ (n k : Nat) (M : mS) (a0 : Int32) (a1 : Int32) (a2 : Int32), k < 512 → MI n k M → wp_live a0 a1 a2 M (fun M1 r => MI n (k + 1) M1) := h.2.2.2.2.2.1
theorem LawM.next {MI : Nat → Nat → mS → Prop} (h : LawM MI) : ∀ (n k : Nat) (M : mS) (a0 : Int32) (a1 : Int32) (a2 : Int32), k < 512 → MI n k M → wp_next a0 a1 a2 M (fun M1 r => MI n (k + 1) M1) := h.2.2.2.2.2.2.1
theorem LawM.begin {MI : Nat → Nat → mS → Prop} (h : LawM MI) : ∀ (n k : Nat) (M : mS) (a0 : Int32) (a1 : Int32) (a2 : Int32) (a3 : Int32) (a4 : Int32), k < 512 → MI n k M → wp_begin a0 a1 a2 a3 a4 M (fun M1 r => MI n (k + 1) M1) := h.2.2.2.2.2.2.2.1
theorem LawM.turn {MI : Nat → Nat → mS → Prop} (h : LawM MI) : ∀ (n k : Nat) (M : mS) (a0 : Int32), k < 512 → MI n k M → wp_turn a0 M (fun M1 r => MI n (k + 1) M1) := h.2.2.2.2.2.2.2.2.1
theorem LawM.rounds {MI : Nat → Nat → mS → Prop} (h : LawM MI) : ∀ (n k : Nat) (M : mS) (a0 : Int32), k < 512 → MI n k M → wp_rounds a0 M (fun M1 r => MI n (k + 1) M1) := h.2.2.2.2.2.2.2.2.2.1
theorem LawM.letter {MI : Nat → Nat → mS → Prop} (h : LawM MI) : ∀ (n k : Nat) (M : mS) (a0 : Int32) (a1 : Int32), k < 512 → MI n k M → wp_letter a0 a1 M (fun M1 r => MI n (k + 1) M1) := h.2.2.2.2.2.2.2.2.2.2.1
theorem LawM.tick {MI : Nat → Nat → mS → Prop} (h : LawM MI) : ∀ (n k : Nat) (M : mS) (a0 : Int32), k < 512 → MI n k M → wp_tick a0 M (fun M1 r => MI n (k + 1) M1) := h.2.2.2.2.2.2.2.2.2.2.2.1
theorem LawM.cancel {MI : Nat → Nat → mS → Prop} (h : LawM MI) : ∀ (n k : Nat) (M : mS) (a0 : Int32), k < 512 → MI n k M → wp_cancel a0 M (fun M1 r => MI n (k + 1) M1) := h.2.2.2.2.2.2.2.2.2.2.2.2.1
theorem LawM.task {MI : Nat → Nat → mS → Prop} (h : LawM MI) : ∀ (n k : Nat) (M : mS) (a0 : Int32) (a1 : Int32), k < 512 → MI n k M → wp_task a0 a1 M (fun M1 r => MI n (k + 1) M1) := h.2.2.2.2.2.2.2.2.2.2.2.2.2.1
theorem LawM.cell {MI : Nat → Nat → mS → Prop} (h : LawM MI) : ∀ (n k : Nat) (M : mS) (a0 : Int32) (a1 : Int32), k < 512 → MI n k M → wp_cell a0 a1 M (fun M1 r => MI n (k + 1) M1) := h.2.2.2.2.2.2.2.2.2.2.2.2.2.2.1
theorem LawM.row {MI : Nat → Nat → mS → Prop} (h : LawM MI) : ∀ (n k : Nat) (M : mS) (a0 : Int32), k < 512 → MI n k M → wp_row a0 M (fun M1 r => MI n (k + 1) M1) := h.2.2.2.2.2.2.2.2.2.2.2.2.2.2.2.1
theorem LawM.put {MI : Nat → Nat → mS → Prop} (h : LawM MI) : ∀ (n k : Nat) (M : mS) (a0 : Int32) (a1 : Int32), k < 512 → MI n k M → wp_put a0 a1 M (fun M1 r => MI n (k + 1) M1) := h.2.2.2.2.2.2.2.2.2.2.2.2.2.2.2.2.1
theorem LawM.lost {MI : Nat → Nat → mS → Prop} (h : LawM MI) : ∀ (n k : Nat) (M : mS) (a0 : Int32) (a1 : Int32), k < 512 → MI n k M → wp_lost a0 a1 M (fun M1 r => MI n (k + 1) M1) := h.2.2.2.2.2.2.2.2.2.2.2.2.2.2.2.2.2.1
theorem LawM.box {MI : Nat → Nat → mS → Prop} (h : LawM MI) : ∀ (n k : Nat) (M : mS) (a0 : Int32) (a1 : Int32), k < 512 → MI n k M → wp_box a0 a1 M (fun M1 r => MI n (k + 1) M1) := h.2.2.2.2.2.2.2.2.2.2.2.2.2.2.2.2.2.2.1
theorem LawM.stands {MI : Nat → Nat → mS → Prop} (h : LawM MI) : ∀ (n k : Nat) (M : mS) (a0 : Int32) (a1 : Int32), k < 512 → MI n k M → wp_stands a0 a1 M (fun M1 r => MI n (k + 1) M1) := h.2.2.2.2.2.2.2.2.2.2.2.2.2.2.2.2.2.2.2.1
theorem LawM.count {MI : Nat → Nat → mS → Prop} (h : LawM MI) : ∀ (n k : Nat) (M : mS) (a0 : Int32), k < 512 → MI n k M → wp_count a0 M (fun M1 r => MI n (k + 1) M1) := h.2.2.2.2.2.2.2.2.2.2.2.2.2.2.2.2.2.2.2.2
theorem lw_cmp {L j : Nat} (hL : L ≤ 3584) (hj : j ≤ 512) : ((Int32.ofNat L - 7 : Int32) < nI (7 * j)) ↔ L < 7 * j + 7 := by
  have h1 : (Int32.ofNat L).toInt = (L : Int) := nI_toInt (n := L) (by omega)
  have h2 : (nI (7 * j)).toInt = ((7 * j : Nat) : Int) := nI_toInt (by omega)
  have h7 : (7 : Int32).toInt = 7 := by decide
  have h3 := w_sub (z := Int32.ofNat L - 7) rfl (by rw [h1, h7]; omega)
  rw [Int32.lt_iff_toInt_lt, h3, h1, h2, h7]
  omega
set_option maxHeartbeats 4000000 in
set_option maxRecDepth 100000 in
theorem law_loop {p : Program} {l : Launch} {e : Env} {s : State} {m : MethodId} {below : List Frame} {meth : Method} {c : Code} {b L : Nat} {xs : Nat → Int32} {A : Nat → Prop} {E : kE} {Em : mE} {x oq : Nat} (hl9 : l.stackTraces = false) {z : Nat × Nat × Nat} (hV : vZ z A s s.heap) (C0 : lw_At p s m meth c b L xs) (hAeq : A = fun q : Nat => s.heap.size ≤ q) (hL : L ≤ 3584) (hX : kX RL p s m #[Value.ref b] c code 7 E A) (hXm : mXo RL p s m #[Value.ref b] c code 7 Em A) {n0 : Nat} {KI : Nat → Nat → kS → Prop} {MI : Nat → Nat → mS → Prop} (LK : LawK x oq n0 KI) (LM : LawM MI) : ∀ (d j n : Nat) (S : kS) (M : mS) (H : Heap) (locs : List Loc) (ls : Array Slot), L ≤ 7 * j + d → j ≤ 512 → KI n j S → MI n j M → cM E A s.heap S H locs → mC Em A s.heap M H locs → Apart (cW E S) (mW Em M) → lv_has ls 7 [(0, .ref b), (1, .ref x), (2, .ref Em.2.1), (3, .ref oq), (4, .int (nI (7 * j)))] → W p l e room_1 s m #[Value.ref b] below meth c H locs (176 + (cnt S - n0) + j) (1222900 + 20 * (cnt S - n0) + 6 * j) (lw_Z below #[Value.ref b] s) (F0 m 23 ls []) := by
  have C1 := C0
  obtain ⟨hx, hb, hr, hml, hown, hts0, hXs, hbl, hlocks, hgv⟩ := C0
  have hts : ∀ w ∈ tb, w.before _ s = true := fun w h => hts0 w (List.mem_filter.mp h).1
  have hbA : ¬ A b := by rw [hAeq]; exact Nat.not_le.mpr hbl
  intro d
  induction d with
  | zero =>
    intro j n S M H locs ls hd hj hKI hMI hC hCm hap hl
    obtain ⟨ho, hn0, hn1⟩ := LK.has n j S hKI
    refine lv_iload hx hb dL_law_23 (lv_at hl 4 rfl) ?_
    refine lv_aload_n hx hb dL_law_25 rfl (lv_at hl 0 rfl) ?_
    refine va_slen hx hb hXs hbl hbA hC.2.2 dL_law_26 ?_
    refine lv_bipush (v := 7) hx hb dL_law_27 (by decide) ?_
    refine lv_isub hx hb dL_law_29 ?_
    refine lv_icmp_gt (tgt := 953) hx hb dL_law_30 (by decide) (fun c9 => ?_) (fun c9 => ?_)
    · refine lv_iconst (v := 1) hx hb dL_law_953 (by decide) ?_
      refine va_forget (fun q hq => by have h9 := hC.2.2.2.2 q hq; rw [hAeq] at h9; exact h9) ?_
      refine W.widen (k := 601024) (n := 7293034) (by omega) (by omega) ?_
      exact lw_ret hx hb hr hlocks dL_law_954
    · exact absurd ((lw_cmp hL hj).mpr (by omega)) c9
  | succ d ih =>
    intro j n S M H locs ls hd hj hKI hMI hC hCm hap hl
    obtain ⟨ho, hn0, hn1⟩ := LK.has n j S hKI
    refine lv_iload hx hb dL_law_23 (lv_at hl 4 rfl) ?_
    refine lv_aload_n hx hb dL_law_25 rfl (lv_at hl 0 rfl) ?_
    refine va_slen hx hb hXs hbl hbA hC.2.2 dL_law_26 ?_
    refine lv_bipush (v := 7) hx hb dL_law_27 (by decide) ?_
    refine lv_isub hx hb dL_law_29 ?_
    refine lv_icmp_gt (tgt := 953) hx hb dL_law_30 (by decide) (fun c9 => ?_) (fun c9 => ?_)
    · refine lv_iconst (v := 1) hx hb dL_law_953 (by decide) ?_
      refine va_forget (fun q hq => by have h9 := hC.2.2.2.2 q hq; rw [hAeq] at h9; exact h9) ?_
      refine W.widen (k := 601024) (n := 7293034) (by omega) (by omega) ?_
      exact lw_ret hx hb hr hlocks dL_law_954
    have hj7 : 7 * j + 7 ≤ L := by
      rcases Nat.lt_or_ge L (7 * j + 7) with q | q
      · exact absurd ((lw_cmp hL hj).mpr q) c9
      · exact q
    have next : ∀ (n1 : Nat) (S1 : kS) (M1 : mS) (H1 : Heap) (locs1 : List Loc) (ls1 : Array Slot), KI n1 (j + 1) S1 → MI n1 (j + 1) M1 → cM E A s.heap S1 H1 locs1 → mC Em A s.heap M1 H1 locs1 → Apart (cW E S1) (mW Em M1) → lv_has ls1 7 [(0, .ref b), (1, .ref x), (2, .ref Em.2.1), (3, .ref oq), (4, .int (nI (7 * j)))] → W p l e room_1 s m #[Value.ref b] below meth c H1 locs1 (176 + (cnt S1 - n0) + (j + 1)) (1222900 + 20 * (cnt S1 - n0) + 6 * (j + 1)) (lw_Z below #[Value.ref b] s) (F0 m 947 ls1 []) := by
      intro n1 S1 M1 H1 locs1 ls1 hK1 hM1 hC1 hCm1 hap1 hl1
      have e7 : nI (7 * j) + Int32.ofInt 7 = nI (7 * (j + 1)) := nI_add (7 * j) 7
      refine lv_iinc (v := nI (7 * (j + 1))) (lv' := [(4, .int (nI (7 * (j + 1)))), (0, .ref b), (1, .ref x), (2, .ref Em.2.1), (3, .ref oq)]) hx hb dL_law_947 hl1 (k := 4) rfl e7 (by decide) rfl (fun ls2 hl2 => ?_)
      refine lv_goto (tgt := 23) hx hb dL_law_950 (by decide) ?_
      exact ih (j + 1) n1 S1 M1 H1 locs1 ls2 (by omega) (by omega) hK1 hM1 hC1 hCm1 hap1 (lv_sub hl2 [1, 2, 3, 4, 0] rfl)
    refine lv_aload_n hx hb dL_law_33 rfl (lv_at hl 0 rfl) ?_
    refine lv_iload hx hb dL_law_34 (lv_at hl 4 rfl) ?_
    refine lw_ld (k := 7 * j) hx hb hXs hbl hbA hC.2.2 rfl (by omega) hL dL_law_36 ?_
    refine lv_bipush (v := 31) hx hb dL_law_37 (by decide) ?_
    refine lv_iand hx hb dL_law_39 ?_
    refine lv_topi (fun zz ezz => ?_)
    rcases Decidable.em (zz = 0) with c0 | c0
    · rw [c0]
      refine lv_tableIn (tgt := 136) hx hb dL_law_40 (by decide) (by decide) rfl (by decide) ?_
      exact lo_feed C1 hbA hL hj7 hX hXm hC hCm hap hl ⟨by omega, by omega⟩ ho (LK.feed n j S _ _ _ (by omega) hKI) (LM.feed n j M _ _ _ (by omega) hMI) (fun S1 M1 r r1 h1 h2 => h1.2.1.trans h2.2.symm) (fun S1 M1 r r1 H1 locs1 ls1 hp hp1 hC1 hCm1 hap1 hl1 => W.widen (k := 176 + (cnt S1 - n0) + (j + 1)) (n := 1222900 + 20 * (cnt S1 - n0) + 6 * (j + 1)) (by have q := hp.2.2; omega) (by have q := hp.2.2; omega) (next _ S1 M1 H1 locs1 ls1 hp.1 hp1.1 hC1 hCm1 hap1 hl1))
    rcases Decidable.em (zz = 1) with c1 | c1
    · rw [c1]
      refine lv_tableIn (tgt := 283) hx hb dL_law_40 (by decide) (by decide) rfl (by decide) ?_
      exact lo_program C1 hbA hL hj7 hX hXm hC hCm hap hl ⟨by omega, by omega⟩ ho (LK.program n j S (by omega) hKI) (LM.program n j M (by omega) hMI) (fun S1 M1 r r1 H1 locs1 ls1 hp hp1 hC1 hCm1 hap1 hl1 => W.widen (k := 176 + (cnt S1 - n0) + (j + 1)) (n := 1222900 + 20 * (cnt S1 - n0) + 6 * (j + 1)) (by have q := hp.2; omega) (by have q := hp.2; omega) (next _ S1 M1 H1 locs1 ls1 hp.1 hp1 hC1 hCm1 hap1 hl1))
    rcases Decidable.em (zz = 2) with c2 | c2
    · rw [c2]
      refine lv_tableIn (tgt := 296) hx hb dL_law_40 (by decide) (by decide) rfl (by decide) ?_
      exact lo_named C1 hbA hL hj7 hX hXm hC hCm hap hl ⟨by omega, by omega⟩ ho (LK.named n j S _ (by omega) hKI) (LM.named n j M _ (by omega) hMI) (fun S1 M1 r r1 H1 locs1 ls1 hp hp1 hC1 hCm1 hap1 hl1 => W.widen (k := 176 + (cnt S1 - n0) + (j + 1)) (n := 1222900 + 20 * (cnt S1 - n0) + 6 * (j + 1)) (by have q := hp.2; omega) (by have q := hp.2; omega) (next _ S1 M1 H1 locs1 ls1 hp.1 hp1 hC1 hCm1 hap1 hl1))
    rcases Decidable.em (zz = 3) with c3 | c3
    · rw [c3]
      refine lv_tableIn (tgt := 321) hx hb dL_law_40 (by decide) (by decide) rfl (by decide) ?_
      exact lo_routine hl9 hV C1 hbA hL hj7 hX hXm hC hCm hap hl ⟨by omega, by omega⟩ ho (LK.routine n j S _ _ (by omega) hKI) (LM.routine n j M _ _ (by omega) hMI) (fun S1 M1 r r1 H1 locs1 ls1 hp hp1 hC1 hCm1 hap1 hl1 => W.widen (k := 176 + (cnt S1 - n0) + (j + 1)) (n := 1222900 + 20 * (cnt S1 - n0) + 6 * (j + 1)) (by have q := hp.2; omega) (by have q := hp.2; omega) (next _ S1 M1 H1 locs1 ls1 hp.1 hp1 hC1 hCm1 hap1 hl1))
    rcases Decidable.em (zz = 4) with c4 | c4
    · rw [c4]
      refine lv_tableIn (tgt := 361) hx hb dL_law_40 (by decide) (by decide) rfl (by decide) ?_
      exact lo_live C1 hbA hL hj7 hX hXm hC hCm hap hl ⟨by omega, by omega⟩ ho (LK.live n j S _ _ _ (by omega) hKI) (LM.live n j M _ _ _ (by omega) hMI) (fun S1 M1 r r1 H1 locs1 ls1 hp hp1 hC1 hCm1 hap1 hl1 => W.widen (k := 176 + (cnt S1 - n0) + (j + 1)) (n := 1222900 + 20 * (cnt S1 - n0) + 6 * (j + 1)) (by have q := hp.2; omega) (by have q := hp.2; omega) (next _ S1 M1 H1 locs1 ls1 hp.1 hp1 hC1 hCm1 hap1 hl1))
    rcases Decidable.em (zz = 5) with c5 | c5
    · rw [c5]
      refine lv_tableIn (tgt := 410) hx hb dL_law_40 (by decide) (by decide) rfl (by decide) ?_
      exact lo_next C1 hbA hL hj7 hX hXm hC hCm hap hl ⟨by omega, by omega⟩ ho (LK.next n j S _ _ _ (by omega) hKI) (LM.next n j M _ _ _ (by omega) hMI) (fun S1 M1 r r1 H1 locs1 ls1 hp hp1 hC1 hCm1 hap1 hl1 => W.widen (k := 176 + (cnt S1 - n0) + (j + 1)) (n := 1222900 + 20 * (cnt S1 - n0) + 6 * (j + 1)) (by have q := hp.2; omega) (by have q := hp.2; omega) (next _ S1 M1 H1 locs1 ls1 hp.1 hp1 hC1 hCm1 hap1 hl1))
    rcases Decidable.em (zz = 6) with c6 | c6
    · rw [c6]
      refine lv_tableIn (tgt := 459) hx hb dL_law_40 (by decide) (by decide) rfl (by decide) ?_
      exact lo_begin C1 hbA hL hj7 hX hXm hC hCm hap hl ⟨by omega, by omega⟩ ho (LK.begin n j S _ _ _ _ _ (by omega) hKI) (LM.begin n j M _ _ _ _ _ (by omega) hMI) (fun S1 M1 r r1 H1 locs1 ls1 hp hp1 hn1 hn2 hC1 hCm1 hap1 hl1 => W.widen (k := 176 + (cnt S1 - n0) + (j + 1)) (n := 1222900 + 20 * (cnt S1 - n0) + 6 * (j + 1)) (by omega) (by omega) (next _ S1 M1 H1 locs1 ls1 hp hp1 hC1 hCm1 hap1 hl1))
    rcases Decidable.em (zz = 7) with c7 | c7
    · rw [c7]
      refine lv_tableIn (tgt := 532) hx hb dL_law_40 (by decide) (by decide) rfl (by decide) ?_
      exact lo_turn C1 hbA hL hj7 hX hXm hC hCm hap hl ⟨by omega, by omega⟩ ho (LK.turn n j S _ (by omega) hKI) (LM.turn n j M _ (by omega) hMI) (fun S1 M1 r r1 H1 locs1 ls1 hp hp1 hn1 hn2 hC1 hCm1 hap1 hl1 => W.widen (k := 176 + (cnt S1 - n0) + (j + 1)) (n := 1222900 + 20 * (cnt S1 - n0) + 6 * (j + 1)) (by omega) (by omega) (next _ S1 M1 H1 locs1 ls1 hp hp1 hC1 hCm1 hap1 hl1))
    rcases Decidable.em (zz = 8) with c8 | c8
    · rw [c8]
      refine lv_tableIn (tgt := 557) hx hb dL_law_40 (by decide) (by decide) rfl (by decide) ?_
      exact lo_rounds C1 hbA hL hj7 hX hXm hC hCm hap hl ⟨by omega, by omega⟩ ho (LK.rounds n j S _ (by omega) hKI) (LM.rounds n j M _ (by omega) hMI) (fun S1 M1 r r1 H1 locs1 ls1 hp hp1 hn1 hn2 hC1 hCm1 hap1 hl1 => W.widen (k := 176 + (cnt S1 - n0) + (j + 1)) (n := 1222900 + 20 * (cnt S1 - n0) + 6 * (j + 1)) (by omega) (by omega) (next _ S1 M1 H1 locs1 ls1 hp hp1 hC1 hCm1 hap1 hl1))
    rcases Decidable.em (zz = 9) with c9 | c9
    · rw [c9]
      refine lv_tableIn (tgt := 582) hx hb dL_law_40 (by decide) (by decide) rfl (by decide) ?_
      exact lo_letter C1 hbA hL hj7 hX hXm hC hCm hap hl ⟨by omega, by omega⟩ ho (LK.letter n j S _ _ (by omega) hKI) (LM.letter n j M _ _ (by omega) hMI) (fun S1 M1 r r1 H1 locs1 ls1 hp hp1 hC1 hCm1 hap1 hl1 => W.widen (k := 176 + (cnt S1 - n0) + (j + 1)) (n := 1222900 + 20 * (cnt S1 - n0) + 6 * (j + 1)) (by have q := hp.2; omega) (by have q := hp.2; omega) (next _ S1 M1 H1 locs1 ls1 hp.1 hp1 hC1 hCm1 hap1 hl1))
    rcases Decidable.em (zz = 10) with c10 | c10
    · rw [c10]
      refine lv_tableIn (tgt := 619) hx hb dL_law_40 (by decide) (by decide) rfl (by decide) ?_
      exact lo_tick C1 hbA hL hj7 hX hXm hC hCm hap hl ⟨by omega, by omega⟩ ho (LK.tick n j S _ (by omega) hKI) (LM.tick n j M _ (by omega) hMI) (fun S1 M1 r r1 H1 locs1 ls1 hp hp1 hC1 hCm1 hap1 hl1 => W.widen (k := 176 + (cnt S1 - n0) + (j + 1)) (n := 1222900 + 20 * (cnt S1 - n0) + 6 * (j + 1)) (by have q := hp.2; omega) (by have q := hp.2; omega) (next _ S1 M1 H1 locs1 ls1 hp.1 hp1 hC1 hCm1 hap1 hl1))
    rcases Decidable.em (zz = 11) with c11 | c11
    · rw [c11]
      refine lv_tableIn (tgt := 644) hx hb dL_law_40 (by decide) (by decide) rfl (by decide) ?_
      exact lo_cancel C1 hbA hL hj7 hX hXm hC hCm hap hl ⟨by omega, by omega⟩ ho (LK.cancel n j S _ (by omega) hKI) (LM.cancel n j M _ (by omega) hMI) (fun S1 M1 r r1 H1 locs1 ls1 hp hp1 hC1 hCm1 hap1 hl1 => W.widen (k := 176 + (cnt S1 - n0) + (j + 1)) (n := 1222900 + 20 * (cnt S1 - n0) + 6 * (j + 1)) (by have q := hp.2; omega) (by have q := hp.2; omega) (next _ S1 M1 H1 locs1 ls1 hp.1 hp1 hC1 hCm1 hap1 hl1))
    rcases Decidable.em (zz = 12) with c12 | c12
    · rw [c12]
      refine lv_tableIn (tgt := 669) hx hb dL_law_40 (by decide) (by decide) rfl (by decide) ?_
      exact lo_task hl9 hV C1 hbA hL hj7 hX hXm hC hCm hap hl ⟨by omega, by omega⟩ ho (LK.task n j S _ _ (by omega) hKI) (LM.task n j M _ _ (by omega) hMI) (fun S1 M1 r r1 H1 locs1 ls1 hp hp1 hC1 hCm1 hap1 hl1 => W.widen (k := 176 + (cnt S1 - n0) + (j + 1)) (n := 1222900 + 20 * (cnt S1 - n0) + 6 * (j + 1)) (by have q := hp.2; omega) (by have q := hp.2; omega) (next _ S1 M1 H1 locs1 ls1 hp.1 hp1 hC1 hCm1 hap1 hl1))
    rcases Decidable.em (zz = 13) with c13 | c13
    · rw [c13]
      refine lv_tableIn (tgt := 709) hx hb dL_law_40 (by decide) (by decide) rfl (by decide) ?_
      exact lo_cell hl9 hV C1 hbA hL hj7 hX hXm hC hCm hap hl ⟨by omega, by omega⟩ ho (LK.cell n j S _ _ (by omega) hKI) (LM.cell n j M _ _ (by omega) hMI) (fun S1 M1 r r1 H1 locs1 ls1 hp hp1 hC1 hCm1 hap1 hl1 => W.widen (k := 176 + (cnt S1 - n0) + (j + 1)) (n := 1222900 + 20 * (cnt S1 - n0) + 6 * (j + 1)) (by have q := hp.2; omega) (by have q := hp.2; omega) (next _ S1 M1 H1 locs1 ls1 hp.1 hp1 hC1 hCm1 hap1 hl1))
    rcases Decidable.em (zz = 14) with c14 | c14
    · rw [c14]
      refine lv_tableIn (tgt := 749) hx hb dL_law_40 (by decide) (by decide) rfl (by decide) ?_
      exact lo_row C1 hbA hL hj7 hX hXm hC hCm hap hl ⟨by omega, by omega⟩ ho (LK.row n j S _ (by omega) hKI) (LM.row n j M _ (by omega) hMI) (fun S1 M1 r r1 H1 locs1 ls1 hp hp1 hC1 hCm1 hap1 hl1 => W.widen (k := 176 + (cnt S1 - n0) + (j + 1)) (n := 1222900 + 20 * (cnt S1 - n0) + 6 * (j + 1)) (by have q := hp.2; omega) (by have q := hp.2; omega) (next _ S1 M1 H1 locs1 ls1 hp.1 hp1 hC1 hCm1 hap1 hl1))
    rcases Decidable.em (zz = 15) with c15 | c15
    · rw [c15]
      refine lv_tableIn (tgt := 774) hx hb dL_law_40 (by decide) (by decide) rfl (by decide) ?_
      exact lo_put C1 hbA hL hj7 hX hXm hC hCm hap hl ⟨by omega, by omega⟩ ho (LK.put n j S _ _ (by omega) hKI) (LM.put n j M _ _ (by omega) hMI) (fun S1 M1 r r1 H1 locs1 ls1 hp hp1 hC1 hCm1 hap1 hl1 => W.widen (k := 176 + (cnt S1 - n0) + (j + 1)) (n := 1222900 + 20 * (cnt S1 - n0) + 6 * (j + 1)) (by have q := hp.2; omega) (by have q := hp.2; omega) (next _ S1 M1 H1 locs1 ls1 hp.1 hp1 hC1 hCm1 hap1 hl1))
    rcases Decidable.em (zz = 16) with c16 | c16
    · rw [c16]
      refine lv_tableIn (tgt := 811) hx hb dL_law_40 (by decide) (by decide) rfl (by decide) ?_
      exact lo_lost C1 hbA hL hj7 hX hXm hC hCm hap hl ⟨by omega, by omega⟩ ho (LK.lost n j S _ _ (by omega) hKI) (LM.lost n j M _ _ (by omega) hMI) (fun S1 M1 r r1 H1 locs1 ls1 hp hp1 hC1 hCm1 hap1 hl1 => W.widen (k := 176 + (cnt S1 - n0) + (j + 1)) (n := 1222900 + 20 * (cnt S1 - n0) + 6 * (j + 1)) (by have q := hp.2; omega) (by have q := hp.2; omega) (next _ S1 M1 H1 locs1 ls1 hp.1 hp1 hC1 hCm1 hap1 hl1))
    rcases Decidable.em (zz = 17) with c17 | c17
    · rw [c17]
      refine lv_tableIn (tgt := 848) hx hb dL_law_40 (by decide) (by decide) rfl (by decide) ?_
      exact lo_box C1 hbA hL hj7 hX hXm hC hCm hap hl ⟨by omega, by omega⟩ ho (LK.box n j S _ _ (by omega) hKI) (LM.box n j M _ _ (by omega) hMI) (fun S1 M1 r r1 H1 locs1 ls1 hp hp1 hC1 hCm1 hap1 hl1 => W.widen (k := 176 + (cnt S1 - n0) + (j + 1)) (n := 1222900 + 20 * (cnt S1 - n0) + 6 * (j + 1)) (by have q := hp.2; omega) (by have q := hp.2; omega) (next _ S1 M1 H1 locs1 ls1 hp.1 hp1 hC1 hCm1 hap1 hl1))
    rcases Decidable.em (zz = 18) with c18 | c18
    · rw [c18]
      refine lv_tableIn (tgt := 885) hx hb dL_law_40 (by decide) (by decide) rfl (by decide) ?_
      exact lo_stands C1 hbA hL hj7 hX hXm hC hCm hap hl ⟨by omega, by omega⟩ ho (LK.stands n j S _ _ (by omega) hKI) (LM.stands n j M _ _ (by omega) hMI) (fun S1 M1 r r1 H1 locs1 ls1 hp hp1 hC1 hCm1 hap1 hl1 => W.widen (k := 176 + (cnt S1 - n0) + (j + 1)) (n := 1222900 + 20 * (cnt S1 - n0) + 6 * (j + 1)) (by have q := hp.2; omega) (by have q := hp.2; omega) (next _ S1 M1 H1 locs1 ls1 hp.1 hp1 hC1 hCm1 hap1 hl1))
    rcases Decidable.em (zz = 19) with c19 | c19
    · rw [c19]
      refine lv_tableIn (tgt := 922) hx hb dL_law_40 (by decide) (by decide) rfl (by decide) ?_
      exact lo_count C1 hbA hL hj7 hX hXm hC hCm hap hl ⟨by omega, by omega⟩ ho (LK.count n j S _ (by omega) hKI) (LM.count n j M _ (by omega) hMI) (fun S1 M1 r r1 H1 locs1 ls1 hp hp1 hC1 hCm1 hap1 hl1 => W.widen (k := 176 + (cnt S1 - n0) + (j + 1)) (n := 1222900 + 20 * (cnt S1 - n0) + 6 * (j + 1)) (by have q := hp.2; omega) (by have q := hp.2; omega) (next _ S1 M1 H1 locs1 ls1 hp.1 hp1 hC1 hCm1 hap1 hl1))
    refine lv_tableOut (tgt := 947) hx hb dL_law_40 (by have nc0 := lv_neT c0 (show (0 : Int32).toInt = 0 by decide); have nc1 := lv_neT c1 (show (1 : Int32).toInt = 1 by decide); have nc2 := lv_neT c2 (show (2 : Int32).toInt = 2 by decide); have nc3 := lv_neT c3 (show (3 : Int32).toInt = 3 by decide); have nc4 := lv_neT c4 (show (4 : Int32).toInt = 4 by decide); have nc5 := lv_neT c5 (show (5 : Int32).toInt = 5 by decide); have nc6 := lv_neT c6 (show (6 : Int32).toInt = 6 by decide); have nc7 := lv_neT c7 (show (7 : Int32).toInt = 7 by decide); have nc8 := lv_neT c8 (show (8 : Int32).toInt = 8 by decide); have nc9 := lv_neT c9 (show (9 : Int32).toInt = 9 by decide); have nc10 := lv_neT c10 (show (10 : Int32).toInt = 10 by decide); have nc11 := lv_neT c11 (show (11 : Int32).toInt = 11 by decide); have nc12 := lv_neT c12 (show (12 : Int32).toInt = 12 by decide); have nc13 := lv_neT c13 (show (13 : Int32).toInt = 13 by decide); have nc14 := lv_neT c14 (show (14 : Int32).toInt = 14 by decide); have nc15 := lv_neT c15 (show (15 : Int32).toInt = 15 by decide); have nc16 := lv_neT c16 (show (16 : Int32).toInt = 16 by decide); have nc17 := lv_neT c17 (show (17 : Int32).toInt = 17 by decide); have nc18 := lv_neT c18 (show (18 : Int32).toInt = 18 by decide); have nc19 := lv_neT c19 (show (19 : Int32).toInt = 19 by decide); omega) (by decide) ?_
    refine W.widen (k := 176 + (cnt S - n0) + (j + 1)) (n := 1222900 + 20 * (cnt S - n0) + 6 * (j + 1)) (by omega) (by omega) ?_
    exact next n S M H locs ls (LK.idle n j S hKI) (LM.idle n j M hMI) hC hCm hap hl
