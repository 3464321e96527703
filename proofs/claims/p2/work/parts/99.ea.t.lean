
theorem tx1 (x y : Int32) (h : 0 ≤ x.toInt) (h2 : x.toInt < 100) (e : y = x + 1) : y.toInt = x.toInt + 1 := by grind
theorem tx2 (x : Int32) (h : ¬ 12 ≤ x) : x.toInt < 12 := by grind
theorem tx3 (x : Int32) (h : ¬ 12 ≤ x) : x < 13 := by grind
theorem tx3b (x y : Int32) (h : 0 ≤ x) (h2 : x < 100) (e : y = x + 1) : y ≤ 100 := by grind
theorem tx4 {S : mS} (h : S.1 3 = 5) : (sZ S 4 7).1 3 = 5 := by grind [sZ, upd]
theorem tx5 (a : Int32) {S : mS} (h : 0 ≤ (S.1 23).toInt ∧ (S.1 23).toInt ≤ 200) : wp_row a S (fun S1 _ => S1 = sZ S 0 0) := by
  unfold wp_row
  grind [inR, sZ, upd]
theorem tx5b (a : Int32) {S : mS} (h : 0 ≤ S.1 23 ∧ S.1 23 ≤ 200) : wp_row a S (fun S1 _ => S1 = sZ S 0 0) := by
  unfold wp_row
  grind [inR, sZ, upd]
theorem tx6 (x y z : Int32) (h : 0 ≤ x ∧ x < 8) (h1 : 0 ≤ y ∧ y < 50) (e : z = 50 * x) (w : Int32) (e2 : w = z + y) : 0 ≤ w ∧ w < 400 := by grind
theorem tx6b (x y z : Int32) (h : 0 ≤ x.toInt ∧ x.toInt < 8) (h1 : 0 ≤ y.toInt ∧ y.toInt < 50) (e : z = 50 * x) (w : Int32) (e2 : w = z + y) : 0 ≤ w.toInt ∧ w.toInt < 400 := by grind
theorem tx7 (a b : Int32) {S : mS} (h : ∀ i, i < 8 → 0 ≤ (S.2.1 78 i).toInt ∧ (S.2.1 78 i).toInt ≤ 50) : wp_box a b S (fun S1 _ => S1 = sZ S 0 0) := by
  unfold wp_box
  grind [inR, ix, sZ, upd]
theorem tx8 (a : Int32) {S : mS} (h : 0 ≤ (S.1 31).toInt ∧ (S.1 31).toInt < 4000) : wp_push a S (fun S1 => (S1.1 31).toInt = (S.1 31).toInt + 1) := by
  unfold wp_push
  grind [inR, ix, sZ, sF, upd]
theorem tx9 {S : mS} (h : 0 ≤ (S.1 26).toInt ∧ (S.1 26).toInt ≤ 3000 ∧ 0 ≤ (S.1 25).toInt ∧ (S.1 25).toInt ≤ 100000) : wp_step S (fun S1 _ => 0 ≤ (S1.1 26).toInt ∧ (S1.1 26).toInt ≤ 3000 ∧ 0 ≤ (S1.1 25).toInt ∧ (S1.1 25).toInt ≤ 100000) := by
  unfold wp_step
  grind [inR, ix, sZ, sF, upd]
theorem tx10 {S : mS} (h : 1 ≤ (S.1 31).toInt ∧ (S.1 31).toInt < 4000) : wp_pop S (fun S1 _ => (S1.1 31).toInt = (S.1 31).toInt - 1) := by
  unfold wp_pop
  grind [inR, ix, sZ, sF, upd]
theorem tx11 (c : Int32) {S : mS} {n : Nat} (h : PF n S) : wp_takeSign c S (fun S1 => PF n S1) := by
  unfold wp_takeSign wp_isSign wp_wrong
  grind [inR, ix, sZ, sF, upd, PF, LX]
