abbrev vwCl : List vw_C := [(RX0, TX0, 3), (RX1, TX1, 15), (RX2, TX2, 2), (RX3, TX3, 13), (RX4, TX4, 12), (RX5, TX5, 14), (RX6, TX6, 8), (RX7, TX7, 12), (RX8, TX8, 5), (RX9, TX9, 20), (RX10, TX10, 7), (RX11, TX11, 7), (RX12, TX12, 128)]
def tb : List Cond := lw_tbl.filter goodWord
theorem tb_in {w : Cond} (h1 : w ∈ lw_tbl) (h2 : goodWord w = true) : w ∈ tb := List.mem_filter.mpr ⟨h1, h2⟩
theorem tb_at {w : Cond} (i : Nat) (h1 : tables_1[i]? = some w) (h2 : goodWord w = true) : w ∈ tb := tb_in (List.mem_append_right _ (List.mem_of_getElem? h1)) h2
theorem tb_good {w : Cond} (h : w ∈ tb) : w ∈ tb ∧ ((w.onTables && w.keeps) = true ∨ ∃ ty, w = .arrayClass ty) := ⟨h, good_of_word (List.mem_filter.mp h).2⟩
theorem gd_c {c1 : Cond} (h : c1 ∈ tb) : GoodIn tb (c1 :: tb) := fun w hw => by
  rcases List.mem_cons.mp hw with rfl | hw
  · exact tb_good h
  · exact tb_good hw
theorem gd_V {own C : String} {idx : Nat} {y : MethodName} {c1 : Cond} (h1 : Cond.methodLink own idx y ∈ tb) (h2 : Cond.instanceMethod y ∈ tb) (h3 : Cond.selects C y y ∈ tb) (h4 : Cond.initialized C ∈ tb) (h5 : c1 ∈ tb) : GoodIn tb (wsV own idx C y (c1 :: tb)) := fun w hw => by
  rcases List.mem_append.mp hw with hw | hw
  · simp only [List.mem_cons, List.not_mem_nil, or_false] at hw
    rcases hw with rfl | rfl | rfl | rfl
    · exact tb_good h1
    · exact tb_good h2
    · exact tb_good h3
    · exact tb_good h4
  · exact gd_c h5 w hw
theorem gd_S {own : String} {idx : Nat} {y : MethodName} {c1 : Cond} (h1 : Cond.methodLink own idx y ∈ tb) (h2 : Cond.static y ∈ tb) (h4 : Cond.initialized own ∈ tb) (h5 : c1 ∈ tb) : GoodIn tb (wsS own idx y (c1 :: tb)) := fun w hw => by
  rcases List.mem_append.mp hw with hw | hw
  · simp only [List.mem_cons, List.not_mem_nil, or_false] at hw
    rcases hw with rfl | rfl | rfl
    · exact tb_good h1
    · exact tb_good h2
    · exact tb_good h4
  · exact gd_c h5 w hw
theorem in_of {ws : List Cond} (ps : List Nat) (hp : ws = ps.filterMap (fun i => tables_1[i]?)) (hg : ws.all goodWord = true) : ∀ w ∈ ws, w ∈ tb := by
  intro w hw
  have h1 := List.all_eq_true.mp hg w hw
  rw [hp] at hw
  obtain ⟨i, -, hi⟩ := List.mem_filterMap.mp hw
  exact tb_at i hi h1
theorem sl_of {y : MethodName} {n : Nat} (h : (y, n) ∈ lw_privs) (hg : goodWord (Cond.selects y.cls y y) = true) : Cond.selects y.cls y y ∈ tb := tb_in (List.mem_append_left _ (List.mem_map.mpr ⟨(y, n), h, rfl⟩)) hg
theorem px_in (i : Int32) (n : Nat) (h : decide (¬ (i < 0 ∨ n ≤ i.toNatClampNeg)) = true) : vp_in i n := (of_decide_eq_true h : ¬ (i < 0 ∨ n ≤ i.toNatClampNeg))
theorem px_inb {b N : Int32} {n : Nat} (hN : N.toInt = n) (h0 : ¬ b < 0) (h1 : ¬ N ≤ b) : vp_in b n := by
  rw [vp_in_iff]
  rw [Int32.lt_iff_toInt_lt] at h0
  rw [Int32.le_iff_toInt_le] at h1
  have : (0 : Int32).toInt = 0 := rfl
  omega
theorem px_inc {b N : Int32} {n : Nat} (hN : N.toInt = n) (h0 : ¬ b < 0) (h1 : b < N) : vp_in b n := px_inb hN h0 (Int32.not_le.mpr h1)
theorem px_8 {b : Int32} (h : vp_in b 8) : b = 0 ∨ b = 1 ∨ b = 2 ∨ b = 3 ∨ b = 4 ∨ b = 5 ∨ b = 6 ∨ b = 7 := by
  obtain ⟨j, hj, rfl⟩ := vp_in_of h (by decide)
  match j, hj with
  | 0, _ => exact Or.inl rfl
  | 1, _ => exact Or.inr (Or.inl rfl)
  | 2, _ => exact Or.inr (Or.inr (Or.inl rfl))
  | 3, _ => exact Or.inr (Or.inr (Or.inr (Or.inl rfl)))
  | 4, _ => exact Or.inr (Or.inr (Or.inr (Or.inr (Or.inl rfl))))
  | 5, _ => exact Or.inr (Or.inr (Or.inr (Or.inr (Or.inr (Or.inl rfl)))))
  | 6, _ => exact Or.inr (Or.inr (Or.inr (Or.inr (Or.inr (Or.inr (Or.inl rfl))))))
  | 7, _ => exact Or.inr (Or.inr (Or.inr (Or.inr (Or.inr (Or.inr (Or.inr rfl))))))
theorem px_le7 {b : Int32} (h : b ≤ 7) : b < 8 := by
  rw [Int32.le_iff_toInt_le] at h
  rw [Int32.lt_iff_toInt_lt]
  have h1 : (7 : Int32).toInt = 7 := rfl
  have h2 : (8 : Int32).toInt = 8 := rfl
  omega
theorem px_gt7 {b : Int32} (h : ¬ b ≤ 7) : ¬ b < 8 := fun q => by
  rw [Int32.le_iff_toInt_le] at h
  rw [Int32.lt_iff_toInt_lt] at q
  have h1 : (7 : Int32).toInt = 7 := rfl
  have h2 : (8 : Int32).toInt = 8 := rfl
  omega
theorem px_dead {P : Prop} (h : False) : P := h.elim
theorem up_z {k : Nat} : upd (fun _ => 0) k 0 = fun _ => 0 := by funext j; unfold upd; split <;> rfl
theorem up_zL {k : Nat} : vp_updL (fun _ => 0) k 0 = fun _ => 0 := by funext j; unfold vp_updL; split <;> rfl
/-- an answer that is null -/
def qn_Q (B : Unit → State → Prop) (A : Nat → Prop) : Array Value → State → Outcome → State → Prop := fun _ st oc t => (oc = .returned (some .null) ∧ B () t) ∧ va_F A st t
theorem qn_call {p : Program} {l : Launch} {e : Env} {R : Room} {s : State} {m : MethodId} {args : Array Value} {below : List Frame} {meth : Method} {c : Code} {H : Heap} {locs : List Loc} {cells slots : Nat} {Q : State → Prop} {pc : Nat} {ls : Array Slot} {rest st0 : List Value} {a : Array Value} {A0 A1 : Nat → Prop} {H0 : Heap} {mc ms : Nat} {free : Addr → Prop} {B : Unit → State → Prop} (hr : va_Run p l e R s m args below meth c H locs cells slots mc ms (F0 m pc ls st0) rest (qn_Q B A1 a) free) (hS : va_S A0 H0 H locs) (hA : ∀ q, q < H.size → A1 q → A0 q) (hf : ∀ q, free q → A0 q)
    (kk : ∀ (t : State) (H1 : Heap) (locs1 : List Loc), t.heap = H1 → s.vm.Alike t.vm → B () t → H.size ≤ H1.size → (∀ q : Nat, q < H.size → ¬ A1 q → H1[q]? = H[q]?) → va_S A0 H0 H1 locs1 → W p l e R s m args below meth c H1 locs1 (cells + mc) (slots + ms) Q (F0 m (pc + 3) ls (.null :: rest))) : W p l e R s m args below meth c H locs cells slots Q (F0 m pc ls st0) := by
  intro T hT X
  obtain ⟨v, st₀, t, T', L, h0, X', hL, e1, e2, ⟨⟨hv, hb⟩, hz, hk⟩, st⟩ := hr T hT X
  cases hv
  rw [h0] at hz hk
  obtain ⟨t2, a1, b1⟩ := kk t T'.heap (locs ++ L) e1.symm (by rw [← e2]; exact X'.warmed.alike) hb (by rw [e1]; exact hz) (fun q h1 h2 => by rw [e1]; exact hk q h1 h2)
    ⟨Nat.le_trans hS.1 (by rw [e1]; exact hz), fun q h1 h2 => by rw [e1, hk q (Nat.lt_of_lt_of_le h1 hS.1) (fun z => h2 (hA q (Nat.lt_of_lt_of_le h1 hS.1) z))]; exact hS.2.1 q h1 h2, fun q hq => by
      rcases List.mem_append.mp hq with h | h
      · exact hS.2.2 q h
      · exact hf _ (hL q h)⟩ T' rfl X'
  exact ⟨t2, st t2 a1, b1⟩
theorem in_X0 : ∀ w ∈ u_ws RX0 TX0 3, w ∈ tb := in_of [226, 228, 230] (by decide +kernel) (by decide +kernel)
theorem df_X0 : ∀ j, j < 3 → defaultValue (tyX0 j) = vp_V [.int 0, .null, .null] j := by decide +kernel
theorem in_X1 : ∀ w ∈ u_ws RX1 TX1 15, w ∈ tb := in_of [262, 264, 266, 268, 270, 272, 274, 276, 278, 280, 282, 284, 286, 288, 290] (by decide +kernel) (by decide +kernel)
theorem df_X1 : ∀ j, j < 15 → defaultValue (tyX1 j) = vp_V [.null, .null, .int 0, .int 0, .null, .int 0, .int 0, .null, .null, .null, .null, .null, .null, .int 0, .null] j := by decide +kernel
theorem in_X2 : ∀ w ∈ u_ws RX2 TX2 2, w ∈ tb := in_of [211, 213] (by decide +kernel) (by decide +kernel)
theorem df_X2 : ∀ j, j < 2 → defaultValue (tyX2 j) = vp_V [.null, .null] j := by decide +kernel
theorem in_X3 : ∀ w ∈ u_ws RX3 TX3 13, w ∈ tb := in_of [144, 146, 148, 150, 152, 154, 156, 158, 160, 162, 164, 166, 168] (by decide +kernel) (by decide +kernel)
theorem df_X3 : ∀ j, j < 13 → defaultValue (tyX3 j) = vp_V [.null, .null, .null, .int 0, .int 0, .int 0, .int 0, .int 0, .int 0, .null, .null, .null, .null] j := by decide +kernel
theorem in_X4 : ∀ w ∈ u_ws RX4 TX4 12, w ∈ tb := in_of [1084, 1086, 1088, 1090, 1092, 1094, 1096, 1098, 1100, 1102, 1104, 1106] (by decide +kernel) (by decide +kernel)
theorem df_X4 : ∀ j, j < 12 → defaultValue (tyX4 j) = vp_V [.null, .int 0, .int 0, .int 0, .int 0, .int 0, .null, .null, .null, .null, .null, .null] j := by decide +kernel
theorem in_X5 : ∀ w ∈ u_ws RX5 TX5 14, w ∈ tb := in_of [433, 435, 437, 439, 441, 443, 445, 447, 449, 451, 453, 455, 457, 459] (by decide +kernel) (by decide +kernel)
theorem df_X5 : ∀ j, j < 14 → defaultValue (tyX5 j) = vp_V [.int 0, .null, .null, .null, .null, .int 0, .null, .null, .null, .null, .null, .null, .null, .null] j := by decide +kernel
theorem in_X6 : ∀ w ∈ u_ws RX6 TX6 8, w ∈ tb := in_of [312, 314, 316, 318, 320, 322, 324, 326] (by decide +kernel) (by decide +kernel)
theorem df_X6 : ∀ j, j < 8 → defaultValue (tyX6 j) = vp_V [.int 0, .int 0, .null, .null, .null, .int 0, .int 0, .int 0] j := by decide +kernel
theorem in_X7 : ∀ w ∈ u_ws RX7 TX7 12, w ∈ tb := in_of [370, 372, 374, 376, 378, 380, 382, 384, 386, 388, 390, 392] (by decide +kernel) (by decide +kernel)
theorem df_X7 : ∀ j, j < 12 → defaultValue (tyX7 j) = vp_V [.int 0, .null, .null, .null, .null, .null, .null, .null, .int 0, .null, .null, .null] j := by decide +kernel
theorem in_X8 : ∀ w ∈ u_ws RX8 TX8 5, w ∈ tb := in_of [182, 184, 186, 188, 190] (by decide +kernel) (by decide +kernel)
theorem df_X8 : ∀ j, j < 5 → defaultValue (tyX8 j) = vp_V [.null, .null, .int 0, .int 0, .null] j := by decide +kernel
theorem in_X9 : ∀ w ∈ u_ws RX9 TX9 20, w ∈ tb := in_of [908, 910, 912, 914, 916, 918, 920, 922, 924, 926, 928, 930, 932, 934, 936, 938, 940, 942, 944, 946] (by decide +kernel) (by decide +kernel)
theorem df_X9 : ∀ j, j < 20 → defaultValue (tyX9 j) = vp_V [.int 0, .int 0, .null, .null, .int 0, .int 0, .int 0, .int 0, .int 0, .int 0, .int 0, .null, .null, .null, .null, .null, .null, .int 0, .int 0, .int 0] j := by decide +kernel
theorem in_X10 : ∀ w ∈ u_ws RX10 TX10 7, w ∈ tb := in_of [106, 108, 110, 112, 114, 116, 118] (by decide +kernel) (by decide +kernel)
theorem df_X10 : ∀ j, j < 7 → defaultValue (tyX10 j) = vp_V [.null, .null, .null, .int 0, .int 0, .null, .null] j := by decide +kernel
theorem in_X11 : ∀ w ∈ u_ws RX11 TX11 7, w ∈ tb := in_of [485, 487, 489, 491, 493, 495, 497] (by decide +kernel) (by decide +kernel)
theorem df_X11 : ∀ j, j < 7 → defaultValue (tyX11 j) = vp_V [.null, .null, .null, .null, .null, .null, .null] j := by decide +kernel
theorem in_X12 : ∀ w ∈ u_ws RX12 TX12 128, w ∈ tb := in_of [1528, 1530, 1532, 1534, 1536, 1538, 1540, 1542, 1544, 1546, 1548, 1550, 1552, 1554, 1556, 1558, 1560, 1562, 1564, 1566, 1568, 1570, 1572, 1574, 1576, 1578, 1580, 1582, 1584, 1586, 1588, 1590, 1592, 1594, 1596, 1598, 1600, 1602, 1604, 1606, 1608, 1610, 1612, 1614, 1616, 1618, 1620, 1622, 1624, 1626, 1628, 1630, 1632, 1634, 1636, 1638, 1640, 1642, 1644, 1646, 1648, 1650, 1652, 1654, 1656, 1658, 1660, 1662, 1664, 1666, 1668, 1670, 1672, 1674, 1676, 1678, 1680, 1682, 1684, 1686, 1688, 1690, 1692, 1694, 1696, 1698, 1700, 1702, 1704, 1706, 1708, 1710, 1712, 1714, 1716, 1718, 1720, 1722, 1724, 1726, 1728, 1730, 1732, 1734, 1736, 1738, 1740, 1742, 1744, 1746, 1748, 1750, 1752, 1754, 1756, 1758, 1760, 1762, 1764, 1766, 1768, 1770, 1772, 1774, 1776, 1778, 1780, 1782] (by decide +kernel) (by decide +kernel)
theorem df_X12 : ∀ j, j < 128 → defaultValue (tyX12 j) = vp_V [.int 0, .null, .int 0, .int 0, .null, .null, .null, .int 0, .int 0, .null, .null, .int 0, .int 0, .null, .null, .null, .null, .null, .null, .null, .null, .null, .null, .int 0, .null, .null, .null, .null, .null, .null, .null, .int 0, .null, .null, .null, .int 0, .null, .null, .null, .null, .null, .null, .null, .null, .null, .null, .null, .null, .null, .null, .null, .int 0, .null, .null, .null, .null, .null, .null, .null, .null, .null, .int 0, .int 0, .int 0, .int 0, .int 0, .int 0, .int 0, .int 0, .int 0, .int 0, .null, .null, .int 0, .int 0, .null, .null, .null, .null, .null, .null, .null, .null, .null, .null, .null, .null, .null, .null, .null, .null, .null, .null, .null, .null, .null, .null, .null, .int 0, .int 0, .int 0, .int 0, .int 0, .null, .null, .int 0, .null, .null, .null, .null, .int 0, .null, .null, .null, .null, .null, .null, .null, .null, .int 0, .null, .int 0, .int 0, .int 0, .int 0, .int 0, .int 0, .int 0] j := by decide +kernel
theorem wd_obj : Cond.code objectInit ⟨#[0xb1]⟩ 1 none ∈ tb := tb_at 31 (by decide +kernel) (by decide +kernel)
