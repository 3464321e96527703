
def fs_b (v : Int64) (j : Nat) : Int32 := (v.toUInt64 >>> ((nI (8 * j)).toInt64.toUInt64 &&& Int64.toUInt64 63)).toInt64.toInt32 &&& 255
def fs_c (v : Int64) (j : Nat) : Int32 := (v >>> ((nI (8 * j)).toInt64 &&& 63)).toInt32 &&& 255
def fs_ok (c : Int32) : Bool := decide (c = 10) || (!decide (c < 32) && !decide (126 < c))
def fs_n (v : Int64) : Nat → Nat
  | 0 => 0
  | j + 1 => fs_n v j + (fs_ok (fs_b v j)).toNat
theorem fs_y1 {c : Int32} (h : c = 10) : (fs_ok c).toNat = 1 := by simp [fs_ok, h]
theorem fs_y2 {c : Int32} (h1 : ¬ c < 32) (h2 : ¬ 126 < c) : (fs_ok c).toNat = 1 := by simp only [fs_ok, h1, h2]; simp
theorem fs_n1 {c : Int32} (h : ¬ c = 10) (h1 : c < 32) : (fs_ok c).toNat = 0 := by simp only [fs_ok, h, h1]; simp
theorem fs_n2 {c : Int32} (h : ¬ c = 10) (h1 : 126 < c) : (fs_ok c).toNat = 0 := by simp only [fs_ok, h, h1]; simp
theorem fs_le (v : Int64) : ∀ j, fs_n v j ≤ j
  | 0 => Nat.le_refl 0
  | j + 1 => by
    have h := fs_le v j
    have h2 : (fs_ok (fs_b v j)).toNat ≤ 1 := Bool.toNat_le _
    show fs_n v j + _ ≤ j + 1
    omega
theorem fs_sh (j : Nat) (h : j < 8) : nI (8 * (j + 1)) - 8 = nI (8 * j) := by
  match j, h with
  | 0, _ => rfl
  | 1, _ => rfl
  | 2, _ => rfl
  | 3, _ => rfl
  | 4, _ => rfl
  | 5, _ => rfl
  | 6, _ => rfl
  | 7, _ => rfl
theorem fs_m8 {j : Nat} : nI (8 * j) + -8 = nI (8 * j) - 8 := by rw [Int32.sub_eq_add_neg]
theorem fs_neg : (nI (8 * 0) - 8 : Int32) < 0 := by decide
theorem fs_bc (v : Int64) {j : Nat} (h : j < 8) : fs_b v j = fs_c v j := by
  have key : ∀ k : Nat, k ≤ 56 → ∀ (s1 : UInt64) (s2 : Int64), s1.toBitVec.toNat % 64 = k → (s2.toBitVec.smod 64).toNat = k → (v.toUInt64 >>> s1).toInt64.toInt32 &&& 255 = (v >>> s2).toInt32 &&& 255 := by
    intro k hk s1 s2 h1 h2
    apply Int32.toBitVec_inj.mp
    rw [Int32.toBitVec_and, Int32.toBitVec_and, Int64.toBitVec_toInt32, Int64.toBitVec_toInt32, Int64.toBitVec_shiftRight]
    apply BitVec.eq_of_getLsbD_eq
    intro i hi
    have e255 : (255 : Int32).toBitVec = 255#32 := rfl
    rw [BitVec.getLsbD_and, BitVec.getLsbD_and, e255]
    by_cases h8 : i < 8
    · have hL : (v.toUInt64 >>> s1).toInt64.toBitVec = v.toBitVec >>> k := by
        show (v.toUInt64 >>> s1).toBitVec = _
        rw [UInt64.toBitVec_shiftRight]
        show v.toBitVec >>> ((s1.toBitVec % 64#64)) = _
        rw [BitVec.ushiftRight_eq']
        congr 1
      rw [hL, BitVec.sshiftRight_eq', h2, BitVec.getLsbD_signExtend, BitVec.getLsbD_signExtend, if_pos (by omega), if_pos (by omega), BitVec.getLsbD_ushiftRight, BitVec.getLsbD_sshiftRight]
      simp only [show ¬ 64 ≤ i by omega, decide_false, Bool.not_false, Bool.true_and, show k + i < 64 by omega, if_true]
    · have : (255#32).getLsbD i = false := by
        rw [show (255#32) = BitVec.ofNat 32 255 from rfl, BitVec.getLsbD_ofNat]
        have : Nat.testBit 255 i = false := Nat.testBit_lt_two_pow (Nat.lt_of_lt_of_le (by decide : 255 < 2 ^ 8) (Nat.pow_le_pow_right (by decide) (by omega)))
        simp [this]
      rw [this, Bool.and_false, Bool.and_false]
  unfold fs_b fs_c
  match j, h with
  | 0, _ => exact key 0 (by decide) _ _ (by decide) (by decide)
  | 1, _ => exact key 8 (by decide) _ _ (by decide) (by decide)
  | 2, _ => exact key 16 (by decide) _ _ (by decide) (by decide)
  | 3, _ => exact key 24 (by decide) _ _ (by decide) (by decide)
  | 4, _ => exact key 32 (by decide) _ _ (by decide) (by decide)
  | 5, _ => exact key 40 (by decide) _ _ (by decide) (by decide)
  | 6, _ => exact key 48 (by decide) _ _ (by decide) (by decide)
  | 7, _ => exact key 56 (by decide) _ _ (by decide) (by decide)
theorem fs_npos {j : Nat} (h : j < 8) : ¬ (nI (8 * j)) < 0 := nI_pos (by omega)
