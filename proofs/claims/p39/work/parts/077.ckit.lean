
def A2 (lo hi : Int) (a : Nat → Nat → Int32) : Prop := ∀ i, AR lo hi (a i)
def LB (n : Nat → Nat) : Prop := ∀ i, n i ≤ 121
theorem zi_and2 (a b : Int32) (h : 0 ≤ b.toInt) : 0 ≤ (a &&& b).toInt ∧ (a &&& b).toInt ≤ b.toInt := by
  rw [Int32.and_comm]
  exact zi_and b a h
theorem zb127 (a : Int32) : 0 ≤ (a &&& 127).toInt ∧ (a &&& 127).toInt ≤ 127 := zi_and2 a 127 (by decide)
theorem zb63 (a : Int32) : 0 ≤ (a &&& 63).toInt ∧ (a &&& 63).toInt ≤ 63 := zi_and2 a 63 (by decide)
theorem zi_ofn (n : Nat) : n ≤ 1000 → (Int32.ofNat n).toInt = (n : Int) := fun h => Int32.toInt_ofNat_of_lt (by omega)
theorem zi_shr (x : Int32) (h : 0 ≤ x.toInt ∧ x.toInt ≤ 524287) : 0 ≤ (x >>> ((5 : Int32) &&& 31)).toInt ∧ (x >>> ((5 : Int32) &&& 31)).toInt ≤ 524287 := by
  have hb : x.toBitVec.toInt = x.toInt := rfl
  have e : (x >>> ((5 : Int32) &&& 31)).toInt = x.toInt >>> 5 := by
    show (x >>> ((5 : Int32) &&& 31)).toBitVec.toInt = _
    rw [show ((5 : Int32) &&& 31) = 5 by decide]
    show (x.toBitVec.sshiftRight' ((5 : Int32).toBitVec.smod 32)).toInt = _
    rw [BitVec.sshiftRight', show ((5 : Int32).toBitVec.smod 32).toNat = 5 by decide, BitVec.toInt_sshiftRight, hb]
  rw [e, Int.shiftRight_eq_div_pow]
  omega
def PLC (pl : Nat → Option Nat) (x : Int32) (h : Nat) : Prop := 0 ≤ x.toInt → x.toInt ≤ 5 → pl x.toNatClampNeg = some h
theorem zl_82 : (82 : Int32).toInt = 82 := by decide
theorem zl_121 : (121 : Int32).toInt = 121 := by decide
theorem zl_127 : (127 : Int32).toInt = 127 := by decide
theorem zl_255 : (255 : Int32).toInt = 255 := by decide
theorem zl_1048575 : (1048575 : Int32).toInt = 1048575 := by decide
theorem zl_1048576 : (1048576 : Int32).toInt = 1048576 := by decide
theorem zl_252645135 : (252645135 : Int32).toInt = 252645135 := by decide
theorem zl_858993459 : (858993459 : Int32).toInt = 858993459 := by decide
theorem zl_1073741824 : (1073741824 : Int32).toInt = 1073741824 := by decide
theorem zl_1431655765 : (1431655765 : Int32).toInt = 1431655765 := by decide
