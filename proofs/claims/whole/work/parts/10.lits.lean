/-! NUMBERS that the code writes -/
theorem xli_m1 : Int32.ofInt (-1) = (-1 : Int32) := by decide +kernel
theorem xli_0 : Int32.ofInt (0) = (0 : Int32) := by decide +kernel
theorem xli_1 : Int32.ofInt (1) = (1 : Int32) := by decide +kernel
theorem xli_2 : Int32.ofInt (2) = (2 : Int32) := by decide +kernel
theorem xli_3 : Int32.ofInt (3) = (3 : Int32) := by decide +kernel
theorem xli_4 : Int32.ofInt (4) = (4 : Int32) := by decide +kernel
theorem xli_5 : Int32.ofInt (5) = (5 : Int32) := by decide +kernel
theorem xlb_8 : (Int8.ofInt (8)).toInt32 = (8 : Int32) := by decide +kernel
theorem xlb_12 : (Int8.ofInt (12)).toInt32 = (12 : Int32) := by decide +kernel
theorem xlb_31 : (Int8.ofInt (31)).toInt32 = (31 : Int32) := by decide +kernel
theorem xlb_32 : (Int8.ofInt (32)).toInt32 = (32 : Int32) := by decide +kernel
theorem xlb_64 : (Int8.ofInt (64)).toInt32 = (64 : Int32) := by decide +kernel
theorem xls_256 : (Int16.ofInt (256)).toInt32 = (256 : Int32) := by decide +kernel
theorem xls_513 : (Int16.ofInt (513)).toInt32 = (513 : Int32) := by decide +kernel
theorem xls_2048 : (Int16.ofInt (2048)).toInt32 = (2048 : Int32) := by decide +kernel
theorem xls_4096 : (Int16.ofInt (4096)).toInt32 = (4096 : Int32) := by decide +kernel
theorem xll_0 : Int64.ofNat ((0 : Fin 2) : Nat) = (0 : Int64) := by decide +kernel
theorem xll_1 : Int64.ofNat ((1 : Fin 2) : Nat) = (1 : Int64) := by decide +kernel
theorem xnr_i (x : Int32) : narrow .int (.int x) = .int x := rfl
theorem xnr_0 : narrow .boolean (.int 0) = .int 0 := by decide +kernel
theorem xnr_1 : narrow .boolean (.int 1) = .int 1 := by decide +kernel
theorem xnr_ite (c : Prop) [Decidable c] : narrow .boolean (.int (if c then 1 else 0)) = .int (if c then 1 else 0) := by split <;> decide +kernel
theorem xft_i (x : Int32) : xfit .int x := ⟨rfl, rfl, rfl⟩
theorem xft_0 : xfit .boolean 0 := ⟨by decide +kernel, by decide +kernel, by decide +kernel⟩
theorem xft_1 : xfit .boolean 1 := ⟨by decide +kernel, by decide +kernel, by decide +kernel⟩
theorem xat_999 : xat 999 = some .int := rfl
theorem xat_1001 : xat 1001 = some .int := rfl
theorem xat_1002 : xat 1002 = some .int := rfl
theorem xat_1003 : xat 1003 = some .boolean := rfl
theorem xat_2001 : xat 2001 = some (.object "ShrinkLayout$Part") := rfl
theorem xat_2002 : xat 2002 = some (.object "ShrinkLayout$Piece") := rfl
theorem xat_2003 : xat 2003 = some (.object "ShrinkLayout$Label") := rfl
-- numbers
theorem xpow_le {p : Nat} (h : p ≤ 12) : 2 ^ p ≤ 4096 := Nat.pow_le_pow_right (by decide) h
theorem xshl_m1 : ∀ p, p < 13 → ((1 : Int32) <<< (nI p &&& 31) - 1).toBitVec.toNat = 2 ^ p - 1 := by decide +kernel
theorem xshl : ∀ p, p < 13 → (1 : Int32) <<< (nI p &&& 31) = nI (2 ^ p) := by decide +kernel
theorem xneg_toNat {x : Nat} (h : x < 2 ^ 31) : (-(nI x)).toBitVec.toNat = (2 ^ 32 - x) % 2 ^ 32 := by
  rw [Int32.toBitVec_neg, BitVec.toNat_neg, pk_tn (by omega)]
theorem xI32le (x y : Int32) : (x ≤ y) = (x.toInt ≤ y.toInt) := propext Int32.le_iff_toInt_le
theorem xI32lt (x y : Int32) : (x < y) = (x.toInt < y.toInt) := propext Int32.lt_iff_toInt_lt
theorem xI64le (x y : Int64) : (x ≤ y) = (x.toInt ≤ y.toInt) := propext Int64.le_iff_toInt_le
theorem xI64lt (x y : Int64) : (x < y) = (x.toInt < y.toInt) := propext Int64.lt_iff_toInt_lt
