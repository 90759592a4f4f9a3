/-! IDEA: the class's block of four quarters, the reference's four numbers. -/
theorem q_and16 (x : Int32) : x &&& 65535 = nI (x.toBitVec.toNat % 2 ^ 16) := pk_and x (m := 65535) 16 (by decide +kernel)
theorem q_mm (x : Int32) : (x &&& 65535) &&& 65535 = x &&& 65535 := by
  rw [Int32.and_assoc, show (65535 : Int32) &&& 65535 = 65535 by decide +kernel]
theorem q_lsb64 (n : Nat) : (65535#64).getLsbD n = decide (n < 16) := by
  show (BitVec.ofNat 64 (2 ^ 16 - 1)).getLsbD n = _
  rw [BitVec.getLsbD_ofNat, Nat.testBit_two_pow_sub_one]
  by_cases h : n < 16
  · simp [h, show n < 64 by omega]
  · simp [h]
theorem q_lsb32 (n : Nat) : (65535#32).getLsbD n = decide (n < 16) := by
  show (BitVec.ofNat 32 (2 ^ 16 - 1)).getLsbD n = _
  rw [BitVec.getLsbD_ofNat, Nat.testBit_two_pow_sub_one]
  by_cases h : n < 16
  · simp [h, show n < 32 by omega]
  · simp [h]
theorem q_msb : (65535#32).msb = false := by decide
theorem q_shl (x : Int64) (n : Nat) (hn : n < 64) : (jL_shl x (nI n)).toBitVec = x.toBitVec <<< n := by
  show (x <<< ((nI n).toInt64 &&& 63)).toBitVec = _
  rw [Int64.toBitVec_shiftLeft]
  have h : ∀ k, k < 64 → (((nI k).toInt64 &&& 63).toBitVec.smod 64).toNat = k := by decide +kernel
  rw [BitVec.shiftLeft_eq', h n hn]
theorem q_shr (x : Int64) (n : Nat) (hn : n < 64) : (jL_ushr x (nI n)).toBitVec = x.toBitVec >>> n := by
  have h : ∀ k, k < 64 → (((nI k).toInt64.toUInt64 &&& Int64.toUInt64 63).toBitVec % 64).toNat = k := by decide +kernel
  show (x.toUInt64 >>> ((nI n).toInt64.toUInt64 &&& Int64.toUInt64 63)).toBitVec = _
  rw [UInt64.toBitVec_shiftRight, BitVec.ushiftRight_eq', h n hn]
  rfl
theorem q_sx (x : BitVec 32) (i : Nat) : ((x &&& 65535#32).signExtend 64).getLsbD i = (decide (i < 16) && x.getLsbD i) := by
  rw [BitVec.getLsbD_signExtend, BitVec.getLsbD_and, BitVec.msb_and, q_lsb32, q_msb]
  by_cases h : i < 16
  · simp [h, show i < 32 by omega, show i < 64 by omega]
  · by_cases h2 : i < 32
    · simp [h, h2]
    · simp [h, h2]
theorem q_e16 (x : Int32) : (Int32.toInt64 x) &&& 65535 = Int32.toInt64 (x &&& 65535) := by
  apply Int64.toBitVec_inj.mp
  rw [Int64.toBitVec_and, Int32.toBitVec_toInt64, Int32.toBitVec_toInt64, Int32.toBitVec_and]
  apply BitVec.eq_of_getLsbD_eq
  intro i hi
  show (BitVec.signExtend 64 x.toBitVec &&& 65535#64).getLsbD i = (BitVec.signExtend 64 (x.toBitVec &&& 65535#32)).getLsbD i
  rw [q_sx, BitVec.getLsbD_and, BitVec.getLsbD_signExtend, q_lsb64]
  by_cases h : i < 16
  · simp [h, hi, show i < 32 by omega]
  · simp [h]
theorem q_four (x0 x1 x2 x3 : Int32) : v_Id_ofQuartersV (Int32.toInt64 x0) (Int32.toInt64 x1) (Int32.toInt64 x2) (Int32.toInt64 x3) = v_Mo_fourV x0 x1 x2 x3 := by
  unfold v_Id_ofQuartersV v_Mo_fourV
  rw [q_e16, q_e16, q_e16, q_e16]
theorem q_partB (x : Int64) (k : Nat) (hk : k < 4) : (v_Mo_partV x (nI k)).toBitVec = (x.toBitVec >>> (48 - 16 * k)).signExtend 32 &&& 65535#32 := by
  unfold v_Mo_partV
  rw [pk_mul, pk_sub (a := 48) (b := 16 * k) (by omega), Int32.toBitVec_and, Int64.toBitVec_toInt32, q_shr x (48 - 16 * k) (by omega)]
  rfl
/-- a bit of a quarter -/
theorem q_partL (x : Int64) (k : Nat) (hk : k < 4) (i : Nat) (hi : i < 32) : (v_Mo_partV x (nI k)).toBitVec.getLsbD i = (x.toBitVec.getLsbD (48 - 16 * k + i) && decide (i < 16)) := by
  rw [q_partB x k hk, BitVec.getLsbD_and, BitVec.getLsbD_signExtend, BitVec.getLsbD_ushiftRight, q_lsb32]
  simp [hi, show i < 64 by omega]
theorem q_fourB (x0 x1 x2 x3 : Int32) : (v_Mo_fourV x0 x1 x2 x3).toBitVec = ((((x0.toBitVec &&& 65535#32).signExtend 64 <<< 48) ||| ((x1.toBitVec &&& 65535#32).signExtend 64 <<< 32)) ||| ((x2.toBitVec &&& 65535#32).signExtend 64 <<< 16)) ||| (x3.toBitVec &&& 65535#32).signExtend 64 := by
  unfold v_Mo_fourV
  rw [Int64.toBitVec_or, Int64.toBitVec_or, Int64.toBitVec_or, q_shl _ 48 (by decide), q_shl _ 32 (by decide), q_shl _ 16 (by decide), Int32.toBitVec_toInt64, Int32.toBitVec_toInt64, Int32.toBitVec_toInt64, Int32.toBitVec_toInt64]
  rfl
/-- a bit of four numbers -/
theorem q_fourL (x0 x1 x2 x3 : Int32) (i : Nat) (hi : i < 64) : (v_Mo_fourV x0 x1 x2 x3).toBitVec.getLsbD i = if i < 16 then x3.toBitVec.getLsbD i else if i < 32 then x2.toBitVec.getLsbD (i - 16) else if i < 48 then x1.toBitVec.getLsbD (i - 32) else x0.toBitVec.getLsbD (i - 48) := by
  rw [q_fourB, BitVec.getLsbD_or, BitVec.getLsbD_or, BitVec.getLsbD_or, BitVec.getLsbD_shiftLeft, BitVec.getLsbD_shiftLeft, BitVec.getLsbD_shiftLeft, q_sx, q_sx, q_sx, q_sx]
  rcases (by omega : i < 16 ∨ (16 ≤ i ∧ i < 32) ∨ (32 ≤ i ∧ i < 48) ∨ 48 ≤ i) with h | ⟨h, h'⟩ | ⟨h, h'⟩ | h
  · rw [if_pos h]
    simp [h, show i < 48 by omega, show i < 32 by omega]
  · rw [if_neg (show ¬ i < 16 by omega), if_pos h']
    simp [h', hi, show ¬ i < 16 by omega, show i < 48 by omega, show i - 16 < 16 by omega]
  · rw [if_neg (show ¬ i < 16 by omega), if_neg (show ¬ i < 32 by omega), if_pos h']
    simp [h', hi, show ¬ i < 16 by omega, show ¬ i < 32 by omega, show ¬ i - 16 < 16 by omega, show i - 32 < 16 by omega]
  · rw [if_neg (show ¬ i < 16 by omega), if_neg (show ¬ i < 32 by omega), if_neg (show ¬ i < 48 by omega)]
    simp [hi, show ¬ i < 16 by omega, show ¬ i < 32 by omega, show ¬ i < 48 by omega, show ¬ i - 16 < 16 by omega, show ¬ i - 32 < 16 by omega, show i - 48 < 16 by omega]
theorem q_and16L (x : Int32) (i : Nat) : (x &&& 65535).toBitVec.getLsbD i = (x.toBitVec.getLsbD i && decide (i < 16)) := by
  rw [Int32.toBitVec_and]
  show (x.toBitVec &&& 65535#32).getLsbD i = _
  rw [BitVec.getLsbD_and, q_lsb32]
theorem q_pof (x0 x1 x2 x3 : Int32) : v_Mo_partV (v_Mo_fourV x0 x1 x2 x3) (nI 0) = x0 &&& 65535 ∧ v_Mo_partV (v_Mo_fourV x0 x1 x2 x3) (nI 1) = x1 &&& 65535 ∧ v_Mo_partV (v_Mo_fourV x0 x1 x2 x3) (nI 2) = x2 &&& 65535 ∧ v_Mo_partV (v_Mo_fourV x0 x1 x2 x3) (nI 3) = x3 &&& 65535 := by
  refine ⟨?_, ?_, ?_, ?_⟩
  · apply Int32.toBitVec_inj.mp
    apply BitVec.eq_of_getLsbD_eq
    intro i hi
    rw [q_partL _ 0 (by decide) i hi, q_and16L]
    by_cases h : i < 16
    · rw [q_fourL _ _ _ _ _ (by omega), if_neg (by omega), if_neg (by omega), if_neg (by omega), show 48 - 16 * 0 + i - 48 = i by omega]
    · simp [h]
  · apply Int32.toBitVec_inj.mp
    apply BitVec.eq_of_getLsbD_eq
    intro i hi
    rw [q_partL _ 1 (by decide) i hi, q_and16L]
    by_cases h : i < 16
    · rw [q_fourL _ _ _ _ _ (by omega), if_neg (by omega), if_neg (by omega), if_pos (by omega), show 48 - 16 * 1 + i - 32 = i by omega]
    · simp [h]
  · apply Int32.toBitVec_inj.mp
    apply BitVec.eq_of_getLsbD_eq
    intro i hi
    rw [q_partL _ 2 (by decide) i hi, q_and16L]
    by_cases h : i < 16
    · rw [q_fourL _ _ _ _ _ (by omega), if_neg (by omega), if_pos (by omega), show 48 - 16 * 2 + i - 16 = i by omega]
    · simp [h]
  · apply Int32.toBitVec_inj.mp
    apply BitVec.eq_of_getLsbD_eq
    intro i hi
    rw [q_partL _ 3 (by decide) i hi, q_and16L]
    by_cases h : i < 16
    · rw [q_fourL _ _ _ _ _ (by omega), if_pos (by omega), show 48 - 16 * 3 + i = i by omega]
    · simp [h]
theorem q_pxor (x y : Int64) (k : Nat) (hk : k < 4) : v_Mo_partV (x ^^^ y) (nI k) = v_Mo_partV x (nI k) ^^^ v_Mo_partV y (nI k) := by
  apply Int32.toBitVec_inj.mp
  rw [Int32.toBitVec_xor]
  apply BitVec.eq_of_getLsbD_eq
  intro i hi
  rw [BitVec.getLsbD_xor, q_partL _ k hk i hi, q_partL _ k hk i hi, q_partL _ k hk i hi, Int64.toBitVec_xor, BitVec.getLsbD_xor]
  by_cases h : i < 16
  · simp [h]
  · simp [h]
theorem q_parts (x : Int64) : v_Mo_fourV (v_Mo_partV x (nI 0)) (v_Mo_partV x (nI 1)) (v_Mo_partV x (nI 2)) (v_Mo_partV x (nI 3)) = x := by
  apply Int64.toBitVec_inj.mp
  apply BitVec.eq_of_getLsbD_eq
  intro i hi
  rw [q_fourL _ _ _ _ i hi]
  by_cases h0 : i < 16
  · rw [if_pos h0, q_partL _ 3 (by decide) i (by omega), show 48 - 16 * 3 + i = i by omega]
    simp [h0]
  · rw [if_neg h0]
    by_cases h1 : i < 32
    · rw [if_pos h1, q_partL _ 2 (by decide) (i - 16) (by omega), show 48 - 16 * 2 + (i - 16) = i by omega]
      simp [show i - 16 < 16 by omega]
    · rw [if_neg h1]
      by_cases h2 : i < 48
      · rw [if_pos h2, q_partL _ 1 (by decide) (i - 32) (by omega), show 48 - 16 * 1 + (i - 32) = i by omega]
        simp [show i - 32 < 16 by omega]
      · rw [if_neg h2, q_partL _ 0 (by decide) (i - 48) (by omega), show 48 - 16 * 0 + (i - 48) = i by omega]
        simp [show i - 48 < 16 by omega]
theorem q_pm (x : Int64) (i : Int32) : v_Mo_partV x i &&& 65535 = v_Mo_partV x i := q_mm _
theorem q_tmm (x y : Int32) : v_Mo_timesV x y &&& 65535 = v_Mo_timesV x y := by
  unfold v_Mo_timesV
  repeat' split
  all_goals exact q_mm _
theorem q_mid (x : Int64) : v_Id_middleSwappedV x = v_Mo_fourV (v_Mo_partV x (nI 0)) (v_Mo_partV x (nI 2)) (v_Mo_partV x (nI 1)) (v_Mo_partV x (nI 3)) := by
  unfold v_Id_middleSwappedV
  exact q_four _ _ _ _
theorem q_neg16 (p w : Int32) : (p + ((-w) &&& 65535)) &&& 65535 = (p - w) &&& 65535 := by
  rw [q_and16 (p + _), q_and16 (p - w), q_and16 (-w)]
  congr 1
  have hp := p.toBitVec.isLt
  have hw := w.toBitVec.isLt
  rw [Int32.toBitVec_add, Int32.toBitVec_sub, BitVec.toNat_add, BitVec.toNat_sub, pk_tn (by omega), Int32.toBitVec_neg, BitVec.toNat_neg]
  omega
