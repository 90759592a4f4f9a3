/-! The class's functions and the reference's: the small ones. -/
theorem q_sw (x : Int32) : v_Ru_bytesReversedV x = v_Mo_swappedV x := rfl
theorem q_up (b : Int64) : v_Ru_firstHalfV b = v_Mo_upperV b := rfl
theorem q_lo (b : Int64) : v_Ru_secondHalfV b = Int64.toInt32 b := rfl
theorem q_jn (x y : Int32) : v_Ru_joinedV x y = v_Mo_joinedV x y := rfl
theorem q_kq (zL : Nat → Nat → Int64) (j : Nat) (i : Int32) : v_Ru_keyQuarterV (zL 4 j) (zL 5 j) i = v_Mo_quarterV zL j i := rfl
theorem q_pt (b : Int64) (i : Int32) : v_Id_quarterOfV b i = v_Mo_partV b i := rfl
theorem q_65536 : Int32.toInt64 65536 = 65536 := by decide
theorem q_tm (x y : Int32) : v_Id_timesV x y = v_Mo_timesV x y := by
  unfold v_Id_timesV v_Mo_timesV
  rw [q_65536]
theorem q_amt (n : Int32) : ((-n).toUInt32 &&& Int32.toUInt32 31) = ((nI 32 - (n &&& nI 31)).toUInt32 &&& Int32.toUInt32 31) := by
  obtain ⟨N, hN, rfl⟩ : ∃ N : Nat, N < 2 ^ 32 ∧ n = nI N := ⟨n.toBitVec.toNat, n.toBitVec.isLt, by apply Int32.toBitVec_inj.mp; apply BitVec.eq_of_toNat_eq; rw [pk_tn n.toBitVec.isLt]⟩
  rw [pk_andN hN (m := nI 31) 5 (by decide +kernel)]
  apply UInt32.toNat_inj.mp
  rw [UInt32.toNat_and, UInt32.toNat_and]
  rw [show (Int32.toUInt32 31).toNat = 2 ^ 5 - 1 by decide +kernel, Nat.and_two_pow_sub_one_eq_mod, Nat.and_two_pow_sub_one_eq_mod]
  have h1 : (-nI N).toUInt32.toNat = (2 ^ 32 - N) % 2 ^ 32 := by
    show (-nI N).toBitVec.toNat = _
    rw [Int32.toBitVec_neg, BitVec.toNat_neg, pk_tn hN]
  have h2 : (nI 32 - nI (N % 2 ^ 5)).toUInt32.toNat = (2 ^ 32 - N % 2 ^ 5 + 32) % 2 ^ 32 := by
    show (nI 32 - nI (N % 2 ^ 5)).toBitVec.toNat = _
    rw [Int32.toBitVec_sub, BitVec.toNat_sub, pk_tn (by omega), pk_tn (by omega)]
  rw [h1, h2]
  omega
theorem q_shl31 (x n : Int32) : x <<< (n &&& 31) = x <<< ((n &&& nI 31) &&& 31) := by
  rw [Int32.and_assoc, show nI 31 &&& 31 = (31 : Int32) by decide +kernel]
theorem q_turn (x n : Int32) : v_Ru_turnLeftV x n = v_Mo_turnV x n := by
  unfold v_Ru_turnLeftV v_Mo_turnV
  by_cases h : n &&& nI 31 = 0
  · rw [if_pos h]
    show (x <<< (n &&& 31)) ||| (x.toUInt32 >>> ((-n).toUInt32 &&& Int32.toUInt32 31)).toInt32 = x
    rw [q_amt, q_shl31, h, show ((nI 32 - 0).toUInt32 &&& Int32.toUInt32 31) = 0 by decide +kernel, show ((0 : Int32) &&& 31) = 0 by decide +kernel]
    simp
  · rw [if_neg h]
    show (x <<< (n &&& 31)) ||| (x.toUInt32 >>> ((-n).toUInt32 &&& Int32.toUInt32 31)).toInt32 = (x <<< ((n &&& nI 31) &&& 31)) ||| (x.toUInt32 >>> ((nI 32 - (n &&& nI 31)).toUInt32 &&& Int32.toUInt32 31)).toInt32
    rw [q_amt, q_shl31]
/-- a turn to the right is one to the left by the rest -/
theorem q_amtL (n : Int32) : ((-n) &&& 31) = ((nI 32 - (n &&& nI 31)) &&& 31) := by
  obtain ⟨N, hN, rfl⟩ : ∃ N : Nat, N < 2 ^ 32 ∧ n = nI N := ⟨n.toBitVec.toNat, n.toBitVec.isLt, by apply Int32.toBitVec_inj.mp; apply BitVec.eq_of_toNat_eq; rw [pk_tn n.toBitVec.isLt]⟩
  rw [pk_andN hN (m := nI 31) 5 (by decide +kernel), pk_and _ (m := 31) 5 (by decide +kernel), pk_and _ (m := 31) 5 (by decide +kernel)]
  congr 1
  have h1 : (-nI N).toBitVec.toNat = (2 ^ 32 - N) % 2 ^ 32 := by rw [Int32.toBitVec_neg, BitVec.toNat_neg, pk_tn hN]
  have h2 : (nI 32 - nI (N % 2 ^ 5)).toBitVec.toNat = (2 ^ 32 - N % 2 ^ 5 + 32) % 2 ^ 32 := by rw [Int32.toBitVec_sub, BitVec.toNat_sub, pk_tn (by omega), pk_tn (by omega)]
  rw [h1, h2]
  omega
theorem q_neg2 (n : Int32) : ((-(nI 32 - (n &&& nI 31))).toUInt32 &&& Int32.toUInt32 31) = (n.toUInt32 &&& Int32.toUInt32 31) := by
  obtain ⟨N, hN, rfl⟩ : ∃ N : Nat, N < 2 ^ 32 ∧ n = nI N := ⟨n.toBitVec.toNat, n.toBitVec.isLt, by apply Int32.toBitVec_inj.mp; apply BitVec.eq_of_toNat_eq; rw [pk_tn n.toBitVec.isLt]⟩
  rw [pk_andN hN (m := nI 31) 5 (by decide +kernel)]
  apply UInt32.toNat_inj.mp
  rw [UInt32.toNat_and, UInt32.toNat_and]
  rw [show (Int32.toUInt32 31).toNat = 2 ^ 5 - 1 by decide +kernel, Nat.and_two_pow_sub_one_eq_mod, Nat.and_two_pow_sub_one_eq_mod]
  have h1 : (nI N).toUInt32.toNat = N := by
    show (nI N).toBitVec.toNat = _
    exact pk_tn hN
  have h2 : (-(nI 32 - nI (N % 2 ^ 5))).toUInt32.toNat = (2 ^ 32 - (2 ^ 32 - N % 2 ^ 5 + 32) % 2 ^ 32) % 2 ^ 32 := by
    show (-(nI 32 - nI (N % 2 ^ 5))).toBitVec.toNat = _
    rw [Int32.toBitVec_neg, BitVec.toNat_neg, Int32.toBitVec_sub, BitVec.toNat_sub, pk_tn (by omega), pk_tn (by omega)]
  rw [h1, h2]
  omega
theorem q_back (x n : Int32) : v_Ru_turnRightV x n = v_Mo_backV x n := by
  unfold v_Mo_backV
  rw [← q_turn]
  show (x.toUInt32 >>> (n.toUInt32 &&& Int32.toUInt32 31)).toInt32 ||| (x <<< ((-n) &&& 31)) = (x <<< ((nI 32 - (n &&& nI 31)) &&& 31)) ||| (x.toUInt32 >>> ((-(nI 32 - (n &&& nI 31))).toUInt32 &&& Int32.toUInt32 31)).toInt32
  rw [q_neg2, q_amtL, Int32.or_comm]
theorem q_st (x : Int32) : v_Si_stirredV x = ((v_Mo_turnV x (nI 1) &&& v_Mo_turnV x (nI 8)) ^^^ v_Mo_turnV x (nI 2)) := by
  unfold v_Si_stirredV
  rw [q_turn, q_turn, q_turn]
theorem q_zb : ∀ i, i < 40 → v_Si_zBitV (nI i) = v_Mo_bitV (nI i) := by
  intro i hi
  unfold v_Si_zBitV v_Mo_bitV
  revert i
  decide +kernel
