/-! The answers of block. -/
theorem q_block1 {zG : Nat → Nat × Nat} {zO : Nat → Nat} {zX : Nat → Nat → Int64} {zY : Nat → Nat → Int32} {zA : Nat → Nat → Nat → Int32} {zB : Nat → Int32} {zM : Nat → Nat × Nat} {zI : Nat → Nat → Int32} {zL : Nat → Nat → Int64} {j : Nat} {bk : Int32} {b : Int64} (hR : az_R zG zO zX zY zA zB zM zI zL) (hj : j < 4) (hs : 2 ≤ (zG j).1) {kc : Nat} (hkc : kc < 5) (hci : zI 3 j = nI kc) (hco : zO j = az_cn kc) : v_La_block1V_zQ zO zA j bk b = v_Mo_block1V zI zL j kc bk b := by
  obtain ⟨hw, hu⟩ := q_words hR hj hs hkc hci hco
  show v_Ci_onOrBackV zA j (zO j) bk b = _
  rw [hco]
  unfold v_Ci_onOrBackV v_Mo_block1V
  by_cases h0 : bk = 0
  · rw [if_pos h0, if_pos h0]
    exact q_onJ hkc b hw
  · rw [if_neg h0, if_neg h0]
    exact q_offJ hkc b hw hu
