/-! The answers of stage. -/
theorem q_stage1 {zG : Nat → Nat × Nat} {zO : Nat → Nat} {zX : Nat → Nat → Int64} {zY : Nat → Nat → Int32} {zA : Nat → Nat → Nat → Int32} {zB : Nat → Int32} {zM : Nat → Nat × Nat} {zI : Nat → Nat → Int32} {zL : Nat → Nat → Int64} {j : Nat} (hR : az_R zG zO zX zY zA zB zM zI zL) (hj : j < 4) : v_La_stage1V_zQ zG j = Int32.toInt64 (v_Mo_stage1V zM j) := by
  show Int32.toInt64 (nI (zG j).1) = Int32.toInt64 (nI (zM j).1)
  rw [hR.1 j hj]
