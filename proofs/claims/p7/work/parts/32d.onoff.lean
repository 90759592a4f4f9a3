/-! On and back of any cipher. -/
theorem q_onJ {zA : Nat → Nat → Nat → Int32} {zI : Nat → Nat → Int32} {j kc : Nat} (hkc : kc < 5) (b : Int64) (h : ∀ i, i < az_wn kc → zA j (az_wc kc) i = zI 15 i) : v_Ci_onV zA j (az_cn kc) b = v_Mo_onJV zI kc b := by
  rcases (by omega : kc = 0 ∨ kc = 1 ∨ kc = 2 ∨ kc = 3 ∨ kc = 4) with rfl | rfl | rfl | rfl | rfl
  · rw [show az_cn 0 = 2 from rfl, v_Ci_onV_2, v_Mo_onJV_0]
    exact q_on0 b h
  · rw [show az_cn 1 = 5 from rfl, v_Ci_onV_5, v_Mo_onJV_1]
    exact q_on1 b h
  · rw [show az_cn 2 = 7 from rfl, v_Ci_onV_7, v_Mo_onJV_2]
    exact q_on2 b h
  · rw [show az_cn 3 = 10 from rfl, v_Ci_onV_10, v_Mo_onJV_3]
    exact q_on3 b h
  · rw [show az_cn 4 = 12 from rfl, v_Ci_onV_12, v_Mo_onJV_4]
    exact q_on4 b h
theorem q_offJ {zA : Nat → Nat → Nat → Int32} {zI : Nat → Nat → Int32} {j kc : Nat} (hkc : kc < 5) (b : Int64) (h : ∀ i, i < az_wn kc → zA j (az_wc kc) i = zI 15 i) (hu : kc = 4 → az_U (zA j)) : v_Ci_backV zA j (az_cn kc) b = v_Mo_offJV zI kc b := by
  rcases (by omega : kc = 0 ∨ kc = 1 ∨ kc = 2 ∨ kc = 3 ∨ kc = 4) with rfl | rfl | rfl | rfl | rfl
  · rw [show az_cn 0 = 2 from rfl, v_Ci_backV_2, v_Mo_offJV_0]
    exact q_off0 b h
  · rw [show az_cn 1 = 5 from rfl, v_Ci_backV_5, v_Mo_offJV_1]
    exact q_off1 b h
  · rw [show az_cn 2 = 7 from rfl, v_Ci_backV_7, v_Mo_offJV_2]
    exact q_off2 b h
  · rw [show az_cn 3 = 10 from rfl, v_Ci_backV_10, v_Mo_offJV_3]
    exact q_off3 b h
  · rw [show az_cn 4 = 12 from rfl, v_Ci_backV_12, v_Mo_offJV_4]
    have h : ∀ i, i < 52 → zA j 13 i = zI 15 i := h
    refine q_off4 b h (fun u hu9 => ?_)
    have e := hu rfl u hu9
    rw [h (6 * u) (by omega), h (6 * u + 1) (by omega), h (6 * u + 2) (by omega), h (6 * u + 3) (by omega)] at e
    exact e
