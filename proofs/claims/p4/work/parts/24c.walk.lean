noncomputable def v_Mo_prepareJV_zI (zI : Nat → Nat → Int32) (zL : Nat → Nat → Int64) (j : Nat) (kc : Nat) : Nat → Nat → Int32 := if kc = 0 then v_Mo_prepare0V_zI zI zL j else if kc = 1 then v_Mo_prepare1V_zI zI zL j else if kc = 2 then v_Mo_prepare2V_zI zI zL j else if kc = 3 then v_Mo_prepare3V_zI zI zL j else v_Mo_prepare4V_zI zI zL j
theorem v_Mo_prepareJV_zI_0 (zI : Nat → Nat → Int32) (zL : Nat → Nat → Int64) (j : Nat) : v_Mo_prepareJV_zI zI zL j 0 = v_Mo_prepare0V_zI zI zL j := by
  unfold v_Mo_prepareJV_zI
  rw [if_pos (show 0 = 0 by decide)]
theorem v_Mo_prepareJV_zI_1 (zI : Nat → Nat → Int32) (zL : Nat → Nat → Int64) (j : Nat) : v_Mo_prepareJV_zI zI zL j 1 = v_Mo_prepare1V_zI zI zL j := by
  unfold v_Mo_prepareJV_zI
  rw [if_neg (show ¬ 1 = 0 by decide), if_pos (show 1 = 1 by decide)]
theorem v_Mo_prepareJV_zI_2 (zI : Nat → Nat → Int32) (zL : Nat → Nat → Int64) (j : Nat) : v_Mo_prepareJV_zI zI zL j 2 = v_Mo_prepare2V_zI zI zL j := by
  unfold v_Mo_prepareJV_zI
  rw [if_neg (show ¬ 2 = 0 by decide), if_neg (show ¬ 2 = 1 by decide), if_pos (show 2 = 2 by decide)]
theorem v_Mo_prepareJV_zI_3 (zI : Nat → Nat → Int32) (zL : Nat → Nat → Int64) (j : Nat) : v_Mo_prepareJV_zI zI zL j 3 = v_Mo_prepare3V_zI zI zL j := by
  unfold v_Mo_prepareJV_zI
  rw [if_neg (show ¬ 3 = 0 by decide), if_neg (show ¬ 3 = 1 by decide), if_neg (show ¬ 3 = 2 by decide), if_pos (show 3 = 3 by decide)]
theorem v_Mo_prepareJV_zI_4 (zI : Nat → Nat → Int32) (zL : Nat → Nat → Int64) (j : Nat) : v_Mo_prepareJV_zI zI zL j 4 = v_Mo_prepare4V_zI zI zL j := by
  unfold v_Mo_prepareJV_zI
  rw [if_neg (show ¬ 4 = 0 by decide), if_neg (show ¬ 4 = 1 by decide), if_neg (show ¬ 4 = 2 by decide), if_neg (show ¬ 4 = 3 by decide)]
abbrev ws_Mo_prepareJV : List Cond := ws_Mo_prepare0V
abbrev rm_Mo_prepareJV : Room := rm_Mo_prepare0V
theorem k_Mo_prepareJV (l : Launch) (D : va_G) (g : Nat → ClassId) (ad : Nat → Nat) (N0 : Nat) (zG : Nat → Nat × Nat) (zO : Nat → Nat) (zX : Nat → Nat → Int64) (zY : Nat → Nat → Int32) (zA : Nat → Nat → Nat → Int32) (zB : Nat → Int32) (zM : Nat → Nat × Nat) (zI : Nat → Nat → Int32) (zL : Nat → Nat → Int64) (zK : Int32) (zN : Nat) (zF : Int32) (zQ : Int64) (j : Nat) (kc : Nat) (hj : j < 4) (hkc : kc < 5) (hci : zI 3 j = nI kc) : Met l y_Mo_prepare ws_Mo_prepareJV rm_Mo_prepareJV (va_Pc ([.ref (aw_m ad 0), .int (nI j)] : List Value) (ag_B D g N0 (az_Sh g ad zG zO zX zY zA zB zM zI zL zK zN zF zQ))) (va_Qv (fun (_ : Unit) => True) (fun (_ : Unit) t => ag_H D N0 (az_Sh g ad zG zO zX zY zA zB zM (v_Mo_prepareJV_zI zI zL j kc) zL (nI kc) (az_wn kc) zF zQ) t.heap) (aw_Z N0)) 0 0 (aw_Z N0) := by
  rcases (by omega : kc = 0 ∨ kc = 1 ∨ kc = 2 ∨ kc = 3 ∨ kc = 4) with rfl | rfl | rfl | rfl | rfl
  · rw [v_Mo_prepareJV_zI_0, show az_wn 0 = 26 from rfl]
    exact k_Mo_prepare0V l D g ad N0 zG zO zX zY zA zB zM zI zL zK zN zF zQ j hj hci
  · rw [v_Mo_prepareJV_zI_1, show az_wn 1 = 4 from rfl]
    exact k_Mo_prepare1V l D g ad N0 zG zO zX zY zA zB zM zI zL zK zN zF zQ j hj hci
  · rw [v_Mo_prepareJV_zI_2, show az_wn 2 = 27 from rfl]
    exact k_Mo_prepare2V l D g ad N0 zG zO zX zY zA zB zM zI zL zK zN zF zQ j hj hci
  · rw [v_Mo_prepareJV_zI_3, show az_wn 3 = 44 from rfl]
    exact k_Mo_prepare3V l D g ad N0 zG zO zX zY zA zB zM zI zL zK zN zF zQ j hj hci
  · rw [v_Mo_prepareJV_zI_4, show az_wn 4 = 52 from rfl]
    exact k_Mo_prepare4V l D g ad N0 zG zO zX zY zA zB zM zI zL zK zN zF zQ j hj hci
noncomputable def v_Mo_onJV (zI : Nat → Nat → Int32) (kc : Nat) (b : Int64) : Int64 := if kc = 0 then v_Mo_on0V zI b else if kc = 1 then v_Mo_on1V zI b else if kc = 2 then v_Mo_on2V zI b else if kc = 3 then v_Mo_on3V zI b else v_Mo_on4V zI b
theorem v_Mo_onJV_0 (zI : Nat → Nat → Int32) (b : Int64) : v_Mo_onJV zI 0 b = v_Mo_on0V zI b := by
  unfold v_Mo_onJV
  rw [if_pos (show 0 = 0 by decide)]
theorem v_Mo_onJV_1 (zI : Nat → Nat → Int32) (b : Int64) : v_Mo_onJV zI 1 b = v_Mo_on1V zI b := by
  unfold v_Mo_onJV
  rw [if_neg (show ¬ 1 = 0 by decide), if_pos (show 1 = 1 by decide)]
theorem v_Mo_onJV_2 (zI : Nat → Nat → Int32) (b : Int64) : v_Mo_onJV zI 2 b = v_Mo_on2V zI b := by
  unfold v_Mo_onJV
  rw [if_neg (show ¬ 2 = 0 by decide), if_neg (show ¬ 2 = 1 by decide), if_pos (show 2 = 2 by decide)]
theorem v_Mo_onJV_3 (zI : Nat → Nat → Int32) (b : Int64) : v_Mo_onJV zI 3 b = v_Mo_on3V zI b := by
  unfold v_Mo_onJV
  rw [if_neg (show ¬ 3 = 0 by decide), if_neg (show ¬ 3 = 1 by decide), if_neg (show ¬ 3 = 2 by decide), if_pos (show 3 = 3 by decide)]
theorem v_Mo_onJV_4 (zI : Nat → Nat → Int32) (b : Int64) : v_Mo_onJV zI 4 b = v_Mo_on4V zI b := by
  unfold v_Mo_onJV
  rw [if_neg (show ¬ 4 = 0 by decide), if_neg (show ¬ 4 = 1 by decide), if_neg (show ¬ 4 = 2 by decide), if_neg (show ¬ 4 = 3 by decide)]
abbrev ws_Mo_onJV : List Cond := ws_Mo_on0V
abbrev rm_Mo_onJV : Room := rm_Mo_on0V
theorem k_Mo_onJV (l : Launch) (D : va_G) (g : Nat → ClassId) (ad : Nat → Nat) (N0 : Nat) (zG : Nat → Nat × Nat) (zO : Nat → Nat) (zX : Nat → Nat → Int64) (zY : Nat → Nat → Int32) (zA : Nat → Nat → Nat → Int32) (zB : Nat → Int32) (zM : Nat → Nat × Nat) (zI : Nat → Nat → Int32) (zL : Nat → Nat → Int64) (zN : Nat) (zF : Int32) (zQ : Int64) (kc : Nat) (b : Int64) (hkc : kc < 5) : Met l y_Mo_on ws_Mo_onJV rm_Mo_onJV (va_Pc ([.ref (aw_m ad 0), .long b] : List Value) (ag_B D g N0 (az_Sh g ad zG zO zX zY zA zB zM zI zL (nI kc) zN zF zQ))) (va_Ql (fun r (_ : Unit) => r = v_Mo_onJV zI kc b) (fun (_ : Unit) t => ag_H D N0 (az_Sh g ad zG zO zX zY zA zB zM zI zL (nI kc) zN zF zQ) t.heap) (aw_Z N0)) 0 0 (aw_Z N0) := by
  rcases (by omega : kc = 0 ∨ kc = 1 ∨ kc = 2 ∨ kc = 3 ∨ kc = 4) with rfl | rfl | rfl | rfl | rfl
  · rw [v_Mo_onJV_0]
    exact k_Mo_on0V l D g ad N0 zG zO zX zY zA zB zM zI zL zN zF zQ b
  · rw [v_Mo_onJV_1]
    exact k_Mo_on1V l D g ad N0 zG zO zX zY zA zB zM zI zL zN zF zQ b
  · rw [v_Mo_onJV_2]
    exact k_Mo_on2V l D g ad N0 zG zO zX zY zA zB zM zI zL zN zF zQ b
  · rw [v_Mo_onJV_3]
    exact k_Mo_on3V l D g ad N0 zG zO zX zY zA zB zM zI zL zN zF zQ b
  · rw [v_Mo_onJV_4]
    exact k_Mo_on4V l D g ad N0 zG zO zX zY zA zB zM zI zL zN zF zQ b
noncomputable def v_Mo_offJV (zI : Nat → Nat → Int32) (kc : Nat) (b : Int64) : Int64 := if kc = 0 then v_Mo_off0V zI b else if kc = 1 then v_Mo_off1V zI b else if kc = 2 then v_Mo_off2V zI b else if kc = 3 then v_Mo_off3V zI b else v_Mo_off4V zI b
theorem v_Mo_offJV_0 (zI : Nat → Nat → Int32) (b : Int64) : v_Mo_offJV zI 0 b = v_Mo_off0V zI b := by
  unfold v_Mo_offJV
  rw [if_pos (show 0 = 0 by decide)]
theorem v_Mo_offJV_1 (zI : Nat → Nat → Int32) (b : Int64) : v_Mo_offJV zI 1 b = v_Mo_off1V zI b := by
  unfold v_Mo_offJV
  rw [if_neg (show ¬ 1 = 0 by decide), if_pos (show 1 = 1 by decide)]
theorem v_Mo_offJV_2 (zI : Nat → Nat → Int32) (b : Int64) : v_Mo_offJV zI 2 b = v_Mo_off2V zI b := by
  unfold v_Mo_offJV
  rw [if_neg (show ¬ 2 = 0 by decide), if_neg (show ¬ 2 = 1 by decide), if_pos (show 2 = 2 by decide)]
theorem v_Mo_offJV_3 (zI : Nat → Nat → Int32) (b : Int64) : v_Mo_offJV zI 3 b = v_Mo_off3V zI b := by
  unfold v_Mo_offJV
  rw [if_neg (show ¬ 3 = 0 by decide), if_neg (show ¬ 3 = 1 by decide), if_neg (show ¬ 3 = 2 by decide), if_pos (show 3 = 3 by decide)]
theorem v_Mo_offJV_4 (zI : Nat → Nat → Int32) (b : Int64) : v_Mo_offJV zI 4 b = v_Mo_off4V zI b := by
  unfold v_Mo_offJV
  rw [if_neg (show ¬ 4 = 0 by decide), if_neg (show ¬ 4 = 1 by decide), if_neg (show ¬ 4 = 2 by decide), if_neg (show ¬ 4 = 3 by decide)]
abbrev ws_Mo_offJV : List Cond := ws_Mo_off0V
abbrev rm_Mo_offJV : Room := rm_Mo_off0V
theorem k_Mo_offJV (l : Launch) (D : va_G) (g : Nat → ClassId) (ad : Nat → Nat) (N0 : Nat) (zG : Nat → Nat × Nat) (zO : Nat → Nat) (zX : Nat → Nat → Int64) (zY : Nat → Nat → Int32) (zA : Nat → Nat → Nat → Int32) (zB : Nat → Int32) (zM : Nat → Nat × Nat) (zI : Nat → Nat → Int32) (zL : Nat → Nat → Int64) (zN : Nat) (zF : Int32) (zQ : Int64) (kc : Nat) (b : Int64) (hkc : kc < 5) : Met l y_Mo_off ws_Mo_offJV rm_Mo_offJV (va_Pc ([.ref (aw_m ad 0), .long b] : List Value) (ag_B D g N0 (az_Sh g ad zG zO zX zY zA zB zM zI zL (nI kc) zN zF zQ))) (va_Ql (fun r (_ : Unit) => r = v_Mo_offJV zI kc b) (fun (_ : Unit) t => ag_H D N0 (az_Sh g ad zG zO zX zY zA zB zM zI zL (nI kc) zN zF zQ) t.heap) (aw_Z N0)) 0 0 (aw_Z N0) := by
  rcases (by omega : kc = 0 ∨ kc = 1 ∨ kc = 2 ∨ kc = 3 ∨ kc = 4) with rfl | rfl | rfl | rfl | rfl
  · rw [v_Mo_offJV_0]
    exact k_Mo_off0V l D g ad N0 zG zO zX zY zA zB zM zI zL zN zF zQ b
  · rw [v_Mo_offJV_1]
    exact k_Mo_off1V l D g ad N0 zG zO zX zY zA zB zM zI zL zN zF zQ b
  · rw [v_Mo_offJV_2]
    exact k_Mo_off2V l D g ad N0 zG zO zX zY zA zB zM zI zL zN zF zQ b
  · rw [v_Mo_offJV_3]
    exact k_Mo_off3V l D g ad N0 zG zO zX zY zA zB zM zI zL zN zF zQ b
  · rw [v_Mo_offJV_4]
    exact k_Mo_off4V l D g ad N0 zG zO zX zY zA zB zM zI zL zN zF zQ b
