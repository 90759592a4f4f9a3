noncomputable def v_Cx_chooseCipherV_zG (zG : Nat → Nat × Nat) (zO : Nat → Nat) (j : Nat) (k : Nat) : Nat → Nat × Nat := aw_g1 zG j 1
noncomputable def v_Cx_chooseCipherV_zO (zG : Nat → Nat × Nat) (zO : Nat → Nat) (j : Nat) (k : Nat) : Nat → Nat := az_u1 zO j (az_cn k)
abbrev ws_Cx_chooseCipherV : List Cond := Cond.code y_Cx_chooseCipher b_Cx_chooseCipher 2 none :: aw_G
abbrev rm_Cx_chooseCipherV : Room := { frames := 0, cells := 0, slots := 0, locals := 0 }
set_option maxHeartbeats 4000000 in
set_option maxRecDepth 100000 in
theorem k_Cx_chooseCipherV (l : Launch) (D : va_G) (g : Nat → ClassId) (ad : Nat → Nat) (N0 : Nat) (zG : Nat → Nat × Nat) (zO : Nat → Nat) (zX : Nat → Nat → Int64) (zY : Nat → Nat → Int32) (zA : Nat → Nat → Nat → Int32) (zB : Nat → Int32) (zM : Nat → Nat × Nat) (zI : Nat → Nat → Int32) (zL : Nat → Nat → Int64) (zK : Int32) (zN : Nat) (zF : Int32) (zQ : Int64) (j : Nat) (k : Nat) (hj : j < 4) (hk : k < 5) : Met l y_Cx_chooseCipher ws_Cx_chooseCipherV rm_Cx_chooseCipherV (va_Pc ([.ref (aw_c ad j 0), .int (nI k)] : List Value) (ag_B D g N0 (az_Sh g ad zG zO zX zY zA zB zM zI zL zK zN zF zQ))) (va_Qv (fun (_ : Unit) => True) (fun (_ : Unit) t => ag_H D N0 (az_Sh g ad (v_Cx_chooseCipherV_zG zG zO j k) (v_Cx_chooseCipherV_zO zG zO j k) zX zY zA zB zM zI zL zK zN zF zQ) t.heap) (aw_Z N0)) 0 0 (aw_Z N0) := by
  refine Met.ofW (cc := b_Cx_chooseCipher) (maxL := 2) (ret := none) (by decide) rfl ?_
  intro p e s m args below meth c s₁ B hml hv
  obtain ⟨rfl, ⟨L, hP, hD, hSh⟩, hU⟩ := hv
  have hx := B.exec
  have hb := B.bytes
  have hr := B.returns
  have hG : ∀ w ∈ aw_G, w.before _ s = true := fun w h => atoms_spec (ws := ws_Cx_chooseCipherV) B.pre w (List.mem_cons_of_mem _ h)
  have hown : s.vm.findClass "RuleCiphers$Context" = some m.cls := findClass_of_methodNamed B.named
  have hlocks := B.notSynchronized
  have hE := hU.1
  have hK := hE.1
  have hN := hE.2.1
  have hS : va_S (aw_Z N0) s.heap s.heap [] := va_S.rf
  have hl := lv_entry ([.ref (aw_c ad j 0), .int (nI k)] : List Value) (n := 2) (Nat.le_of_ble_eq_true rfl)
  rw [lg_entry_eq]
  generalize (lg_sl ([.ref (aw_c ad j 0), .int (nI k)] : List Value) ++ List.replicate (2 - (lg_sl ([.ref (aw_c ad j 0), .int (nI k)] : List Value)).length) Slot.unset).toArray = ls at hl ⊢
  have hl : lv_has ls 2 [(0, .ref (aw_c ad j 0)), (1, .int (nI k))] := hl
  refine lv_aload_n hx hb d_Cx_chooseCipher_0 rfl (lv_at hl 0 rfl) ?_
  refine lv_aload_n hx hb d_Cx_chooseCipher_1 rfl (lv_at hl 0 rfl) ?_
  obtain ⟨hsd2, he1⟩ := zr_C0 hSh hj
  have hg := hSh.2.2.2.2.1 j hj
  refine va_get (C := R_Cx) (T := T_Cx) (N := 10) (v := .ref (aw_c ad j 1)) hx hb hG in_Cx hown hK hP (3 + 16 * j + 0) he1 rfl 0 (by decide) (hG _ gw_1_54) (fun _ h => h) rfl d_Cx_chooseCipher_2 ?_
  clear he1
  refine lv_iload_n hx hb d_Cx_chooseCipher_5 rfl (lv_at hl 1 rfl) ?_
  obtain ⟨f4, hc5, he3⟩ := zr_C1 hSh hj
  have hf6 := az_pick5 (k := k) hc5 (by omega)
  refine aw_ald hx hb hK hP (3 + 16 * j + 1) 2 he3 rfl (k := k) (by omega) (by decide) hf6.2 d_Cx_chooseCipher_6 ?_
  obtain ⟨hsd8, he7⟩ := zr_C0 hSh hj
  have hg := hSh.2.2.2.2.1 j hj
  refine ag_put (v := .ref (aw_c ad j (az_cn k))) (ty := (.object "RuleCiphers$Cipher")) (C := R_Cx) (T := T_Cx) (N := 10) hx hb hG in_Cx t_Cx t_Cx_ok n_Cx hown hK hP hD hS (3 + 16 * j + 0) he7 rfl 4 (by decide) (hG _ gw_2_0) (fun _ h => h) rfl (by decide +kernel) rfl rfl (Nat.le_of_ble_eq_true rfl) d_Cx_chooseCipher_7 (zw_O hSh hj ((az_cn k)) hf6.1) ?_
  clear hP hD hSh hS he7
  intro H locs L hP hD hSh hS
  obtain ⟨zO9, ezO9⟩ : ∃ z : Nat → Nat, az_u1 zO j ((az_cn k)) = z := ⟨_, rfl⟩
  rw [ezO9] at hSh
  refine lv_aload_n hx hb d_Cx_chooseCipher_10 rfl (lv_at hl 0 rfl) ?_
  refine lv_iconst (v := nI 1) hx hb d_Cx_chooseCipher_11 (by decide +kernel) ?_
  obtain ⟨hsd11, he10⟩ := zr_C0 hSh hj
  have hg := hSh.2.2.2.2.1 j hj
  refine ag_put (v := .int (nI 1)) (ty := .int) (C := R_Cx) (T := T_Cx) (N := 10) hx hb hG in_Cx t_Cx t_Cx_ok n_Cx hown hK hP hD hS (3 + 16 * j + 0) he10 rfl 2 (by decide) (hG _ gw_1_56) (fun _ h => h) rfl (by decide +kernel) rfl rfl (Nat.le_of_ble_eq_true rfl) d_Cx_chooseCipher_12 (zw_G1 hSh hj 1 (by omega)) ?_
  clear hP hD hSh hS he10
  intro H locs L hP hD hSh hS
  obtain ⟨zG12, ezG12⟩ : ∃ z : Nat → Nat × Nat, aw_g1 zG j 1 = z := ⟨_, rfl⟩
  rw [ezG12] at hSh
  have gzG : zG12 = v_Cx_chooseCipherV_zG zG zO j k := by subst ezG12 ezO9; rfl
  have gzO : zO9 = v_Cx_chooseCipherV_zO zG zO j k := by subst ezG12 ezO9; rfl
  have hSh : az_Sh g ad (v_Cx_chooseCipherV_zG zG zO j k) (v_Cx_chooseCipherV_zO zG zO j k) zX zY zA zB zM zI zL zK zN zF zQ L := by rw [← gzG, ← gzO]; exact hSh
  exact W.vret hx hb hr (fun t ht hW => ⟨⟨(), rfl, trivial, ag_Hr ht hP hD hSh⟩, hS.F ht⟩) hS.2.2 d_Cx_chooseCipher_15
noncomputable def v_Cx_setKeyV_zG (zG : Nat → Nat × Nat) (zO : Nat → Nat) (zA : Nat → Nat → Nat → Int32) (j : Nat) (a : Int64) (b : Int64) : Nat → Nat × Nat := aw_g1 zG j 2
noncomputable def v_Cx_setKeyV_zA (zG : Nat → Nat × Nat) (zO : Nat → Nat) (zA : Nat → Nat → Nat → Int32) (j : Nat) (a : Int64) (b : Int64) : Nat → Nat → Nat → Int32 := v_Ci_scheduleV_zA zA j (zO j) a b
abbrev ws_Cx_setKeyV : List Cond := Cond.code y_Cx_setKey b_Cx_setKey 5 none :: aw_G
abbrev rm_Cx_setKeyV : Room := { frames := 3, cells := 0, slots := 0, locals := 77 }
set_option maxHeartbeats 4000000 in
set_option maxRecDepth 100000 in
theorem k_Cx_setKeyV (l : Launch) (D : va_G) (g : Nat → ClassId) (ad : Nat → Nat) (N0 : Nat) (zG : Nat → Nat × Nat) (zO : Nat → Nat) (zX : Nat → Nat → Int64) (zY : Nat → Nat → Int32) (zA : Nat → Nat → Nat → Int32) (zB : Nat → Int32) (zM : Nat → Nat × Nat) (zI : Nat → Nat → Int32) (zL : Nat → Nat → Int64) (zK : Int32) (zN : Nat) (zF : Int32) (zQ : Int64) (j : Nat) (a : Int64) (b : Int64) (hj : j < 4) : Met l y_Cx_setKey ws_Cx_setKeyV rm_Cx_setKeyV (va_Pc ([.ref (aw_c ad j 0), .long a, .long b] : List Value) (ag_B D g N0 (az_Sh g ad zG zO zX zY zA zB zM zI zL zK zN zF zQ))) (va_Qv (fun (_ : Unit) => True) (fun (_ : Unit) t => ag_H D N0 (az_Sh g ad (v_Cx_setKeyV_zG zG zO zA j a b) zO zX zY (v_Cx_setKeyV_zA zG zO zA j a b) zB zM zI zL zK zN zF zQ) t.heap) (aw_Z N0)) 0 0 (aw_Z N0) := by
  refine Met.ofW (cc := b_Cx_setKey) (maxL := 5) (ret := none) (by decide) rfl ?_
  intro p e s m args below meth c s₁ B hml hv
  obtain ⟨rfl, ⟨L, hP, hD, hSh⟩, hU⟩ := hv
  have hx := B.exec
  have hb := B.bytes
  have hr := B.returns
  have hG : ∀ w ∈ aw_G, w.before _ s = true := fun w h => atoms_spec (ws := ws_Cx_setKeyV) B.pre w (List.mem_cons_of_mem _ h)
  have hown : s.vm.findClass "RuleCiphers$Context" = some m.cls := findClass_of_methodNamed B.named
  have hlocks := B.notSynchronized
  have hE := hU.1
  have hK := hE.1
  have hN := hE.2.1
  have hS : va_S (aw_Z N0) s.heap s.heap [] := va_S.rf
  have hl := lv_entry ([.ref (aw_c ad j 0), .long a, .long b] : List Value) (n := 5) (Nat.le_of_ble_eq_true rfl)
  rw [lg_entry_eq]
  generalize (lg_sl ([.ref (aw_c ad j 0), .long a, .long b] : List Value) ++ List.replicate (5 - (lg_sl ([.ref (aw_c ad j 0), .long a, .long b] : List Value)).length) Slot.unset).toArray = ls at hl ⊢
  have hl : lv_has ls 5 [(0, .ref (aw_c ad j 0)), (1, .long a), (3, .long b)] := hl
  refine lv_aload_n hx hb d_Cx_setKey_0 rfl (lv_at hl 0 rfl) ?_
  obtain ⟨hsd2, he1⟩ := zr_C0 hSh hj
  have hg := hSh.2.2.2.2.1 j hj
  refine va_get (C := R_Cx) (T := T_Cx) (N := 10) (v := .ref (aw_c ad j (zO j))) hx hb hG in_Cx hown hK hP (3 + 16 * j + 0) he1 rfl 4 (by decide) (hG _ gw_2_0) (fun _ h => h) rfl d_Cx_setKey_1 ?_
  clear he1
  refine lv_lload_n hx hb d_Cx_setKey_4 rfl (lv_at hl 1 rfl) ?_
  refine lv_lload_n hx hb d_Cx_setKey_5 rfl (lv_at hl 2 rfl) ?_
  have hrun3 : va_Run p l e (headSpec ws_Cx_setKeyV rm_Cx_setKeyV).room s m ([.ref (aw_c ad j 0), .long a, .long b] : List Value).toArray below meth c s.heap [] 0 0 0 0 (F0 m 6 ls [.long b, .long a, .ref (aw_c ad j (zO j))]) [] (va_Qv (fun (_ : Unit) => True) (fun (_ : Unit) t => ag_H D N0 (az_Sh g ad zG zO zX zY (v_Ci_scheduleV_zA zA j (zO j) a b) zB zM zI zL zK zN zF zQ) t.heap) (aw_Z N0) ([.ref (aw_c ad j (zO j)), .long a, .long b] : List Value).toArray) (aw_Z N0) := by
    rcases hsd2 with hq4 | hq4 | hq4 | hq4 | hq4
    · rw [hq4, v_Ci_scheduleV_zA_2]
      have he5 := zr_C2 hSh hj
      exact va_runU (As := [.long a, .long b]) (rest := []) ⟨hx, hb, hml, hown, hG⟩ (k_Rc_scheduleV l D g ad N0 zG zO zX zY zA zB zM zI zL zK zN zF zQ j a b hj) (aw_wA (owner := "RuleCiphers$Cipher") 2 hG hN gw_4_47 gw_4_28 gw_4_29 gw_4_45 gw_4_46 gw_0_4 nw_11 rfl rfl hd_Ci_schedule ⟨Nat.le_of_ble_eq_true rfl, Nat.le_of_ble_eq_true rfl⟩) (ag_qV (va_recv hK hP rfl he5) hP hD hSh hU hS) rfl rfl hl.1 rfl (lv_room (Nat.le_of_ble_eq_true rfl)) d_Cx_setKey_6 ⟨Nat.le_of_ble_eq_true rfl, Nat.le_of_ble_eq_true rfl⟩
    · rw [hq4, v_Ci_scheduleV_zA_5]
      have he6 := zr_C5 hSh hj
      exact va_runU (As := [.long a, .long b]) (rest := []) ⟨hx, hb, hml, hown, hG⟩ (k_Xt_scheduleV l D g ad N0 zG zO zX zY zA zB zM zI zL zK zN zF zQ j a b hj) (aw_wA (owner := "RuleCiphers$Cipher") 2 hG hN gw_5_20 gw_4_28 gw_4_29 gw_5_18 gw_5_19 gw_0_5 nw_11 rfl rfl hd_Ci_schedule ⟨Nat.le_of_ble_eq_true rfl, Nat.le_of_ble_eq_true rfl⟩) (ag_qV (va_recv hK hP rfl he6) hP hD hSh hU hS) rfl rfl hl.1 rfl (lv_room (Nat.le_of_ble_eq_true rfl)) d_Cx_setKey_6 ⟨Nat.le_of_ble_eq_true rfl, Nat.le_of_ble_eq_true rfl⟩
    · rw [hq4, v_Ci_scheduleV_zA_7]
      have he7 := zr_C7 hSh hj
      exact va_runU (As := [.long a, .long b]) (rest := []) ⟨hx, hb, hml, hown, hG⟩ (k_Sp_scheduleV l D g ad N0 zG zO zX zY zA zB zM zI zL zK zN zF zQ j a b hj) (aw_wA (owner := "RuleCiphers$Cipher") 2 hG hN gw_5_17 gw_4_28 gw_4_29 gw_5_15 gw_5_16 gw_0_6 nw_11 rfl rfl hd_Ci_schedule ⟨Nat.le_of_ble_eq_true rfl, Nat.le_of_ble_eq_true rfl⟩) (ag_qV (va_recv hK hP rfl he7) hP hD hSh hU hS) rfl rfl hl.1 rfl (lv_room (Nat.le_of_ble_eq_true rfl)) d_Cx_setKey_6 ⟨Nat.le_of_ble_eq_true rfl, Nat.le_of_ble_eq_true rfl⟩
    · rw [hq4, v_Ci_scheduleV_zA_10]
      have he8 := zr_C10 hSh hj
      exact va_runU (As := [.long a, .long b]) (rest := []) ⟨hx, hb, hml, hown, hG⟩ (k_Si_scheduleV l D g ad N0 zG zO zX zY zA zB zM zI zL zK zN zF zQ j a b hj) (aw_wA (owner := "RuleCiphers$Cipher") 2 hG hN gw_5_8 gw_4_28 gw_4_29 gw_5_6 gw_5_7 gw_0_7 nw_11 rfl rfl hd_Ci_schedule ⟨Nat.le_of_ble_eq_true rfl, Nat.le_of_ble_eq_true rfl⟩) (ag_qV (va_recv hK hP rfl he8) hP hD hSh hU hS) rfl rfl hl.1 rfl (lv_room (Nat.le_of_ble_eq_true rfl)) d_Cx_setKey_6 ⟨Nat.le_of_ble_eq_true rfl, Nat.le_of_ble_eq_true rfl⟩
    · rw [hq4, v_Ci_scheduleV_zA_12]
      have he9 := zr_C12 hSh hj
      exact va_runU (As := [.long a, .long b]) (rest := []) ⟨hx, hb, hml, hown, hG⟩ (k_Id_scheduleV l D g ad N0 zG zO zX zY zA zB zM zI zL zK zN zF zQ j a b hj) (aw_wA (owner := "RuleCiphers$Cipher") 2 hG hN gw_4_32 gw_4_28 gw_4_29 gw_4_30 gw_4_31 gw_0_8 nw_11 rfl rfl hd_Ci_schedule ⟨Nat.le_of_ble_eq_true rfl, Nat.le_of_ble_eq_true rfl⟩) (ag_qV (va_recv hK hP rfl he9) hP hD hSh hU hS) rfl rfl hl.1 rfl (lv_room (Nat.le_of_ble_eq_true rfl)) d_Cx_setKey_6 ⟨Nat.le_of_ble_eq_true rfl, Nat.le_of_ble_eq_true rfl⟩
  refine va_callv hrun3 hS (fun _ _ h => h) (fun _ h => h) ?_
  clear hP hD hSh hS hrun3
  intro u8 t8 H locs ht _ _ hB _ _ hS
  obtain ⟨L, hP, hD, hSh⟩ := hB
  rw [ht] at hP
  clear ht
  obtain ⟨zA10, ezA10⟩ : ∃ z : Nat → Nat → Nat → Int32, v_Ci_scheduleV_zA zA j (zO j) a b = z := ⟨_, rfl⟩
  rw [ezA10] at hSh
  refine lv_aload_n hx hb d_Cx_setKey_9 rfl (lv_at hl 0 rfl) ?_
  refine lv_iconst (v := nI 2) hx hb d_Cx_setKey_10 (by decide +kernel) ?_
  obtain ⟨hsd12, he11⟩ := zr_C0 hSh hj
  have hg := hSh.2.2.2.2.1 j hj
  refine ag_put (v := .int (nI 2)) (ty := .int) (C := R_Cx) (T := T_Cx) (N := 10) hx hb hG in_Cx t_Cx t_Cx_ok n_Cx hown hK hP hD hS (3 + 16 * j + 0) he11 rfl 2 (by decide) (hG _ gw_1_56) (fun _ h => h) rfl (by decide +kernel) rfl rfl (Nat.le_of_ble_eq_true rfl) d_Cx_setKey_11 (zw_G1 hSh hj 2 (by omega)) ?_
  clear hP hD hSh hS he11
  intro H locs L hP hD hSh hS
  obtain ⟨zG13, ezG13⟩ : ∃ z : Nat → Nat × Nat, aw_g1 zG j 2 = z := ⟨_, rfl⟩
  rw [ezG13] at hSh
  have gzG : zG13 = v_Cx_setKeyV_zG zG zO zA j a b := by subst ezG13 ezA10; rfl
  have gzA : zA10 = v_Cx_setKeyV_zA zG zO zA j a b := by subst ezG13 ezA10; rfl
  have hSh : az_Sh g ad (v_Cx_setKeyV_zG zG zO zA j a b) zO zX zY (v_Cx_setKeyV_zA zG zO zA j a b) zB zM zI zL zK zN zF zQ L := by rw [← gzG, ← gzA]; exact hSh
  exact W.vret hx hb hr (fun t ht hW => ⟨⟨(), rfl, trivial, ag_Hr ht hP hD hSh⟩, hS.F ht⟩) hS.2.2 d_Cx_setKey_14
noncomputable def v_Cx_setModeV_zG (zG : Nat → Nat × Nat) (zX : Nat → Nat → Int64) (zY : Nat → Nat → Int32) (j : Nat) (k : Nat) (b : Int64) : Nat → Nat × Nat := aw_g1 (aw_g2 zG j k) j 3
noncomputable def v_Cx_setModeV_zX (zG : Nat → Nat × Nat) (zX : Nat → Nat → Int64) (zY : Nat → Nat → Int32) (j : Nat) (k : Nat) (b : Int64) : Nat → Nat → Int64 := v_Tk_clearV_zX (az_u2 (az_u2 zX j 0 b) j 1 b) (az_u2 (az_u2 zY j 0 (nI 0)) j 1 (nI 0)) j
noncomputable def v_Cx_setModeV_zY (zG : Nat → Nat × Nat) (zX : Nat → Nat → Int64) (zY : Nat → Nat → Int32) (j : Nat) (k : Nat) (b : Int64) : Nat → Nat → Int32 := v_Tk_clearV_zY (az_u2 (az_u2 zX j 0 b) j 1 b) (az_u2 (az_u2 zY j 0 (nI 0)) j 1 (nI 0)) j
abbrev ws_Cx_setModeV : List Cond := Cond.code y_Cx_setMode b_Cx_setMode 4 none :: aw_G
abbrev rm_Cx_setModeV : Room := { frames := 1, cells := 0, slots := 0, locals := 20 }
set_option maxHeartbeats 4000000 in
set_option maxRecDepth 100000 in
theorem k_Cx_setModeV (l : Launch) (D : va_G) (g : Nat → ClassId) (ad : Nat → Nat) (N0 : Nat) (zG : Nat → Nat × Nat) (zO : Nat → Nat) (zX : Nat → Nat → Int64) (zY : Nat → Nat → Int32) (zA : Nat → Nat → Nat → Int32) (zB : Nat → Int32) (zM : Nat → Nat × Nat) (zI : Nat → Nat → Int32) (zL : Nat → Nat → Int64) (zK : Int32) (zN : Nat) (zF : Int32) (zQ : Int64) (j : Nat) (k : Nat) (b : Int64) (hj : j < 4) (hk : k ≤ 5) : Met l y_Cx_setMode ws_Cx_setModeV rm_Cx_setModeV (va_Pc ([.ref (aw_c ad j 0), .int (nI k), .long b] : List Value) (ag_B D g N0 (az_Sh g ad zG zO zX zY zA zB zM zI zL zK zN zF zQ))) (va_Qv (fun (_ : Unit) => True) (fun (_ : Unit) t => ag_H D N0 (az_Sh g ad (v_Cx_setModeV_zG zG zX zY j k b) zO (v_Cx_setModeV_zX zG zX zY j k b) (v_Cx_setModeV_zY zG zX zY j k b) zA zB zM zI zL zK zN zF zQ) t.heap) (aw_Z N0)) 0 0 (aw_Z N0) := by
  refine Met.ofW (cc := b_Cx_setMode) (maxL := 4) (ret := none) (by decide) rfl ?_
  intro p e s m args below meth c s₁ B hml hv
  obtain ⟨rfl, ⟨L, hP, hD, hSh⟩, hU⟩ := hv
  have hx := B.exec
  have hb := B.bytes
  have hr := B.returns
  have hG : ∀ w ∈ aw_G, w.before _ s = true := fun w h => atoms_spec (ws := ws_Cx_setModeV) B.pre w (List.mem_cons_of_mem _ h)
  have hown : s.vm.findClass "RuleCiphers$Context" = some m.cls := findClass_of_methodNamed B.named
  have hlocks := B.notSynchronized
  have hE := hU.1
  have hK := hE.1
  have hN := hE.2.1
  have hS : va_S (aw_Z N0) s.heap s.heap [] := va_S.rf
  have hl := lv_entry ([.ref (aw_c ad j 0), .int (nI k), .long b] : List Value) (n := 4) (Nat.le_of_ble_eq_true rfl)
  rw [lg_entry_eq]
  generalize (lg_sl ([.ref (aw_c ad j 0), .int (nI k), .long b] : List Value) ++ List.replicate (4 - (lg_sl ([.ref (aw_c ad j 0), .int (nI k), .long b] : List Value)).length) Slot.unset).toArray = ls at hl ⊢
  have hl : lv_has ls 4 [(0, .ref (aw_c ad j 0)), (1, .int (nI k)), (2, .long b)] := hl
  refine lv_aload_n hx hb d_Cx_setMode_0 rfl (lv_at hl 0 rfl) ?_
  refine lv_iload_n hx hb d_Cx_setMode_1 rfl (lv_at hl 1 rfl) ?_
  obtain ⟨hsd2, he1⟩ := zr_C0 hSh hj
  have hg := hSh.2.2.2.2.1 j hj
  refine ag_put (v := .int (nI k)) (ty := .int) (C := R_Cx) (T := T_Cx) (N := 10) hx hb hG in_Cx t_Cx t_Cx_ok n_Cx hown hK hP hD hS (3 + 16 * j + 0) he1 rfl 3 (by decide) (hG _ gw_1_58) (fun _ h => h) rfl (by decide +kernel) rfl rfl (Nat.le_of_ble_eq_true rfl) d_Cx_setMode_2 (zw_G2 hSh hj k (by omega)) ?_
  clear hP hD hSh hS he1
  intro H locs L hP hD hSh hS
  obtain ⟨zG3, ezG3⟩ : ∃ z : Nat → Nat × Nat, aw_g2 zG j k = z := ⟨_, rfl⟩
  rw [ezG3] at hSh
  refine lv_aload_n hx hb d_Cx_setMode_5 rfl (lv_at hl 0 rfl) ?_
  refine lv_lload_n hx hb d_Cx_setMode_6 rfl (lv_at hl 2 rfl) ?_
  obtain ⟨hsd5, he4⟩ := zr_C0 hSh hj
  have hg := hSh.2.2.2.2.1 j hj
  refine ag_put (v := .long b) (ty := .long) (C := R_Cx) (T := T_Cx) (N := 10) hx hb hG in_Cx t_Cx t_Cx_ok n_Cx hown hK hP hD hS (3 + 16 * j + 0) he4 rfl 5 (by decide) (hG _ gw_2_2) (fun _ h => h) rfl (by decide +kernel) rfl rfl (Nat.le_of_ble_eq_true rfl) d_Cx_setMode_7 (zw_X0 hSh hj b) ?_
  clear hP hD hSh hS he4
  intro H locs L hP hD hSh hS
  obtain ⟨zX6, ezX6⟩ : ∃ z : Nat → Nat → Int64, az_u2 zX j 0 b = z := ⟨_, rfl⟩
  rw [ezX6] at hSh
  refine lv_aload_n hx hb d_Cx_setMode_10 rfl (lv_at hl 0 rfl) ?_
  refine lv_lload_n hx hb d_Cx_setMode_11 rfl (lv_at hl 2 rfl) ?_
  obtain ⟨hsd8, he7⟩ := zr_C0 hSh hj
  have hg := hSh.2.2.2.2.1 j hj
  refine ag_put (v := .long b) (ty := .long) (C := R_Cx) (T := T_Cx) (N := 10) hx hb hG in_Cx t_Cx t_Cx_ok n_Cx hown hK hP hD hS (3 + 16 * j + 0) he7 rfl 6 (by decide) (hG _ gw_2_3) (fun _ h => h) rfl (by decide +kernel) rfl rfl (Nat.le_of_ble_eq_true rfl) d_Cx_setMode_12 (zw_X1 hSh hj b) ?_
  clear hP hD hSh hS he7
  intro H locs L hP hD hSh hS
  obtain ⟨zX9, ezX9⟩ : ∃ z : Nat → Nat → Int64, az_u2 zX6 j 1 b = z := ⟨_, rfl⟩
  rw [ezX9] at hSh
  refine lv_aload_n hx hb d_Cx_setMode_15 rfl (lv_at hl 0 rfl) ?_
  refine lv_iconst (v := nI 0) hx hb d_Cx_setMode_16 (by decide +kernel) ?_
  obtain ⟨hsd11, he10⟩ := zr_C0 hSh hj
  have hg := hSh.2.2.2.2.1 j hj
  refine ag_put (v := .int (nI 0)) (ty := .int) (C := R_Cx) (T := T_Cx) (N := 10) hx hb hG in_Cx t_Cx t_Cx_ok n_Cx hown hK hP hD hS (3 + 16 * j + 0) he10 rfl 8 (by decide) (hG _ gw_2_5) (fun _ h => h) rfl (by decide +kernel) rfl rfl (Nat.le_of_ble_eq_true rfl) d_Cx_setMode_17 (zw_Y0 hSh hj (nI 0)) ?_
  clear hP hD hSh hS he10
  intro H locs L hP hD hSh hS
  obtain ⟨zY12, ezY12⟩ : ∃ z : Nat → Nat → Int32, az_u2 zY j 0 (nI 0) = z := ⟨_, rfl⟩
  rw [ezY12] at hSh
  refine lv_aload_n hx hb d_Cx_setMode_20 rfl (lv_at hl 0 rfl) ?_
  refine lv_iconst (v := nI 0) hx hb d_Cx_setMode_21 (by decide +kernel) ?_
  obtain ⟨hsd14, he13⟩ := zr_C0 hSh hj
  have hg := hSh.2.2.2.2.1 j hj
  refine ag_put (v := .int (nI 0)) (ty := .int) (C := R_Cx) (T := T_Cx) (N := 10) hx hb hG in_Cx t_Cx t_Cx_ok n_Cx hown hK hP hD hS (3 + 16 * j + 0) he13 rfl 9 (by decide) (hG _ gw_2_6) (fun _ h => h) rfl (by decide +kernel) rfl rfl (Nat.le_of_ble_eq_true rfl) d_Cx_setMode_22 (zw_Y1 hSh hj (nI 0)) ?_
  clear hP hD hSh hS he13
  intro H locs L hP hD hSh hS
  obtain ⟨zY15, ezY15⟩ : ∃ z : Nat → Nat → Int32, az_u2 zY12 j 1 (nI 0) = z := ⟨_, rfl⟩
  rw [ezY15] at hSh
  refine lv_aload_n hx hb d_Cx_setMode_25 rfl (lv_at hl 0 rfl) ?_
  obtain ⟨hsd17, he16⟩ := zr_C0 hSh hj
  have hg := hSh.2.2.2.2.1 j hj
  refine va_get (C := R_Cx) (T := T_Cx) (N := 10) (v := .ref (aw_c ad j 15)) hx hb hG in_Cx hown hK hP (3 + 16 * j + 0) he16 rfl 1 (by decide) (hG _ gw_1_55) (fun _ h => h) rfl d_Cx_setMode_26 ?_
  clear he16
  have he18 := zr_C15 hSh hj
  refine va_callv (va_runV (As := []) (rest := []) ⟨hx, hb, hml, hown, hG⟩ (k_Tk_clearV l D g ad N0 zG3 zO zX9 zY15 zA zB zM zI zL zK zN zF zQ j hj) (aw_wV 0 hG gw_5_38 gw_5_35 gw_0_9 gw_5_36 gw_5_37 rfl rfl hd_Tk_clear ⟨Nat.le_of_ble_eq_true rfl, Nat.le_of_ble_eq_true rfl⟩) (ag_qV (va_recv hK hP rfl he18) hP hD hSh hU hS) rfl rfl hl.1 rfl (lv_room (Nat.le_of_ble_eq_true rfl)) d_Cx_setMode_29 ⟨Nat.le_of_ble_eq_true rfl, Nat.le_of_ble_eq_true rfl⟩) hS (fun _ _ h => h) (fun _ h => h) ?_
  clear hP hD hSh hS he18
  intro u8 t8 H locs ht _ _ hB _ _ hS
  obtain ⟨L, hP, hD, hSh⟩ := hB
  rw [ht] at hP
  clear ht
  obtain ⟨zX19, ezX19⟩ : ∃ z : Nat → Nat → Int64, v_Tk_clearV_zX zX9 zY15 j = z := ⟨_, rfl⟩
  rw [ezX19] at hSh
  obtain ⟨zY20, ezY20⟩ : ∃ z : Nat → Nat → Int32, v_Tk_clearV_zY zX9 zY15 j = z := ⟨_, rfl⟩
  rw [ezY20] at hSh
  refine lv_aload_n hx hb d_Cx_setMode_32 rfl (lv_at hl 0 rfl) ?_
  refine lv_iconst (v := nI 3) hx hb d_Cx_setMode_33 (by decide +kernel) ?_
  obtain ⟨hsd22, he21⟩ := zr_C0 hSh hj
  have hg := hSh.2.2.2.2.1 j hj
  refine ag_put (v := .int (nI 3)) (ty := .int) (C := R_Cx) (T := T_Cx) (N := 10) hx hb hG in_Cx t_Cx t_Cx_ok n_Cx hown hK hP hD hS (3 + 16 * j + 0) he21 rfl 2 (by decide) (hG _ gw_1_56) (fun _ h => h) rfl (by decide +kernel) rfl rfl (Nat.le_of_ble_eq_true rfl) d_Cx_setMode_34 (zw_G1 hSh hj 3 (by omega)) ?_
  clear hP hD hSh hS he21
  intro H locs L hP hD hSh hS
  obtain ⟨zG23, ezG23⟩ : ∃ z : Nat → Nat × Nat, aw_g1 zG3 j 3 = z := ⟨_, rfl⟩
  rw [ezG23] at hSh
  have gzG : zG23 = v_Cx_setModeV_zG zG zX zY j k b := by subst ezG23 ezY20 ezX19 ezY15 ezY12 ezX9 ezX6 ezG3; rfl
  have gzX : zX19 = v_Cx_setModeV_zX zG zX zY j k b := by subst ezG23 ezY20 ezX19 ezY15 ezY12 ezX9 ezX6 ezG3; rfl
  have gzY : zY20 = v_Cx_setModeV_zY zG zX zY j k b := by subst ezG23 ezY20 ezX19 ezY15 ezY12 ezX9 ezX6 ezG3; rfl
  have hSh : az_Sh g ad (v_Cx_setModeV_zG zG zX zY j k b) zO (v_Cx_setModeV_zX zG zX zY j k b) (v_Cx_setModeV_zY zG zX zY j k b) zA zB zM zI zL zK zN zF zQ L := by rw [← gzG, ← gzX, ← gzY]; exact hSh
  exact W.vret hx hb hr (fun t ht hW => ⟨⟨(), rfl, trivial, ag_Hr ht hP hD hSh⟩, hS.F ht⟩) hS.2.2 d_Cx_setMode_37
abbrev ws_Cx_feedsWholeBlocks1V : List Cond := Cond.code y_Cx_feedsWholeBlocks b_Cx_feedsWholeBlocks 1 (some .boolean) :: aw_G
abbrev rm_Cx_feedsWholeBlocks1V : Room := { frames := 0, cells := 0, slots := 0, locals := 0 }
set_option maxHeartbeats 4000000 in
set_option maxRecDepth 100000 in
theorem k_Cx_feedsWholeBlocks1V (l : Launch) (D : va_G) (g : Nat → ClassId) (ad : Nat → Nat) (N0 : Nat) (zG : Nat → Nat × Nat) (zO : Nat → Nat) (zX : Nat → Nat → Int64) (zY : Nat → Nat → Int32) (zA : Nat → Nat → Nat → Int32) (zB : Nat → Int32) (zM : Nat → Nat × Nat) (zI : Nat → Nat → Int32) (zL : Nat → Nat → Int64) (zK : Int32) (zN : Nat) (zF : Int32) (zQ : Int64) (j : Nat) (hj : j < 4) (hm : (zG j).2 ≤ 1) : Met l y_Cx_feedsWholeBlocks ws_Cx_feedsWholeBlocks1V rm_Cx_feedsWholeBlocks1V (va_Pc ([.ref (aw_c ad j 0)] : List Value) (ag_B D g N0 (az_Sh g ad zG zO zX zY zA zB zM zI zL zK zN zF zQ))) (va_Qi (fun r (_ : Unit) => r = nI 1) (fun (_ : Unit) t => ag_H D N0 (az_Sh g ad zG zO zX zY zA zB zM zI zL zK zN zF zQ) t.heap) (aw_Z N0)) 0 0 (aw_Z N0) := by
  refine Met.ofW (cc := b_Cx_feedsWholeBlocks) (maxL := 1) (ret := (some .boolean)) (by decide) rfl ?_
  intro p e s m args below meth c s₁ B hml hv
  obtain ⟨rfl, ⟨L, hP, hD, hSh⟩, hU⟩ := hv
  have hx := B.exec
  have hb := B.bytes
  have hr := B.returns
  have hG : ∀ w ∈ aw_G, w.before _ s = true := fun w h => atoms_spec (ws := ws_Cx_feedsWholeBlocks1V) B.pre w (List.mem_cons_of_mem _ h)
  have hown : s.vm.findClass "RuleCiphers$Context" = some m.cls := findClass_of_methodNamed B.named
  have hlocks := B.notSynchronized
  have hE := hU.1
  have hK := hE.1
  have hN := hE.2.1
  have hS : va_S (aw_Z N0) s.heap s.heap [] := va_S.rf
  have hl := lv_entry ([.ref (aw_c ad j 0)] : List Value) (n := 1) (Nat.le_of_ble_eq_true rfl)
  rw [lg_entry_eq]
  generalize (lg_sl ([.ref (aw_c ad j 0)] : List Value) ++ List.replicate (1 - (lg_sl ([.ref (aw_c ad j 0)] : List Value)).length) Slot.unset).toArray = ls at hl ⊢
  have hl : lv_has ls 1 [(0, .ref (aw_c ad j 0))] := hl
  refine lv_aload_n hx hb d_Cx_feedsWholeBlocks_0 rfl (lv_at hl 0 rfl) ?_
  obtain ⟨hsd2, he1⟩ := zr_C0 hSh hj
  have hg := hSh.2.2.2.2.1 j hj
  refine va_get (C := R_Cx) (T := T_Cx) (N := 10) (v := .int (nI ((zG j).2))) hx hb hG in_Cx hown hK hP (3 + 16 * j + 0) he1 rfl 3 (by decide) (hG _ gw_1_58) (fun _ h => h) rfl d_Cx_feedsWholeBlocks_1 ?_
  clear he1
  refine lv_if_eq (tgt := 15) hx hb d_Cx_feedsWholeBlocks_4 (by decide) (fun hb3 => ?_) (fun hb3 => ?_)
  · have nhb3 : (zG j).2 = 0 := (nI_eq (by omega) (by omega)).mp (show nI ((zG j).2) = nI 0 from hb3)
    refine lv_iconst (v := nI 1) hx hb d_Cx_feedsWholeBlocks_15 (by decide +kernel) ?_
    refine lv_goto (tgt := 20) hx hb d_Cx_feedsWholeBlocks_16 (by decide) ?_
    exact W.zret hx hb hr (by decide +kernel) (fun t ht hW => ⟨⟨_, (), rfl, rfl, ag_Hr ht hP hD hSh⟩, hS.F ht⟩) hS.2.2 d_Cx_feedsWholeBlocks_20
  · have nhb3 : ¬ (zG j).2 = 0 := fun z => absurd ((nI_eq (by omega) (by omega)).mpr z) (show ¬ nI ((zG j).2) = nI 0 from hb3)
    refine lv_aload_n hx hb d_Cx_feedsWholeBlocks_7 rfl (lv_at hl 0 rfl) ?_
    obtain ⟨hsd5, he4⟩ := zr_C0 hSh hj
    have hg := hSh.2.2.2.2.1 j hj
    refine va_get (C := R_Cx) (T := T_Cx) (N := 10) (v := .int (nI ((zG j).2))) hx hb hG in_Cx hown hK hP (3 + 16 * j + 0) he4 rfl 3 (by decide) (hG _ gw_1_58) (fun _ h => h) rfl d_Cx_feedsWholeBlocks_8 ?_
    clear he4
    refine lv_iconst (v := nI 1) hx hb d_Cx_feedsWholeBlocks_11 (by decide +kernel) ?_
    refine lv_icmp_ne (tgt := 19) hx hb d_Cx_feedsWholeBlocks_12 (by decide) (fun h => absurd (show nI ((zG j).2) = nI 1 from (nI_eq (by omega) (by omega)).mpr (by omega)) h) (fun _ => ?_)
    refine lv_iconst (v := nI 1) hx hb d_Cx_feedsWholeBlocks_15 (by decide +kernel) ?_
    refine lv_goto (tgt := 20) hx hb d_Cx_feedsWholeBlocks_16 (by decide) ?_
    exact W.zret hx hb hr (by decide +kernel) (fun t ht hW => ⟨⟨_, (), rfl, rfl, ag_Hr ht hP hD hSh⟩, hS.F ht⟩) hS.2.2 d_Cx_feedsWholeBlocks_20
abbrev ws_Cx_feedsWholeBlocks0V : List Cond := Cond.code y_Cx_feedsWholeBlocks b_Cx_feedsWholeBlocks 1 (some .boolean) :: aw_G
abbrev rm_Cx_feedsWholeBlocks0V : Room := { frames := 0, cells := 0, slots := 0, locals := 0 }
set_option maxHeartbeats 4000000 in
set_option maxRecDepth 100000 in
theorem k_Cx_feedsWholeBlocks0V (l : Launch) (D : va_G) (g : Nat → ClassId) (ad : Nat → Nat) (N0 : Nat) (zG : Nat → Nat × Nat) (zO : Nat → Nat) (zX : Nat → Nat → Int64) (zY : Nat → Nat → Int32) (zA : Nat → Nat → Nat → Int32) (zB : Nat → Int32) (zM : Nat → Nat × Nat) (zI : Nat → Nat → Int32) (zL : Nat → Nat → Int64) (zK : Int32) (zN : Nat) (zF : Int32) (zQ : Int64) (j : Nat) (hj : j < 4) (hm : 2 ≤ (zG j).2) : Met l y_Cx_feedsWholeBlocks ws_Cx_feedsWholeBlocks0V rm_Cx_feedsWholeBlocks0V (va_Pc ([.ref (aw_c ad j 0)] : List Value) (ag_B D g N0 (az_Sh g ad zG zO zX zY zA zB zM zI zL zK zN zF zQ))) (va_Qi (fun r (_ : Unit) => r = nI 0) (fun (_ : Unit) t => ag_H D N0 (az_Sh g ad zG zO zX zY zA zB zM zI zL zK zN zF zQ) t.heap) (aw_Z N0)) 0 0 (aw_Z N0) := by
  refine Met.ofW (cc := b_Cx_feedsWholeBlocks) (maxL := 1) (ret := (some .boolean)) (by decide) rfl ?_
  intro p e s m args below meth c s₁ B hml hv
  obtain ⟨rfl, ⟨L, hP, hD, hSh⟩, hU⟩ := hv
  have hx := B.exec
  have hb := B.bytes
  have hr := B.returns
  have hG : ∀ w ∈ aw_G, w.before _ s = true := fun w h => atoms_spec (ws := ws_Cx_feedsWholeBlocks0V) B.pre w (List.mem_cons_of_mem _ h)
  have hown : s.vm.findClass "RuleCiphers$Context" = some m.cls := findClass_of_methodNamed B.named
  have hlocks := B.notSynchronized
  have hE := hU.1
  have hK := hE.1
  have hN := hE.2.1
  have hS : va_S (aw_Z N0) s.heap s.heap [] := va_S.rf
  have hl := lv_entry ([.ref (aw_c ad j 0)] : List Value) (n := 1) (Nat.le_of_ble_eq_true rfl)
  rw [lg_entry_eq]
  generalize (lg_sl ([.ref (aw_c ad j 0)] : List Value) ++ List.replicate (1 - (lg_sl ([.ref (aw_c ad j 0)] : List Value)).length) Slot.unset).toArray = ls at hl ⊢
  have hl : lv_has ls 1 [(0, .ref (aw_c ad j 0))] := hl
  refine lv_aload_n hx hb d_Cx_feedsWholeBlocks_0 rfl (lv_at hl 0 rfl) ?_
  obtain ⟨hsd2, he1⟩ := zr_C0 hSh hj
  have hg := hSh.2.2.2.2.1 j hj
  refine va_get (C := R_Cx) (T := T_Cx) (N := 10) (v := .int (nI ((zG j).2))) hx hb hG in_Cx hown hK hP (3 + 16 * j + 0) he1 rfl 3 (by decide) (hG _ gw_1_58) (fun _ h => h) rfl d_Cx_feedsWholeBlocks_1 ?_
  clear he1
  refine lv_if_eq (tgt := 15) hx hb d_Cx_feedsWholeBlocks_4 (by decide) (fun h => absurd h (show ¬ nI ((zG j).2) = nI 0 from fun h9 => absurd ((nI_eq (by omega) (by omega)).mp h9) (by omega))) (fun _ => ?_)
  refine lv_aload_n hx hb d_Cx_feedsWholeBlocks_7 rfl (lv_at hl 0 rfl) ?_
  obtain ⟨hsd4, he3⟩ := zr_C0 hSh hj
  have hg := hSh.2.2.2.2.1 j hj
  refine va_get (C := R_Cx) (T := T_Cx) (N := 10) (v := .int (nI ((zG j).2))) hx hb hG in_Cx hown hK hP (3 + 16 * j + 0) he3 rfl 3 (by decide) (hG _ gw_1_58) (fun _ h => h) rfl d_Cx_feedsWholeBlocks_8 ?_
  clear he3
  refine lv_iconst (v := nI 1) hx hb d_Cx_feedsWholeBlocks_11 (by decide +kernel) ?_
  refine lv_icmp_ne (tgt := 19) hx hb d_Cx_feedsWholeBlocks_12 (by decide) (fun _ => ?_) (fun h => absurd h (show ¬ nI ((zG j).2) = nI 1 from fun h9 => absurd ((nI_eq (by omega) (by omega)).mp h9) (by omega)))
  refine lv_iconst (v := nI 0) hx hb d_Cx_feedsWholeBlocks_19 (by decide +kernel) ?_
  exact W.zret hx hb hr (by decide +kernel) (fun t ht hW => ⟨⟨_, (), rfl, rfl, ag_Hr ht hP hD hSh⟩, hS.F ht⟩) hS.2.2 d_Cx_feedsWholeBlocks_20
noncomputable def v_Cx_chainedV (zO : Nat → Nat) (zX : Nat → Nat → Int64) (zA : Nat → Nat → Nat → Int32) (j : Nat) (bk : Int32) (b : Int64) : Int64 := (if bk = 0 then (az_u2 zX j 1 (v_Ci_onV zA j (zO j) (b ^^^ (zX j 1)))) j 1 else ((v_Ci_backV zA j (zO j) b) ^^^ (zX j 1)))
noncomputable def v_Cx_chainedV_zX (zO : Nat → Nat) (zX : Nat → Nat → Int64) (zA : Nat → Nat → Nat → Int32) (j : Nat) (bk : Int32) (b : Int64) : Nat → Nat → Int64 := (if bk = 0 then az_u2 zX j 1 (v_Ci_onV zA j (zO j) (b ^^^ (zX j 1))) else az_u2 zX j 1 b)
abbrev ws_Cx_chainedV : List Cond := Cond.code y_Cx_chained b_Cx_chained 6 (some .long) :: aw_G
abbrev rm_Cx_chainedV : Room := { frames := 3, cells := 0, slots := 0, locals := 79 }
set_option maxHeartbeats 4000000 in
set_option maxRecDepth 100000 in
theorem k_Cx_chainedV (l : Launch) (D : va_G) (g : Nat → ClassId) (ad : Nat → Nat) (N0 : Nat) (zG : Nat → Nat × Nat) (zO : Nat → Nat) (zX : Nat → Nat → Int64) (zY : Nat → Nat → Int32) (zA : Nat → Nat → Nat → Int32) (zB : Nat → Int32) (zM : Nat → Nat × Nat) (zI : Nat → Nat → Int32) (zL : Nat → Nat → Int64) (zK : Int32) (zN : Nat) (zF : Int32) (zQ : Int64) (j : Nat) (bk : Int32) (b : Int64) (hj : j < 4) : Met l y_Cx_chained ws_Cx_chainedV rm_Cx_chainedV (va_Pc ([.ref (aw_c ad j 0), .int bk, .long b] : List Value) (ag_B D g N0 (az_Sh g ad zG zO zX zY zA zB zM zI zL zK zN zF zQ))) (va_Ql (fun r (_ : Unit) => r = v_Cx_chainedV zO zX zA j bk b) (fun (_ : Unit) t => ag_H D N0 (az_Sh g ad zG zO (v_Cx_chainedV_zX zO zX zA j bk b) zY zA zB zM zI zL zK zN zF zQ) t.heap) (aw_Z N0)) 0 0 (aw_Z N0) := by
  refine Met.ofW (cc := b_Cx_chained) (maxL := 6) (ret := (some .long)) (by decide) rfl ?_
  intro p e s m args below meth c s₁ B hml hv
  obtain ⟨rfl, ⟨L, hP, hD, hSh⟩, hU⟩ := hv
  have hx := B.exec
  have hb := B.bytes
  have hr := B.returns
  have hG : ∀ w ∈ aw_G, w.before _ s = true := fun w h => atoms_spec (ws := ws_Cx_chainedV) B.pre w (List.mem_cons_of_mem _ h)
  have hown : s.vm.findClass "RuleCiphers$Context" = some m.cls := findClass_of_methodNamed B.named
  have hlocks := B.notSynchronized
  have hE := hU.1
  have hK := hE.1
  have hN := hE.2.1
  have hS : va_S (aw_Z N0) s.heap s.heap [] := va_S.rf
  have hl := lv_entry ([.ref (aw_c ad j 0), .int bk, .long b] : List Value) (n := 6) (Nat.le_of_ble_eq_true rfl)
  rw [lg_entry_eq]
  generalize (lg_sl ([.ref (aw_c ad j 0), .int bk, .long b] : List Value) ++ List.replicate (6 - (lg_sl ([.ref (aw_c ad j 0), .int bk, .long b] : List Value)).length) Slot.unset).toArray = ls at hl ⊢
  have hl : lv_has ls 6 [(0, .ref (aw_c ad j 0)), (1, .int bk), (2, .long b)] := hl
  refine lv_iload_n hx hb d_Cx_chained_0 rfl (lv_at hl 1 rfl) ?_
  refine lv_if_eq (tgt := 27) hx hb d_Cx_chained_1 (by decide) (fun hb1 => ?_) (fun hb1 => ?_)
  · refine lv_aload_n hx hb d_Cx_chained_27 rfl (lv_at hl 0 rfl) ?_
    refine lv_aload_n hx hb d_Cx_chained_28 rfl (lv_at hl 0 rfl) ?_
    obtain ⟨hsd3, he2⟩ := zr_C0 hSh hj
    have hg := hSh.2.2.2.2.1 j hj
    refine va_get (C := R_Cx) (T := T_Cx) (N := 10) (v := .ref (aw_c ad j (zO j))) hx hb hG in_Cx hown hK hP (3 + 16 * j + 0) he2 rfl 4 (by decide) (hG _ gw_2_0) (fun _ h => h) rfl d_Cx_chained_29 ?_
    clear he2
    refine lv_lload_n hx hb d_Cx_chained_32 rfl (lv_at hl 2 rfl) ?_
    refine lv_aload_n hx hb d_Cx_chained_33 rfl (lv_at hl 0 rfl) ?_
    obtain ⟨hsd5, he4⟩ := zr_C0 hSh hj
    have hg := hSh.2.2.2.2.1 j hj
    refine va_get (C := R_Cx) (T := T_Cx) (N := 10) (v := .long (zX j 1)) hx hb hG in_Cx hown hK hP (3 + 16 * j + 0) he4 rfl 6 (by decide) (hG _ gw_2_3) (fun _ h => h) rfl d_Cx_chained_34 ?_
    clear he4
    refine lv_lxor hx hb d_Cx_chained_37 ?_
    refine ag_topl (fun y6 ey6 => ?_)
    have hrun7 : va_Run p l e (headSpec ws_Cx_chainedV rm_Cx_chainedV).room s m ([.ref (aw_c ad j 0), .int bk, .long b] : List Value).toArray below meth c s.heap [] 0 0 0 0 (F0 m 38 ls [.long y6, .ref (aw_c ad j (zO j)), .ref (aw_c ad j 0)]) [.ref (aw_c ad j 0)] (va_Ql (fun r (_ : Unit) => r = v_Ci_onV zA j (zO j) y6) (fun (_ : Unit) t => ag_H D N0 (az_Sh g ad zG zO zX zY zA zB zM zI zL zK zN zF zQ) t.heap) (aw_Z N0) ([.ref (aw_c ad j (zO j)), .long y6] : List Value).toArray) (aw_Z N0) := by
      rcases hsd3 with hq8 | hq8 | hq8 | hq8 | hq8
      · rw [hq8, v_Ci_onV_2]
        have he9 := zr_C2 hSh hj
        exact va_runU (As := [.long y6]) (rest := [.ref (aw_c ad j 0)]) ⟨hx, hb, hml, hown, hG⟩ (k_Rc_onV l D g ad N0 zG zO zX zY zA zB zM zI zL zK zN zF zQ j y6 hj) (aw_wA (owner := "RuleCiphers$Cipher") 1 hG hN gw_6_57 gw_8_14 gw_6_51 gw_6_55 gw_6_56 gw_0_4 nw_36 rfl rfl hd_Ci_on ⟨Nat.le_of_ble_eq_true rfl, Nat.le_of_ble_eq_true rfl⟩) (ag_qV (va_recv hK hP rfl he9) hP hD hSh hU hS) rfl rfl hl.1 rfl (lv_room (Nat.le_of_ble_eq_true rfl)) d_Cx_chained_38 ⟨Nat.le_of_ble_eq_true rfl, Nat.le_of_ble_eq_true rfl⟩
      · rw [hq8, v_Ci_onV_5]
        have he10 := zr_C5 hSh hj
        exact va_runU (As := [.long y6]) (rest := [.ref (aw_c ad j 0)]) ⟨hx, hb, hml, hown, hG⟩ (k_Xt_onV l D g ad N0 zG zO zX zY zA zB zM zI zL zK zN zF zQ j y6 hj) (aw_wA (owner := "RuleCiphers$Cipher") 1 hG hN gw_7_6 gw_8_14 gw_6_51 gw_7_4 gw_7_5 gw_0_5 nw_36 rfl rfl hd_Ci_on ⟨Nat.le_of_ble_eq_true rfl, Nat.le_of_ble_eq_true rfl⟩) (ag_qV (va_recv hK hP rfl he10) hP hD hSh hU hS) rfl rfl hl.1 rfl (lv_room (Nat.le_of_ble_eq_true rfl)) d_Cx_chained_38 ⟨Nat.le_of_ble_eq_true rfl, Nat.le_of_ble_eq_true rfl⟩
      · rw [hq8, v_Ci_onV_7]
        have he11 := zr_C7 hSh hj
        exact va_runU (As := [.long y6]) (rest := [.ref (aw_c ad j 0)]) ⟨hx, hb, hml, hown, hG⟩ (k_Sp_onV l D g ad N0 zG zO zX zY zA zB zM zI zL zK zN zF zQ j y6 hj) (aw_wA (owner := "RuleCiphers$Cipher") 1 hG hN gw_7_3 gw_8_14 gw_6_51 gw_7_1 gw_7_2 gw_0_6 nw_36 rfl rfl hd_Ci_on ⟨Nat.le_of_ble_eq_true rfl, Nat.le_of_ble_eq_true rfl⟩) (ag_qV (va_recv hK hP rfl he11) hP hD hSh hU hS) rfl rfl hl.1 rfl (lv_room (Nat.le_of_ble_eq_true rfl)) d_Cx_chained_38 ⟨Nat.le_of_ble_eq_true rfl, Nat.le_of_ble_eq_true rfl⟩
      · rw [hq8, v_Ci_onV_10]
        have he12 := zr_C10 hSh hj
        exact va_runU (As := [.long y6]) (rest := [.ref (aw_c ad j 0)]) ⟨hx, hb, hml, hown, hG⟩ (k_Si_onV l D g ad N0 zG zO zX zY zA zB zM zI zL zK zN zF zQ j y6 hj) (aw_wA (owner := "RuleCiphers$Cipher") 1 hG hN gw_7_0 gw_8_14 gw_6_51 gw_6_58 gw_6_59 gw_0_7 nw_36 rfl rfl hd_Ci_on ⟨Nat.le_of_ble_eq_true rfl, Nat.le_of_ble_eq_true rfl⟩) (ag_qV (va_recv hK hP rfl he12) hP hD hSh hU hS) rfl rfl hl.1 rfl (lv_room (Nat.le_of_ble_eq_true rfl)) d_Cx_chained_38 ⟨Nat.le_of_ble_eq_true rfl, Nat.le_of_ble_eq_true rfl⟩
      · rw [hq8, v_Ci_onV_12]
        have he13 := zr_C12 hSh hj
        exact va_runU (As := [.long y6]) (rest := [.ref (aw_c ad j 0)]) ⟨hx, hb, hml, hown, hG⟩ (k_Id_onV l D g ad N0 zG zO zX zY zA zB zM zI zL zK zN zF zQ j y6 hj) (aw_wA (owner := "RuleCiphers$Cipher") 1 hG hN gw_6_54 gw_8_14 gw_6_51 gw_6_52 gw_6_53 gw_0_8 nw_36 rfl rfl hd_Ci_on ⟨Nat.le_of_ble_eq_true rfl, Nat.le_of_ble_eq_true rfl⟩) (ag_qV (va_recv hK hP rfl he13) hP hD hSh hU hS) rfl rfl hl.1 rfl (lv_room (Nat.le_of_ble_eq_true rfl)) d_Cx_chained_38 ⟨Nat.le_of_ble_eq_true rfl, Nat.le_of_ble_eq_true rfl⟩
    refine va_calll hrun7 hS (fun _ _ h => h) (fun _ h => h) ?_
    clear hP hD hSh hS hrun7
    intro y14 u8 t8 H locs ht _ ey14 hB _ _ hS
    obtain ⟨L, hP, hD, hSh⟩ := hB
    rw [ht] at hP
    clear ht
    have ey14 := ey14.symm
    obtain ⟨hsd16, he15⟩ := zr_C0 hSh hj
    have hg := hSh.2.2.2.2.1 j hj
    refine ag_put (v := .long y14) (ty := .long) (C := R_Cx) (T := T_Cx) (N := 10) hx hb hG in_Cx t_Cx t_Cx_ok n_Cx hown hK hP hD hS (3 + 16 * j + 0) he15 rfl 6 (by decide) (hG _ gw_2_3) (fun _ h => h) rfl (by decide +kernel) rfl rfl (Nat.le_of_ble_eq_true rfl) d_Cx_chained_41 (zw_X1 hSh hj y14) ?_
    clear hP hD hSh hS he15
    intro H locs L hP hD hSh hS
    obtain ⟨zX17, ezX17⟩ : ∃ z : Nat → Nat → Int64, az_u2 zX j 1 y14 = z := ⟨_, rfl⟩
    rw [ezX17] at hSh
    refine lv_aload_n hx hb d_Cx_chained_44 rfl (lv_at hl 0 rfl) ?_
    obtain ⟨hsd19, he18⟩ := zr_C0 hSh hj
    have hg := hSh.2.2.2.2.1 j hj
    refine va_get (C := R_Cx) (T := T_Cx) (N := 10) (v := .long (zX17 j 1)) hx hb hG in_Cx hown hK hP (3 + 16 * j + 0) he18 rfl 6 (by decide) (hG _ gw_2_3) (fun _ h => h) rfl d_Cx_chained_45 ?_
    clear he18
    have gzX : zX17 = v_Cx_chainedV_zX zO zX zA j bk b := by subst ezX17 ey14 ey6; unfold v_Cx_chainedV_zX; rw [if_pos hb1]
    have hSh : az_Sh g ad zG zO (v_Cx_chainedV_zX zO zX zA j bk b) zY zA zB zM zI zL zK zN zF zQ L := by rw [← gzX]; exact hSh
    exact W.lret hx hb hr (fun t ht hW => ⟨⟨_, (), rfl, (by subst ezX17 ey14 ey6; unfold v_Cx_chainedV; rw [if_pos hb1]), ag_Hr ht hP hD hSh⟩, hS.F ht⟩) hS.2.2 d_Cx_chained_48
  · refine lv_aload_n hx hb d_Cx_chained_4 rfl (lv_at hl 0 rfl) ?_
    obtain ⟨hsd21, he20⟩ := zr_C0 hSh hj
    have hg := hSh.2.2.2.2.1 j hj
    refine va_get (C := R_Cx) (T := T_Cx) (N := 10) (v := .ref (aw_c ad j (zO j))) hx hb hG in_Cx hown hK hP (3 + 16 * j + 0) he20 rfl 4 (by decide) (hG _ gw_2_0) (fun _ h => h) rfl d_Cx_chained_5 ?_
    clear he20
    refine lv_lload_n hx hb d_Cx_chained_8 rfl (lv_at hl 2 rfl) ?_
    have hrun22 : va_Run p l e (headSpec ws_Cx_chainedV rm_Cx_chainedV).room s m ([.ref (aw_c ad j 0), .int bk, .long b] : List Value).toArray below meth c s.heap [] 0 0 0 0 (F0 m 9 ls [.long b, .ref (aw_c ad j (zO j))]) [] (va_Ql (fun r (_ : Unit) => r = v_Ci_backV zA j (zO j) b) (fun (_ : Unit) t => ag_H D N0 (az_Sh g ad zG zO zX zY zA zB zM zI zL zK zN zF zQ) t.heap) (aw_Z N0) ([.ref (aw_c ad j (zO j)), .long b] : List Value).toArray) (aw_Z N0) := by
      rcases hsd21 with hq23 | hq23 | hq23 | hq23 | hq23
      · rw [hq23, v_Ci_backV_2]
        have he24 := zr_C2 hSh hj
        exact va_runU (As := [.long b]) (rest := []) ⟨hx, hb, hml, hown, hG⟩ (k_Rc_backV l D g ad N0 zG zO zX zY zA zB zM zI zL zK zN zF zQ j b hj) (aw_wA (owner := "RuleCiphers$Cipher") 1 hG hN gw_6_29 gw_8_13 gw_6_10 gw_6_27 gw_6_28 gw_0_4 nw_21 rfl rfl hd_Ci_back ⟨Nat.le_of_ble_eq_true rfl, Nat.le_of_ble_eq_true rfl⟩) (ag_qV (va_recv hK hP rfl he24) hP hD hSh hU hS) rfl rfl hl.1 rfl (lv_room (Nat.le_of_ble_eq_true rfl)) d_Cx_chained_9 ⟨Nat.le_of_ble_eq_true rfl, Nat.le_of_ble_eq_true rfl⟩
      · rw [hq23, v_Ci_backV_5]
        have he25 := zr_C5 hSh hj
        exact va_runU (As := [.long b]) (rest := []) ⟨hx, hb, hml, hown, hG⟩ (k_Xt_backV l D g ad N0 zG zO zX zY zA zB zM zI zL zK zN zF zQ j b hj) (aw_wA (owner := "RuleCiphers$Cipher") 1 hG hN gw_6_44 gw_8_13 gw_6_10 gw_6_42 gw_6_43 gw_0_5 nw_21 rfl rfl hd_Ci_back ⟨Nat.le_of_ble_eq_true rfl, Nat.le_of_ble_eq_true rfl⟩) (ag_qV (va_recv hK hP rfl he25) hP hD hSh hU hS) rfl rfl hl.1 rfl (lv_room (Nat.le_of_ble_eq_true rfl)) d_Cx_chained_9 ⟨Nat.le_of_ble_eq_true rfl, Nat.le_of_ble_eq_true rfl⟩
      · rw [hq23, v_Ci_backV_7]
        have he26 := zr_C7 hSh hj
        exact va_runU (As := [.long b]) (rest := []) ⟨hx, hb, hml, hown, hG⟩ (k_Sp_backV l D g ad N0 zG zO zX zY zA zB zM zI zL zK zN zF zQ j b hj) (aw_wA (owner := "RuleCiphers$Cipher") 1 hG hN gw_6_41 gw_8_13 gw_6_10 gw_6_39 gw_6_40 gw_0_6 nw_21 rfl rfl hd_Ci_back ⟨Nat.le_of_ble_eq_true rfl, Nat.le_of_ble_eq_true rfl⟩) (ag_qV (va_recv hK hP rfl he26) hP hD hSh hU hS) rfl rfl hl.1 rfl (lv_room (Nat.le_of_ble_eq_true rfl)) d_Cx_chained_9 ⟨Nat.le_of_ble_eq_true rfl, Nat.le_of_ble_eq_true rfl⟩
      · rw [hq23, v_Ci_backV_10]
        have he27 := zr_C10 hSh hj
        exact va_runU (As := [.long b]) (rest := []) ⟨hx, hb, hml, hown, hG⟩ (k_Si_backV l D g ad N0 zG zO zX zY zA zB zM zI zL zK zN zF zQ j b hj) (aw_wA (owner := "RuleCiphers$Cipher") 1 hG hN gw_6_35 gw_8_13 gw_6_10 gw_6_33 gw_6_34 gw_0_7 nw_21 rfl rfl hd_Ci_back ⟨Nat.le_of_ble_eq_true rfl, Nat.le_of_ble_eq_true rfl⟩) (ag_qV (va_recv hK hP rfl he27) hP hD hSh hU hS) rfl rfl hl.1 rfl (lv_room (Nat.le_of_ble_eq_true rfl)) d_Cx_chained_9 ⟨Nat.le_of_ble_eq_true rfl, Nat.le_of_ble_eq_true rfl⟩
      · rw [hq23, v_Ci_backV_12]
        have he28 := zr_C12 hSh hj
        exact va_runU (As := [.long b]) (rest := []) ⟨hx, hb, hml, hown, hG⟩ (k_Id_backV l D g ad N0 zG zO zX zY zA zB zM zI zL zK zN zF zQ j b hj) (aw_wA (owner := "RuleCiphers$Cipher") 1 hG hN gw_6_13 gw_8_13 gw_6_10 gw_6_11 gw_6_12 gw_0_8 nw_21 rfl rfl hd_Ci_back ⟨Nat.le_of_ble_eq_true rfl, Nat.le_of_ble_eq_true rfl⟩) (ag_qV (va_recv hK hP rfl he28) hP hD hSh hU hS) rfl rfl hl.1 rfl (lv_room (Nat.le_of_ble_eq_true rfl)) d_Cx_chained_9 ⟨Nat.le_of_ble_eq_true rfl, Nat.le_of_ble_eq_true rfl⟩
    refine va_calll hrun22 hS (fun _ _ h => h) (fun _ h => h) ?_
    clear hP hD hSh hS hrun22
    intro y29 u8 t8 H locs ht _ ey29 hB _ _ hS
    obtain ⟨L, hP, hD, hSh⟩ := hB
    rw [ht] at hP
    clear ht
    have ey29 := ey29.symm
    refine lv_aload_n hx hb d_Cx_chained_12 rfl (lv_at hl 0 rfl) ?_
    obtain ⟨hsd31, he30⟩ := zr_C0 hSh hj
    have hg := hSh.2.2.2.2.1 j hj
    refine va_get (C := R_Cx) (T := T_Cx) (N := 10) (v := .long (zX j 1)) hx hb hG in_Cx hown hK hP (3 + 16 * j + 0) he30 rfl 6 (by decide) (hG _ gw_2_3) (fun _ h => h) rfl d_Cx_chained_13 ?_
    clear he30
    refine lv_lxor hx hb d_Cx_chained_16 ?_
    refine ag_topl (fun y32 ey32 => ?_)
    refine lv_lstore hx hb d_Cx_chained_17 hl (by decide) rfl (fun ls hl => ?_)
    have hl : lv_has ls 6 [(4, .long y32), (0, .ref (aw_c ad j 0)), (1, .int bk), (2, .long b)] := hl
    refine lv_aload_n hx hb d_Cx_chained_19 rfl (lv_at hl 1 rfl) ?_
    refine lv_lload_n hx hb d_Cx_chained_20 rfl (lv_at hl 3 rfl) ?_
    obtain ⟨hsd34, he33⟩ := zr_C0 hSh hj
    have hg := hSh.2.2.2.2.1 j hj
    refine ag_put (v := .long b) (ty := .long) (C := R_Cx) (T := T_Cx) (N := 10) hx hb hG in_Cx t_Cx t_Cx_ok n_Cx hown hK hP hD hS (3 + 16 * j + 0) he33 rfl 6 (by decide) (hG _ gw_2_3) (fun _ h => h) rfl (by decide +kernel) rfl rfl (Nat.le_of_ble_eq_true rfl) d_Cx_chained_21 (zw_X1 hSh hj b) ?_
    clear hP hD hSh hS he33
    intro H locs L hP hD hSh hS
    obtain ⟨zX35, ezX35⟩ : ∃ z : Nat → Nat → Int64, az_u2 zX j 1 b = z := ⟨_, rfl⟩
    rw [ezX35] at hSh
    refine lv_lload hx hb d_Cx_chained_24 (lv_at hl 0 rfl) ?_
    have gzX : zX35 = v_Cx_chainedV_zX zO zX zA j bk b := by subst ezX35 ey32 ey29; unfold v_Cx_chainedV_zX; rw [if_neg hb1]
    have hSh : az_Sh g ad zG zO (v_Cx_chainedV_zX zO zX zA j bk b) zY zA zB zM zI zL zK zN zF zQ L := by rw [← gzX]; exact hSh
    exact W.lret hx hb hr (fun t ht hW => ⟨⟨_, (), rfl, (by subst ezX35 ey32 ey29; unfold v_Cx_chainedV; rw [if_neg hb1]), ag_Hr ht hP hD hSh⟩, hS.F ht⟩) hS.2.2 d_Cx_chained_26
noncomputable def v_Cx_fedBehindV (zO : Nat → Nat) (zX : Nat → Nat → Int64) (zA : Nat → Nat → Nat → Int32) (j : Nat) (bk : Int32) (b : Int32) : Int32 := (if bk = 0 then (b ^^^ (v_Ru_byteOfV (v_Ci_onV zA j (zO j) (zX j 1)) (nI 0))) else (b ^^^ (v_Ru_byteOfV (v_Ci_onV zA j (zO j) (zX j 1)) (nI 0))))
noncomputable def v_Cx_fedBehindV_zX (zO : Nat → Nat) (zX : Nat → Nat → Int64) (zA : Nat → Nat → Nat → Int32) (j : Nat) (bk : Int32) (b : Int32) : Nat → Nat → Int64 := (if bk = 0 then az_u2 zX j 1 ((jL_shl (zX j 1) (nI 8)) ||| (Int32.toInt64 (b ^^^ (v_Ru_byteOfV (v_Ci_onV zA j (zO j) (zX j 1)) (nI 0))))) else az_u2 zX j 1 ((jL_shl (zX j 1) (nI 8)) ||| (Int32.toInt64 b)))
abbrev ws_Cx_fedBehindV : List Cond := Cond.code y_Cx_fedBehind b_Cx_fedBehind 4 (some .int) :: aw_G
abbrev rm_Cx_fedBehindV : Room := { frames := 3, cells := 0, slots := 0, locals := 79 }
set_option maxHeartbeats 4000000 in
set_option maxRecDepth 100000 in
theorem k_Cx_fedBehindV (l : Launch) (D : va_G) (g : Nat → ClassId) (ad : Nat → Nat) (N0 : Nat) (zG : Nat → Nat × Nat) (zO : Nat → Nat) (zX : Nat → Nat → Int64) (zY : Nat → Nat → Int32) (zA : Nat → Nat → Nat → Int32) (zB : Nat → Int32) (zM : Nat → Nat × Nat) (zI : Nat → Nat → Int32) (zL : Nat → Nat → Int64) (zK : Int32) (zN : Nat) (zF : Int32) (zQ : Int64) (j : Nat) (bk : Int32) (b : Int32) (hj : j < 4) : Met l y_Cx_fedBehind ws_Cx_fedBehindV rm_Cx_fedBehindV (va_Pc ([.ref (aw_c ad j 0), .int bk, .int b] : List Value) (ag_B D g N0 (az_Sh g ad zG zO zX zY zA zB zM zI zL zK zN zF zQ))) (va_Qi (fun r (_ : Unit) => r = v_Cx_fedBehindV zO zX zA j bk b) (fun (_ : Unit) t => ag_H D N0 (az_Sh g ad zG zO (v_Cx_fedBehindV_zX zO zX zA j bk b) zY zA zB zM zI zL zK zN zF zQ) t.heap) (aw_Z N0)) 0 0 (aw_Z N0) := by
  refine Met.ofW (cc := b_Cx_fedBehind) (maxL := 4) (ret := (some .int)) (by decide) rfl ?_
  intro p e s m args below meth c s₁ B hml hv
  obtain ⟨rfl, ⟨L, hP, hD, hSh⟩, hU⟩ := hv
  have hx := B.exec
  have hb := B.bytes
  have hr := B.returns
  have hG : ∀ w ∈ aw_G, w.before _ s = true := fun w h => atoms_spec (ws := ws_Cx_fedBehindV) B.pre w (List.mem_cons_of_mem _ h)
  have hown : s.vm.findClass "RuleCiphers$Context" = some m.cls := findClass_of_methodNamed B.named
  have hlocks := B.notSynchronized
  have hE := hU.1
  have hK := hE.1
  have hN := hE.2.1
  have hS : va_S (aw_Z N0) s.heap s.heap [] := va_S.rf
  have hl := lv_entry ([.ref (aw_c ad j 0), .int bk, .int b] : List Value) (n := 4) (Nat.le_of_ble_eq_true rfl)
  rw [lg_entry_eq]
  generalize (lg_sl ([.ref (aw_c ad j 0), .int bk, .int b] : List Value) ++ List.replicate (4 - (lg_sl ([.ref (aw_c ad j 0), .int bk, .int b] : List Value)).length) Slot.unset).toArray = ls at hl ⊢
  have hl : lv_has ls 4 [(0, .ref (aw_c ad j 0)), (1, .int bk), (2, .int b)] := hl
  refine lv_iload_n hx hb d_Cx_fedBehind_0 rfl (lv_at hl 2 rfl) ?_
  refine lv_aload_n hx hb d_Cx_fedBehind_1 rfl (lv_at hl 0 rfl) ?_
  obtain ⟨hsd2, he1⟩ := zr_C0 hSh hj
  have hg := hSh.2.2.2.2.1 j hj
  refine va_get (C := R_Cx) (T := T_Cx) (N := 10) (v := .ref (aw_c ad j (zO j))) hx hb hG in_Cx hown hK hP (3 + 16 * j + 0) he1 rfl 4 (by decide) (hG _ gw_2_0) (fun _ h => h) rfl d_Cx_fedBehind_2 ?_
  clear he1
  refine lv_aload_n hx hb d_Cx_fedBehind_5 rfl (lv_at hl 0 rfl) ?_
  obtain ⟨hsd4, he3⟩ := zr_C0 hSh hj
  have hg := hSh.2.2.2.2.1 j hj
  refine va_get (C := R_Cx) (T := T_Cx) (N := 10) (v := .long (zX j 1)) hx hb hG in_Cx hown hK hP (3 + 16 * j + 0) he3 rfl 6 (by decide) (hG _ gw_2_3) (fun _ h => h) rfl d_Cx_fedBehind_6 ?_
  clear he3
  have hrun5 : va_Run p l e (headSpec ws_Cx_fedBehindV rm_Cx_fedBehindV).room s m ([.ref (aw_c ad j 0), .int bk, .int b] : List Value).toArray below meth c s.heap [] 0 0 0 0 (F0 m 9 ls [.long (zX j 1), .ref (aw_c ad j (zO j)), .int b]) [.int b] (va_Ql (fun r (_ : Unit) => r = v_Ci_onV zA j (zO j) (zX j 1)) (fun (_ : Unit) t => ag_H D N0 (az_Sh g ad zG zO zX zY zA zB zM zI zL zK zN zF zQ) t.heap) (aw_Z N0) ([.ref (aw_c ad j (zO j)), .long (zX j 1)] : List Value).toArray) (aw_Z N0) := by
    rcases hsd2 with hq6 | hq6 | hq6 | hq6 | hq6
    · rw [hq6, v_Ci_onV_2]
      have he7 := zr_C2 hSh hj
      exact va_runU (As := [.long (zX j 1)]) (rest := [.int b]) ⟨hx, hb, hml, hown, hG⟩ (k_Rc_onV l D g ad N0 zG zO zX zY zA zB zM zI zL zK zN zF zQ j (zX j 1) hj) (aw_wA (owner := "RuleCiphers$Cipher") 1 hG hN gw_6_57 gw_8_14 gw_6_51 gw_6_55 gw_6_56 gw_0_4 nw_36 rfl rfl hd_Ci_on ⟨Nat.le_of_ble_eq_true rfl, Nat.le_of_ble_eq_true rfl⟩) (ag_qV (va_recv hK hP rfl he7) hP hD hSh hU hS) rfl rfl hl.1 rfl (lv_room (Nat.le_of_ble_eq_true rfl)) d_Cx_fedBehind_9 ⟨Nat.le_of_ble_eq_true rfl, Nat.le_of_ble_eq_true rfl⟩
    · rw [hq6, v_Ci_onV_5]
      have he8 := zr_C5 hSh hj
      exact va_runU (As := [.long (zX j 1)]) (rest := [.int b]) ⟨hx, hb, hml, hown, hG⟩ (k_Xt_onV l D g ad N0 zG zO zX zY zA zB zM zI zL zK zN zF zQ j (zX j 1) hj) (aw_wA (owner := "RuleCiphers$Cipher") 1 hG hN gw_7_6 gw_8_14 gw_6_51 gw_7_4 gw_7_5 gw_0_5 nw_36 rfl rfl hd_Ci_on ⟨Nat.le_of_ble_eq_true rfl, Nat.le_of_ble_eq_true rfl⟩) (ag_qV (va_recv hK hP rfl he8) hP hD hSh hU hS) rfl rfl hl.1 rfl (lv_room (Nat.le_of_ble_eq_true rfl)) d_Cx_fedBehind_9 ⟨Nat.le_of_ble_eq_true rfl, Nat.le_of_ble_eq_true rfl⟩
    · rw [hq6, v_Ci_onV_7]
      have he9 := zr_C7 hSh hj
      exact va_runU (As := [.long (zX j 1)]) (rest := [.int b]) ⟨hx, hb, hml, hown, hG⟩ (k_Sp_onV l D g ad N0 zG zO zX zY zA zB zM zI zL zK zN zF zQ j (zX j 1) hj) (aw_wA (owner := "RuleCiphers$Cipher") 1 hG hN gw_7_3 gw_8_14 gw_6_51 gw_7_1 gw_7_2 gw_0_6 nw_36 rfl rfl hd_Ci_on ⟨Nat.le_of_ble_eq_true rfl, Nat.le_of_ble_eq_true rfl⟩) (ag_qV (va_recv hK hP rfl he9) hP hD hSh hU hS) rfl rfl hl.1 rfl (lv_room (Nat.le_of_ble_eq_true rfl)) d_Cx_fedBehind_9 ⟨Nat.le_of_ble_eq_true rfl, Nat.le_of_ble_eq_true rfl⟩
    · rw [hq6, v_Ci_onV_10]
      have he10 := zr_C10 hSh hj
      exact va_runU (As := [.long (zX j 1)]) (rest := [.int b]) ⟨hx, hb, hml, hown, hG⟩ (k_Si_onV l D g ad N0 zG zO zX zY zA zB zM zI zL zK zN zF zQ j (zX j 1) hj) (aw_wA (owner := "RuleCiphers$Cipher") 1 hG hN gw_7_0 gw_8_14 gw_6_51 gw_6_58 gw_6_59 gw_0_7 nw_36 rfl rfl hd_Ci_on ⟨Nat.le_of_ble_eq_true rfl, Nat.le_of_ble_eq_true rfl⟩) (ag_qV (va_recv hK hP rfl he10) hP hD hSh hU hS) rfl rfl hl.1 rfl (lv_room (Nat.le_of_ble_eq_true rfl)) d_Cx_fedBehind_9 ⟨Nat.le_of_ble_eq_true rfl, Nat.le_of_ble_eq_true rfl⟩
    · rw [hq6, v_Ci_onV_12]
      have he11 := zr_C12 hSh hj
      exact va_runU (As := [.long (zX j 1)]) (rest := [.int b]) ⟨hx, hb, hml, hown, hG⟩ (k_Id_onV l D g ad N0 zG zO zX zY zA zB zM zI zL zK zN zF zQ j (zX j 1) hj) (aw_wA (owner := "RuleCiphers$Cipher") 1 hG hN gw_6_54 gw_8_14 gw_6_51 gw_6_52 gw_6_53 gw_0_8 nw_36 rfl rfl hd_Ci_on ⟨Nat.le_of_ble_eq_true rfl, Nat.le_of_ble_eq_true rfl⟩) (ag_qV (va_recv hK hP rfl he11) hP hD hSh hU hS) rfl rfl hl.1 rfl (lv_room (Nat.le_of_ble_eq_true rfl)) d_Cx_fedBehind_9 ⟨Nat.le_of_ble_eq_true rfl, Nat.le_of_ble_eq_true rfl⟩
  refine va_calll hrun5 hS (fun _ _ h => h) (fun _ h => h) ?_
  clear hP hD hSh hS hrun5
  intro y12 u8 t8 H locs ht _ ey12 hB _ _ hS
  obtain ⟨L, hP, hD, hSh⟩ := hB
  rw [ht] at hP
  clear ht
  have ey12 := ey12.symm
  refine lv_iconst (v := nI 0) hx hb d_Cx_fedBehind_12 (by decide +kernel) ?_
  refine aw_ci ((va_runSN (As := [.long y12, .int (nI 0)]) (rest := [.int b]) ⟨hx, hb, hml, hown, hG⟩ (k_Ru_byteOfV l y12 (nI 0)) (aw_wSN 2 hG hN gw_8_9 nw_39 gw_0_1 gw_8_8 rfl rfl hd_Ru_byteOf ⟨Nat.le_of_ble_eq_true rfl, Nat.le_of_ble_eq_true rfl⟩) aw_p0 rfl rfl hl.1 rfl (lv_room (Nat.le_of_ble_eq_true rfl)) d_Cx_fedBehind_13 ⟨Nat.le_of_ble_eq_true rfl, Nat.le_of_ble_eq_true rfl⟩).run) (fun x13 ex13 => ?_)
  have ex13 := ex13.symm
  refine lv_ixor hx hb d_Cx_fedBehind_16 ?_
  refine ag_topi (fun x14 ex14 => ?_)
  refine lv_istore_n hx hb d_Cx_fedBehind_17 rfl hl (by decide) rfl (fun ls hl => ?_)
  have hl : lv_has ls 4 [(3, .int x14), (0, .ref (aw_c ad j 0)), (1, .int bk), (2, .int b)] := hl
  refine lv_aload_n hx hb d_Cx_fedBehind_18 rfl (lv_at hl 1 rfl) ?_
  refine lv_aload_n hx hb d_Cx_fedBehind_19 rfl (lv_at hl 1 rfl) ?_
  obtain ⟨hsd16, he15⟩ := zr_C0 hSh hj
  have hg := hSh.2.2.2.2.1 j hj
  refine va_get (C := R_Cx) (T := T_Cx) (N := 10) (v := .long (zX j 1)) hx hb hG in_Cx hown hK hP (3 + 16 * j + 0) he15 rfl 6 (by decide) (hG _ gw_2_3) (fun _ h => h) rfl d_Cx_fedBehind_20 ?_
  clear he15
  refine lv_bipush (v := nI 8) hx hb d_Cx_fedBehind_23 (by decide +kernel) ?_
  refine lv_lshl hx hb d_Cx_fedBehind_25 rfl ?_
  refine ag_topl (fun y17 ey17 => ?_)
  refine lv_iload_n hx hb d_Cx_fedBehind_26 rfl (lv_at hl 2 rfl) ?_
  refine lv_if_eq (tgt := 34) hx hb d_Cx_fedBehind_27 (by decide) (fun hb18 => ?_) (fun hb18 => ?_)
  · refine lv_iload_n hx hb d_Cx_fedBehind_34 rfl (lv_at hl 0 rfl) ?_
    refine lv_i2l hx hb d_Cx_fedBehind_35 rfl ?_
    refine ag_topl (fun y19 ey19 => ?_)
    refine lv_lor hx hb d_Cx_fedBehind_36 ?_
    refine ag_topl (fun y20 ey20 => ?_)
    obtain ⟨hsd22, he21⟩ := zr_C0 hSh hj
    have hg := hSh.2.2.2.2.1 j hj
    refine ag_put (v := .long y20) (ty := .long) (C := R_Cx) (T := T_Cx) (N := 10) hx hb hG in_Cx t_Cx t_Cx_ok n_Cx hown hK hP hD hS (3 + 16 * j + 0) he21 rfl 6 (by decide) (hG _ gw_2_3) (fun _ h => h) rfl (by decide +kernel) rfl rfl (Nat.le_of_ble_eq_true rfl) d_Cx_fedBehind_37 (zw_X1 hSh hj y20) ?_
    clear hP hD hSh hS he21
    intro H locs L hP hD hSh hS
    obtain ⟨zX23, ezX23⟩ : ∃ z : Nat → Nat → Int64, az_u2 zX j 1 y20 = z := ⟨_, rfl⟩
    rw [ezX23] at hSh
    refine lv_iload_n hx hb d_Cx_fedBehind_40 rfl (lv_at hl 0 rfl) ?_
    have gzX : zX23 = v_Cx_fedBehindV_zX zO zX zA j bk b := by subst ezX23 ey20 ey19 ey17 ex14 ex13 ey12; unfold v_Cx_fedBehindV_zX; rw [if_pos hb18]
    have hSh : az_Sh g ad zG zO (v_Cx_fedBehindV_zX zO zX zA j bk b) zY zA zB zM zI zL zK zN zF zQ L := by rw [← gzX]; exact hSh
    exact W.iret hx hb hr (fun t ht hW => ⟨⟨_, (), rfl, (by subst ezX23 ey20 ey19 ey17 ex14 ex13 ey12; unfold v_Cx_fedBehindV; rw [if_pos hb18]), ag_Hr ht hP hD hSh⟩, hS.F ht⟩) hS.2.2 d_Cx_fedBehind_41
  · refine lv_iload_n hx hb d_Cx_fedBehind_30 rfl (lv_at hl 3 rfl) ?_
    refine lv_goto (tgt := 35) hx hb d_Cx_fedBehind_31 (by decide) ?_
    refine lv_i2l hx hb d_Cx_fedBehind_35 rfl ?_
    refine ag_topl (fun y24 ey24 => ?_)
    refine lv_lor hx hb d_Cx_fedBehind_36 ?_
    refine ag_topl (fun y25 ey25 => ?_)
    obtain ⟨hsd27, he26⟩ := zr_C0 hSh hj
    have hg := hSh.2.2.2.2.1 j hj
    refine ag_put (v := .long y25) (ty := .long) (C := R_Cx) (T := T_Cx) (N := 10) hx hb hG in_Cx t_Cx t_Cx_ok n_Cx hown hK hP hD hS (3 + 16 * j + 0) he26 rfl 6 (by decide) (hG _ gw_2_3) (fun _ h => h) rfl (by decide +kernel) rfl rfl (Nat.le_of_ble_eq_true rfl) d_Cx_fedBehind_37 (zw_X1 hSh hj y25) ?_
    clear hP hD hSh hS he26
    intro H locs L hP hD hSh hS
    obtain ⟨zX28, ezX28⟩ : ∃ z : Nat → Nat → Int64, az_u2 zX j 1 y25 = z := ⟨_, rfl⟩
    rw [ezX28] at hSh
    refine lv_iload_n hx hb d_Cx_fedBehind_40 rfl (lv_at hl 0 rfl) ?_
    have gzX : zX28 = v_Cx_fedBehindV_zX zO zX zA j bk b := by subst ezX28 ey25 ey24 ey17 ex14 ex13 ey12; unfold v_Cx_fedBehindV_zX; rw [if_neg hb18]
    have hSh : az_Sh g ad zG zO (v_Cx_fedBehindV_zX zO zX zA j bk b) zY zA zB zM zI zL zK zN zF zQ L := by rw [← gzX]; exact hSh
    exact W.iret hx hb hr (fun t ht hW => ⟨⟨_, (), rfl, (by subst ezX28 ey25 ey24 ey17 ex14 ex13 ey12; unfold v_Cx_fedBehindV; rw [if_neg hb18]), ag_Hr ht hP hD hSh⟩, hS.F ht⟩) hS.2.2 d_Cx_fedBehind_41
noncomputable def v_Cx_nextOfOwnStreamV (zO : Nat → Nat) (zX : Nat → Nat → Int64) (zY : Nat → Nat → Int32) (zA : Nat → Nat → Nat → Int32) (j : Nat) : Int32 := (if (zY j 0) = 0 then v_Ru_byteOfV ((az_u2 zX j 1 (v_Ci_onV zA j (zO j) (zX j 1))) j 1) (zY j 0) else v_Ru_byteOfV (zX j 1) (zY j 0))
noncomputable def v_Cx_nextOfOwnStreamV_zX (zO : Nat → Nat) (zX : Nat → Nat → Int64) (zY : Nat → Nat → Int32) (zA : Nat → Nat → Nat → Int32) (j : Nat) : Nat → Nat → Int64 := (if (zY j 0) = 0 then az_u2 zX j 1 (v_Ci_onV zA j (zO j) (zX j 1)) else zX)
noncomputable def v_Cx_nextOfOwnStreamV_zY (zO : Nat → Nat) (zX : Nat → Nat → Int64) (zY : Nat → Nat → Int32) (zA : Nat → Nat → Nat → Int32) (j : Nat) : Nat → Nat → Int32 := (if (zY j 0) = 0 then az_u2 zY j 0 (((zY j 0) + (nI 1)) - ((zY j 0) + (nI 1)) / (nI 8) * (nI 8)) else az_u2 zY j 0 (((zY j 0) + (nI 1)) - ((zY j 0) + (nI 1)) / (nI 8) * (nI 8)))
abbrev ws_Cx_nextOfOwnStreamV : List Cond := Cond.code y_Cx_nextOfOwnStream b_Cx_nextOfOwnStream 2 (some .int) :: aw_G
abbrev rm_Cx_nextOfOwnStreamV : Room := { frames := 3, cells := 0, slots := 0, locals := 79 }
set_option maxHeartbeats 4000000 in
set_option maxRecDepth 100000 in
theorem k_Cx_nextOfOwnStreamV (l : Launch) (D : va_G) (g : Nat → ClassId) (ad : Nat → Nat) (N0 : Nat) (zG : Nat → Nat × Nat) (zO : Nat → Nat) (zX : Nat → Nat → Int64) (zY : Nat → Nat → Int32) (zA : Nat → Nat → Nat → Int32) (zB : Nat → Int32) (zM : Nat → Nat × Nat) (zI : Nat → Nat → Int32) (zL : Nat → Nat → Int64) (zK : Int32) (zN : Nat) (zF : Int32) (zQ : Int64) (j : Nat) (hj : j < 4) : Met l y_Cx_nextOfOwnStream ws_Cx_nextOfOwnStreamV rm_Cx_nextOfOwnStreamV (va_Pc ([.ref (aw_c ad j 0)] : List Value) (ag_B D g N0 (az_Sh g ad zG zO zX zY zA zB zM zI zL zK zN zF zQ))) (va_Qi (fun r (_ : Unit) => r = v_Cx_nextOfOwnStreamV zO zX zY zA j) (fun (_ : Unit) t => ag_H D N0 (az_Sh g ad zG zO (v_Cx_nextOfOwnStreamV_zX zO zX zY zA j) (v_Cx_nextOfOwnStreamV_zY zO zX zY zA j) zA zB zM zI zL zK zN zF zQ) t.heap) (aw_Z N0)) 0 0 (aw_Z N0) := by
  refine Met.ofW (cc := b_Cx_nextOfOwnStream) (maxL := 2) (ret := (some .int)) (by decide) rfl ?_
  intro p e s m args below meth c s₁ B hml hv
  obtain ⟨rfl, ⟨L, hP, hD, hSh⟩, hU⟩ := hv
  have hx := B.exec
  have hb := B.bytes
  have hr := B.returns
  have hG : ∀ w ∈ aw_G, w.before _ s = true := fun w h => atoms_spec (ws := ws_Cx_nextOfOwnStreamV) B.pre w (List.mem_cons_of_mem _ h)
  have hown : s.vm.findClass "RuleCiphers$Context" = some m.cls := findClass_of_methodNamed B.named
  have hlocks := B.notSynchronized
  have hE := hU.1
  have hK := hE.1
  have hN := hE.2.1
  have hS : va_S (aw_Z N0) s.heap s.heap [] := va_S.rf
  have hl := lv_entry ([.ref (aw_c ad j 0)] : List Value) (n := 2) (Nat.le_of_ble_eq_true rfl)
  rw [lg_entry_eq]
  generalize (lg_sl ([.ref (aw_c ad j 0)] : List Value) ++ List.replicate (2 - (lg_sl ([.ref (aw_c ad j 0)] : List Value)).length) Slot.unset).toArray = ls at hl ⊢
  have hl : lv_has ls 2 [(0, .ref (aw_c ad j 0))] := hl
  refine lv_aload_n hx hb d_Cx_nextOfOwnStream_0 rfl (lv_at hl 0 rfl) ?_
  obtain ⟨hsd2, he1⟩ := zr_C0 hSh hj
  have hg := hSh.2.2.2.2.1 j hj
  refine va_get (C := R_Cx) (T := T_Cx) (N := 10) (v := .int (zY j 0)) hx hb hG in_Cx hown hK hP (3 + 16 * j + 0) he1 rfl 8 (by decide) (hG _ gw_2_5) (fun _ h => h) rfl d_Cx_nextOfOwnStream_1 ?_
  clear he1
  refine lv_if_ne (tgt := 22) hx hb d_Cx_nextOfOwnStream_4 (by decide) (fun hb3 => ?_) (fun hb3 => ?_)
  · refine lv_aload_n hx hb d_Cx_nextOfOwnStream_22 rfl (lv_at hl 0 rfl) ?_
    obtain ⟨hsd5, he4⟩ := zr_C0 hSh hj
    have hg := hSh.2.2.2.2.1 j hj
    refine va_get (C := R_Cx) (T := T_Cx) (N := 10) (v := .long (zX j 1)) hx hb hG in_Cx hown hK hP (3 + 16 * j + 0) he4 rfl 6 (by decide) (hG _ gw_2_3) (fun _ h => h) rfl d_Cx_nextOfOwnStream_23 ?_
    clear he4
    refine lv_aload_n hx hb d_Cx_nextOfOwnStream_26 rfl (lv_at hl 0 rfl) ?_
    obtain ⟨hsd7, he6⟩ := zr_C0 hSh hj
    have hg := hSh.2.2.2.2.1 j hj
    refine va_get (C := R_Cx) (T := T_Cx) (N := 10) (v := .int (zY j 0)) hx hb hG in_Cx hown hK hP (3 + 16 * j + 0) he6 rfl 8 (by decide) (hG _ gw_2_5) (fun _ h => h) rfl d_Cx_nextOfOwnStream_27 ?_
    clear he6
    refine aw_ci ((va_runSN (As := [.long (zX j 1), .int (zY j 0)]) (rest := []) ⟨hx, hb, hml, hown, hG⟩ (k_Ru_byteOfV l (zX j 1) (zY j 0)) (aw_wSN 2 hG hN gw_8_9 nw_39 gw_0_1 gw_8_8 rfl rfl hd_Ru_byteOf ⟨Nat.le_of_ble_eq_true rfl, Nat.le_of_ble_eq_true rfl⟩) aw_p0 rfl rfl hl.1 rfl (lv_room (Nat.le_of_ble_eq_true rfl)) d_Cx_nextOfOwnStream_30 ⟨Nat.le_of_ble_eq_true rfl, Nat.le_of_ble_eq_true rfl⟩).run) (fun x8 ex8 => ?_)
    have ex8 := ex8.symm
    refine lv_istore_n hx hb d_Cx_nextOfOwnStream_33 rfl hl (by decide) rfl (fun ls hl => ?_)
    have hl : lv_has ls 2 [(1, .int x8), (0, .ref (aw_c ad j 0))] := hl
    refine lv_aload_n hx hb d_Cx_nextOfOwnStream_34 rfl (lv_at hl 1 rfl) ?_
    refine lv_aload_n hx hb d_Cx_nextOfOwnStream_35 rfl (lv_at hl 1 rfl) ?_
    obtain ⟨hsd10, he9⟩ := zr_C0 hSh hj
    have hg := hSh.2.2.2.2.1 j hj
    refine va_get (C := R_Cx) (T := T_Cx) (N := 10) (v := .int (zY j 0)) hx hb hG in_Cx hown hK hP (3 + 16 * j + 0) he9 rfl 8 (by decide) (hG _ gw_2_5) (fun _ h => h) rfl d_Cx_nextOfOwnStream_36 ?_
    clear he9
    refine lv_iconst (v := nI 1) hx hb d_Cx_nextOfOwnStream_39 (by decide +kernel) ?_
    refine lv_iadd hx hb d_Cx_nextOfOwnStream_40 ?_
    refine ag_topi (fun x11 ex11 => ?_)
    refine lv_bipush (v := nI 8) hx hb d_Cx_nextOfOwnStream_41 (by decide +kernel) ?_
    refine lv_irem hx hb d_Cx_nextOfOwnStream_43 (by decide +kernel) ?_
    refine ag_topi (fun x12 ex12 => ?_)
    obtain ⟨hsd14, he13⟩ := zr_C0 hSh hj
    have hg := hSh.2.2.2.2.1 j hj
    refine ag_put (v := .int x12) (ty := .int) (C := R_Cx) (T := T_Cx) (N := 10) hx hb hG in_Cx t_Cx t_Cx_ok n_Cx hown hK hP hD hS (3 + 16 * j + 0) he13 rfl 8 (by decide) (hG _ gw_2_5) (fun _ h => h) rfl (by decide +kernel) rfl rfl (Nat.le_of_ble_eq_true rfl) d_Cx_nextOfOwnStream_44 (zw_Y0 hSh hj x12) ?_
    clear hP hD hSh hS he13
    intro H locs L hP hD hSh hS
    obtain ⟨zY15, ezY15⟩ : ∃ z : Nat → Nat → Int32, az_u2 zY j 0 x12 = z := ⟨_, rfl⟩
    rw [ezY15] at hSh
    refine lv_iload_n hx hb d_Cx_nextOfOwnStream_47 rfl (lv_at hl 0 rfl) ?_
    have gzX : zX = v_Cx_nextOfOwnStreamV_zX zO zX zY zA j := by subst ezY15 ex12 ex11 ex8; unfold v_Cx_nextOfOwnStreamV_zX; rw [if_neg hb3]
    have gzY : zY15 = v_Cx_nextOfOwnStreamV_zY zO zX zY zA j := by subst ezY15 ex12 ex11 ex8; unfold v_Cx_nextOfOwnStreamV_zY; rw [if_neg hb3]
    have hSh : az_Sh g ad zG zO (v_Cx_nextOfOwnStreamV_zX zO zX zY zA j) (v_Cx_nextOfOwnStreamV_zY zO zX zY zA j) zA zB zM zI zL zK zN zF zQ L := by rw [← gzX, ← gzY]; exact hSh
    exact W.iret hx hb hr (fun t ht hW => ⟨⟨_, (), rfl, (by subst ezY15 ex12 ex11 ex8; unfold v_Cx_nextOfOwnStreamV; rw [if_neg hb3]), ag_Hr ht hP hD hSh⟩, hS.F ht⟩) hS.2.2 d_Cx_nextOfOwnStream_48
  · refine lv_aload_n hx hb d_Cx_nextOfOwnStream_7 rfl (lv_at hl 0 rfl) ?_
    refine lv_aload_n hx hb d_Cx_nextOfOwnStream_8 rfl (lv_at hl 0 rfl) ?_
    obtain ⟨hsd17, he16⟩ := zr_C0 hSh hj
    have hg := hSh.2.2.2.2.1 j hj
    refine va_get (C := R_Cx) (T := T_Cx) (N := 10) (v := .ref (aw_c ad j (zO j))) hx hb hG in_Cx hown hK hP (3 + 16 * j + 0) he16 rfl 4 (by decide) (hG _ gw_2_0) (fun _ h => h) rfl d_Cx_nextOfOwnStream_9 ?_
    clear he16
    refine lv_aload_n hx hb d_Cx_nextOfOwnStream_12 rfl (lv_at hl 0 rfl) ?_
    obtain ⟨hsd19, he18⟩ := zr_C0 hSh hj
    have hg := hSh.2.2.2.2.1 j hj
    refine va_get (C := R_Cx) (T := T_Cx) (N := 10) (v := .long (zX j 1)) hx hb hG in_Cx hown hK hP (3 + 16 * j + 0) he18 rfl 6 (by decide) (hG _ gw_2_3) (fun _ h => h) rfl d_Cx_nextOfOwnStream_13 ?_
    clear he18
    have hrun20 : va_Run p l e (headSpec ws_Cx_nextOfOwnStreamV rm_Cx_nextOfOwnStreamV).room s m ([.ref (aw_c ad j 0)] : List Value).toArray below meth c s.heap [] 0 0 0 0 (F0 m 16 ls [.long (zX j 1), .ref (aw_c ad j (zO j)), .ref (aw_c ad j 0)]) [.ref (aw_c ad j 0)] (va_Ql (fun r (_ : Unit) => r = v_Ci_onV zA j (zO j) (zX j 1)) (fun (_ : Unit) t => ag_H D N0 (az_Sh g ad zG zO zX zY zA zB zM zI zL zK zN zF zQ) t.heap) (aw_Z N0) ([.ref (aw_c ad j (zO j)), .long (zX j 1)] : List Value).toArray) (aw_Z N0) := by
      rcases hsd17 with hq21 | hq21 | hq21 | hq21 | hq21
      · rw [hq21, v_Ci_onV_2]
        have he22 := zr_C2 hSh hj
        exact va_runU (As := [.long (zX j 1)]) (rest := [.ref (aw_c ad j 0)]) ⟨hx, hb, hml, hown, hG⟩ (k_Rc_onV l D g ad N0 zG zO zX zY zA zB zM zI zL zK zN zF zQ j (zX j 1) hj) (aw_wA (owner := "RuleCiphers$Cipher") 1 hG hN gw_6_57 gw_8_14 gw_6_51 gw_6_55 gw_6_56 gw_0_4 nw_36 rfl rfl hd_Ci_on ⟨Nat.le_of_ble_eq_true rfl, Nat.le_of_ble_eq_true rfl⟩) (ag_qV (va_recv hK hP rfl he22) hP hD hSh hU hS) rfl rfl hl.1 rfl (lv_room (Nat.le_of_ble_eq_true rfl)) d_Cx_nextOfOwnStream_16 ⟨Nat.le_of_ble_eq_true rfl, Nat.le_of_ble_eq_true rfl⟩
      · rw [hq21, v_Ci_onV_5]
        have he23 := zr_C5 hSh hj
        exact va_runU (As := [.long (zX j 1)]) (rest := [.ref (aw_c ad j 0)]) ⟨hx, hb, hml, hown, hG⟩ (k_Xt_onV l D g ad N0 zG zO zX zY zA zB zM zI zL zK zN zF zQ j (zX j 1) hj) (aw_wA (owner := "RuleCiphers$Cipher") 1 hG hN gw_7_6 gw_8_14 gw_6_51 gw_7_4 gw_7_5 gw_0_5 nw_36 rfl rfl hd_Ci_on ⟨Nat.le_of_ble_eq_true rfl, Nat.le_of_ble_eq_true rfl⟩) (ag_qV (va_recv hK hP rfl he23) hP hD hSh hU hS) rfl rfl hl.1 rfl (lv_room (Nat.le_of_ble_eq_true rfl)) d_Cx_nextOfOwnStream_16 ⟨Nat.le_of_ble_eq_true rfl, Nat.le_of_ble_eq_true rfl⟩
      · rw [hq21, v_Ci_onV_7]
        have he24 := zr_C7 hSh hj
        exact va_runU (As := [.long (zX j 1)]) (rest := [.ref (aw_c ad j 0)]) ⟨hx, hb, hml, hown, hG⟩ (k_Sp_onV l D g ad N0 zG zO zX zY zA zB zM zI zL zK zN zF zQ j (zX j 1) hj) (aw_wA (owner := "RuleCiphers$Cipher") 1 hG hN gw_7_3 gw_8_14 gw_6_51 gw_7_1 gw_7_2 gw_0_6 nw_36 rfl rfl hd_Ci_on ⟨Nat.le_of_ble_eq_true rfl, Nat.le_of_ble_eq_true rfl⟩) (ag_qV (va_recv hK hP rfl he24) hP hD hSh hU hS) rfl rfl hl.1 rfl (lv_room (Nat.le_of_ble_eq_true rfl)) d_Cx_nextOfOwnStream_16 ⟨Nat.le_of_ble_eq_true rfl, Nat.le_of_ble_eq_true rfl⟩
      · rw [hq21, v_Ci_onV_10]
        have he25 := zr_C10 hSh hj
        exact va_runU (As := [.long (zX j 1)]) (rest := [.ref (aw_c ad j 0)]) ⟨hx, hb, hml, hown, hG⟩ (k_Si_onV l D g ad N0 zG zO zX zY zA zB zM zI zL zK zN zF zQ j (zX j 1) hj) (aw_wA (owner := "RuleCiphers$Cipher") 1 hG hN gw_7_0 gw_8_14 gw_6_51 gw_6_58 gw_6_59 gw_0_7 nw_36 rfl rfl hd_Ci_on ⟨Nat.le_of_ble_eq_true rfl, Nat.le_of_ble_eq_true rfl⟩) (ag_qV (va_recv hK hP rfl he25) hP hD hSh hU hS) rfl rfl hl.1 rfl (lv_room (Nat.le_of_ble_eq_true rfl)) d_Cx_nextOfOwnStream_16 ⟨Nat.le_of_ble_eq_true rfl, Nat.le_of_ble_eq_true rfl⟩
      · rw [hq21, v_Ci_onV_12]
        have he26 := zr_C12 hSh hj
        exact va_runU (As := [.long (zX j 1)]) (rest := [.ref (aw_c ad j 0)]) ⟨hx, hb, hml, hown, hG⟩ (k_Id_onV l D g ad N0 zG zO zX zY zA zB zM zI zL zK zN zF zQ j (zX j 1) hj) (aw_wA (owner := "RuleCiphers$Cipher") 1 hG hN gw_6_54 gw_8_14 gw_6_51 gw_6_52 gw_6_53 gw_0_8 nw_36 rfl rfl hd_Ci_on ⟨Nat.le_of_ble_eq_true rfl, Nat.le_of_ble_eq_true rfl⟩) (ag_qV (va_recv hK hP rfl he26) hP hD hSh hU hS) rfl rfl hl.1 rfl (lv_room (Nat.le_of_ble_eq_true rfl)) d_Cx_nextOfOwnStream_16 ⟨Nat.le_of_ble_eq_true rfl, Nat.le_of_ble_eq_true rfl⟩
    refine va_calll hrun20 hS (fun _ _ h => h) (fun _ h => h) ?_
    clear hP hD hSh hS hrun20
    intro y27 u8 t8 H locs ht _ ey27 hB _ _ hS
    obtain ⟨L, hP, hD, hSh⟩ := hB
    rw [ht] at hP
    clear ht
    have ey27 := ey27.symm
    obtain ⟨hsd29, he28⟩ := zr_C0 hSh hj
    have hg := hSh.2.2.2.2.1 j hj
    refine ag_put (v := .long y27) (ty := .long) (C := R_Cx) (T := T_Cx) (N := 10) hx hb hG in_Cx t_Cx t_Cx_ok n_Cx hown hK hP hD hS (3 + 16 * j + 0) he28 rfl 6 (by decide) (hG _ gw_2_3) (fun _ h => h) rfl (by decide +kernel) rfl rfl (Nat.le_of_ble_eq_true rfl) d_Cx_nextOfOwnStream_19 (zw_X1 hSh hj y27) ?_
    clear hP hD hSh hS he28
    intro H locs L hP hD hSh hS
    obtain ⟨zX30, ezX30⟩ : ∃ z : Nat → Nat → Int64, az_u2 zX j 1 y27 = z := ⟨_, rfl⟩
    rw [ezX30] at hSh
    refine lv_aload_n hx hb d_Cx_nextOfOwnStream_22 rfl (lv_at hl 0 rfl) ?_
    obtain ⟨hsd32, he31⟩ := zr_C0 hSh hj
    have hg := hSh.2.2.2.2.1 j hj
    refine va_get (C := R_Cx) (T := T_Cx) (N := 10) (v := .long (zX30 j 1)) hx hb hG in_Cx hown hK hP (3 + 16 * j + 0) he31 rfl 6 (by decide) (hG _ gw_2_3) (fun _ h => h) rfl d_Cx_nextOfOwnStream_23 ?_
    clear he31
    refine lv_aload_n hx hb d_Cx_nextOfOwnStream_26 rfl (lv_at hl 0 rfl) ?_
    obtain ⟨hsd34, he33⟩ := zr_C0 hSh hj
    have hg := hSh.2.2.2.2.1 j hj
    refine va_get (C := R_Cx) (T := T_Cx) (N := 10) (v := .int (zY j 0)) hx hb hG in_Cx hown hK hP (3 + 16 * j + 0) he33 rfl 8 (by decide) (hG _ gw_2_5) (fun _ h => h) rfl d_Cx_nextOfOwnStream_27 ?_
    clear he33
    refine aw_ci ((va_runSN (As := [.long (zX30 j 1), .int (zY j 0)]) (rest := []) ⟨hx, hb, hml, hown, hG⟩ (k_Ru_byteOfV l (zX30 j 1) (zY j 0)) (aw_wSN 2 hG hN gw_8_9 nw_39 gw_0_1 gw_8_8 rfl rfl hd_Ru_byteOf ⟨Nat.le_of_ble_eq_true rfl, Nat.le_of_ble_eq_true rfl⟩) aw_p0 rfl rfl hl.1 rfl (lv_room (Nat.le_of_ble_eq_true rfl)) d_Cx_nextOfOwnStream_30 ⟨Nat.le_of_ble_eq_true rfl, Nat.le_of_ble_eq_true rfl⟩).run) (fun x35 ex35 => ?_)
    have ex35 := ex35.symm
    refine lv_istore_n hx hb d_Cx_nextOfOwnStream_33 rfl hl (by decide) rfl (fun ls hl => ?_)
    have hl : lv_has ls 2 [(1, .int x35), (0, .ref (aw_c ad j 0))] := hl
    refine lv_aload_n hx hb d_Cx_nextOfOwnStream_34 rfl (lv_at hl 1 rfl) ?_
    refine lv_aload_n hx hb d_Cx_nextOfOwnStream_35 rfl (lv_at hl 1 rfl) ?_
    obtain ⟨hsd37, he36⟩ := zr_C0 hSh hj
    have hg := hSh.2.2.2.2.1 j hj
    refine va_get (C := R_Cx) (T := T_Cx) (N := 10) (v := .int (zY j 0)) hx hb hG in_Cx hown hK hP (3 + 16 * j + 0) he36 rfl 8 (by decide) (hG _ gw_2_5) (fun _ h => h) rfl d_Cx_nextOfOwnStream_36 ?_
    clear he36
    refine lv_iconst (v := nI 1) hx hb d_Cx_nextOfOwnStream_39 (by decide +kernel) ?_
    refine lv_iadd hx hb d_Cx_nextOfOwnStream_40 ?_
    refine ag_topi (fun x38 ex38 => ?_)
    refine lv_bipush (v := nI 8) hx hb d_Cx_nextOfOwnStream_41 (by decide +kernel) ?_
    refine lv_irem hx hb d_Cx_nextOfOwnStream_43 (by decide +kernel) ?_
    refine ag_topi (fun x39 ex39 => ?_)
    obtain ⟨hsd41, he40⟩ := zr_C0 hSh hj
    have hg := hSh.2.2.2.2.1 j hj
    refine ag_put (v := .int x39) (ty := .int) (C := R_Cx) (T := T_Cx) (N := 10) hx hb hG in_Cx t_Cx t_Cx_ok n_Cx hown hK hP hD hS (3 + 16 * j + 0) he40 rfl 8 (by decide) (hG _ gw_2_5) (fun _ h => h) rfl (by decide +kernel) rfl rfl (Nat.le_of_ble_eq_true rfl) d_Cx_nextOfOwnStream_44 (zw_Y0 hSh hj x39) ?_
    clear hP hD hSh hS he40
    intro H locs L hP hD hSh hS
    obtain ⟨zY42, ezY42⟩ : ∃ z : Nat → Nat → Int32, az_u2 zY j 0 x39 = z := ⟨_, rfl⟩
    rw [ezY42] at hSh
    refine lv_iload_n hx hb d_Cx_nextOfOwnStream_47 rfl (lv_at hl 0 rfl) ?_
    have gzX : zX30 = v_Cx_nextOfOwnStreamV_zX zO zX zY zA j := by subst ezY42 ex39 ex38 ex35 ezX30 ey27; unfold v_Cx_nextOfOwnStreamV_zX; rw [if_pos hb3]
    have gzY : zY42 = v_Cx_nextOfOwnStreamV_zY zO zX zY zA j := by subst ezY42 ex39 ex38 ex35 ezX30 ey27; unfold v_Cx_nextOfOwnStreamV_zY; rw [if_pos hb3]
    have hSh : az_Sh g ad zG zO (v_Cx_nextOfOwnStreamV_zX zO zX zY zA j) (v_Cx_nextOfOwnStreamV_zY zO zX zY zA j) zA zB zM zI zL zK zN zF zQ L := by rw [← gzX, ← gzY]; exact hSh
    exact W.iret hx hb hr (fun t ht hW => ⟨⟨_, (), rfl, (by subst ezY42 ex39 ex38 ex35 ezX30 ey27; unfold v_Cx_nextOfOwnStreamV; rw [if_pos hb3]), ag_Hr ht hP hD hSh⟩, hS.F ht⟩) hS.2.2 d_Cx_nextOfOwnStream_48
noncomputable def v_Cx_nextOfCountedStreamV (zO : Nat → Nat) (zX : Nat → Nat → Int64) (zY : Nat → Nat → Int32) (zA : Nat → Nat → Nat → Int32) (j : Nat) : Int32 := (if (zY j 0) = 0 then (if ((az_u2 zY j 0 (((zY j 0) + (nI 1)) - ((zY j 0) + (nI 1)) / (nI 8) * (nI 8))) j 0) = 0 then v_Ru_byteOfV ((az_u2 zX j 2 (v_Ci_onV zA j (zO j) (zX j 1))) j 2) (zY j 0) else v_Ru_byteOfV ((az_u2 zX j 2 (v_Ci_onV zA j (zO j) (zX j 1))) j 2) (zY j 0)) else (if ((az_u2 zY j 0 (((zY j 0) + (nI 1)) - ((zY j 0) + (nI 1)) / (nI 8) * (nI 8))) j 0) = 0 then v_Ru_byteOfV (zX j 2) (zY j 0) else v_Ru_byteOfV (zX j 2) (zY j 0)))
noncomputable def v_Cx_nextOfCountedStreamV_zX (zO : Nat → Nat) (zX : Nat → Nat → Int64) (zY : Nat → Nat → Int32) (zA : Nat → Nat → Nat → Int32) (j : Nat) : Nat → Nat → Int64 := (if (zY j 0) = 0 then (if ((az_u2 zY j 0 (((zY j 0) + (nI 1)) - ((zY j 0) + (nI 1)) / (nI 8) * (nI 8))) j 0) = 0 then az_u2 (az_u2 zX j 2 (v_Ci_onV zA j (zO j) (zX j 1))) j 1 (((az_u2 zX j 2 (v_Ci_onV zA j (zO j) (zX j 1))) j 1) + 1) else az_u2 zX j 2 (v_Ci_onV zA j (zO j) (zX j 1))) else (if ((az_u2 zY j 0 (((zY j 0) + (nI 1)) - ((zY j 0) + (nI 1)) / (nI 8) * (nI 8))) j 0) = 0 then az_u2 zX j 1 ((zX j 1) + 1) else zX))
noncomputable def v_Cx_nextOfCountedStreamV_zY (zO : Nat → Nat) (zX : Nat → Nat → Int64) (zY : Nat → Nat → Int32) (zA : Nat → Nat → Nat → Int32) (j : Nat) : Nat → Nat → Int32 := (if (zY j 0) = 0 then (if ((az_u2 zY j 0 (((zY j 0) + (nI 1)) - ((zY j 0) + (nI 1)) / (nI 8) * (nI 8))) j 0) = 0 then az_u2 zY j 0 (((zY j 0) + (nI 1)) - ((zY j 0) + (nI 1)) / (nI 8) * (nI 8)) else az_u2 zY j 0 (((zY j 0) + (nI 1)) - ((zY j 0) + (nI 1)) / (nI 8) * (nI 8))) else (if ((az_u2 zY j 0 (((zY j 0) + (nI 1)) - ((zY j 0) + (nI 1)) / (nI 8) * (nI 8))) j 0) = 0 then az_u2 zY j 0 (((zY j 0) + (nI 1)) - ((zY j 0) + (nI 1)) / (nI 8) * (nI 8)) else az_u2 zY j 0 (((zY j 0) + (nI 1)) - ((zY j 0) + (nI 1)) / (nI 8) * (nI 8))))
abbrev ws_Cx_nextOfCountedStreamV : List Cond := Cond.code y_Cx_nextOfCountedStream b_Cx_nextOfCountedStream 2 (some .int) :: aw_G
abbrev rm_Cx_nextOfCountedStreamV : Room := { frames := 3, cells := 0, slots := 0, locals := 79 }
set_option maxHeartbeats 4000000 in
set_option maxRecDepth 100000 in
theorem k_Cx_nextOfCountedStreamV (l : Launch) (D : va_G) (g : Nat → ClassId) (ad : Nat → Nat) (N0 : Nat) (zG : Nat → Nat × Nat) (zO : Nat → Nat) (zX : Nat → Nat → Int64) (zY : Nat → Nat → Int32) (zA : Nat → Nat → Nat → Int32) (zB : Nat → Int32) (zM : Nat → Nat × Nat) (zI : Nat → Nat → Int32) (zL : Nat → Nat → Int64) (zK : Int32) (zN : Nat) (zF : Int32) (zQ : Int64) (j : Nat) (hj : j < 4) : Met l y_Cx_nextOfCountedStream ws_Cx_nextOfCountedStreamV rm_Cx_nextOfCountedStreamV (va_Pc ([.ref (aw_c ad j 0)] : List Value) (ag_B D g N0 (az_Sh g ad zG zO zX zY zA zB zM zI zL zK zN zF zQ))) (va_Qi (fun r (_ : Unit) => r = v_Cx_nextOfCountedStreamV zO zX zY zA j) (fun (_ : Unit) t => ag_H D N0 (az_Sh g ad zG zO (v_Cx_nextOfCountedStreamV_zX zO zX zY zA j) (v_Cx_nextOfCountedStreamV_zY zO zX zY zA j) zA zB zM zI zL zK zN zF zQ) t.heap) (aw_Z N0)) 0 0 (aw_Z N0) := by
  refine Met.ofW (cc := b_Cx_nextOfCountedStream) (maxL := 2) (ret := (some .int)) (by decide) rfl ?_
  intro p e s m args below meth c s₁ B hml hv
  obtain ⟨rfl, ⟨L, hP, hD, hSh⟩, hU⟩ := hv
  have hx := B.exec
  have hb := B.bytes
  have hr := B.returns
  have hG : ∀ w ∈ aw_G, w.before _ s = true := fun w h => atoms_spec (ws := ws_Cx_nextOfCountedStreamV) B.pre w (List.mem_cons_of_mem _ h)
  have hown : s.vm.findClass "RuleCiphers$Context" = some m.cls := findClass_of_methodNamed B.named
  have hlocks := B.notSynchronized
  have hE := hU.1
  have hK := hE.1
  have hN := hE.2.1
  have hS : va_S (aw_Z N0) s.heap s.heap [] := va_S.rf
  have hl := lv_entry ([.ref (aw_c ad j 0)] : List Value) (n := 2) (Nat.le_of_ble_eq_true rfl)
  rw [lg_entry_eq]
  generalize (lg_sl ([.ref (aw_c ad j 0)] : List Value) ++ List.replicate (2 - (lg_sl ([.ref (aw_c ad j 0)] : List Value)).length) Slot.unset).toArray = ls at hl ⊢
  have hl : lv_has ls 2 [(0, .ref (aw_c ad j 0))] := hl
  refine lv_aload_n hx hb d_Cx_nextOfCountedStream_0 rfl (lv_at hl 0 rfl) ?_
  obtain ⟨hsd2, he1⟩ := zr_C0 hSh hj
  have hg := hSh.2.2.2.2.1 j hj
  refine va_get (C := R_Cx) (T := T_Cx) (N := 10) (v := .int (zY j 0)) hx hb hG in_Cx hown hK hP (3 + 16 * j + 0) he1 rfl 8 (by decide) (hG _ gw_2_5) (fun _ h => h) rfl d_Cx_nextOfCountedStream_1 ?_
  clear he1
  refine lv_if_ne (tgt := 22) hx hb d_Cx_nextOfCountedStream_4 (by decide) (fun hb3 => ?_) (fun hb3 => ?_)
  · refine lv_aload_n hx hb d_Cx_nextOfCountedStream_22 rfl (lv_at hl 0 rfl) ?_
    obtain ⟨hsd5, he4⟩ := zr_C0 hSh hj
    have hg := hSh.2.2.2.2.1 j hj
    refine va_get (C := R_Cx) (T := T_Cx) (N := 10) (v := .long (zX j 2)) hx hb hG in_Cx hown hK hP (3 + 16 * j + 0) he4 rfl 7 (by decide) (hG _ gw_2_4) (fun _ h => h) rfl d_Cx_nextOfCountedStream_23 ?_
    clear he4
    refine lv_aload_n hx hb d_Cx_nextOfCountedStream_26 rfl (lv_at hl 0 rfl) ?_
    obtain ⟨hsd7, he6⟩ := zr_C0 hSh hj
    have hg := hSh.2.2.2.2.1 j hj
    refine va_get (C := R_Cx) (T := T_Cx) (N := 10) (v := .int (zY j 0)) hx hb hG in_Cx hown hK hP (3 + 16 * j + 0) he6 rfl 8 (by decide) (hG _ gw_2_5) (fun _ h => h) rfl d_Cx_nextOfCountedStream_27 ?_
    clear he6
    refine aw_ci ((va_runSN (As := [.long (zX j 2), .int (zY j 0)]) (rest := []) ⟨hx, hb, hml, hown, hG⟩ (k_Ru_byteOfV l (zX j 2) (zY j 0)) (aw_wSN 2 hG hN gw_8_9 nw_39 gw_0_1 gw_8_8 rfl rfl hd_Ru_byteOf ⟨Nat.le_of_ble_eq_true rfl, Nat.le_of_ble_eq_true rfl⟩) aw_p0 rfl rfl hl.1 rfl (lv_room (Nat.le_of_ble_eq_true rfl)) d_Cx_nextOfCountedStream_30 ⟨Nat.le_of_ble_eq_true rfl, Nat.le_of_ble_eq_true rfl⟩).run) (fun x8 ex8 => ?_)
    have ex8 := ex8.symm
    refine lv_istore_n hx hb d_Cx_nextOfCountedStream_33 rfl hl (by decide) rfl (fun ls hl => ?_)
    have hl : lv_has ls 2 [(1, .int x8), (0, .ref (aw_c ad j 0))] := hl
    refine lv_aload_n hx hb d_Cx_nextOfCountedStream_34 rfl (lv_at hl 1 rfl) ?_
    refine lv_aload_n hx hb d_Cx_nextOfCountedStream_35 rfl (lv_at hl 1 rfl) ?_
    obtain ⟨hsd10, he9⟩ := zr_C0 hSh hj
    have hg := hSh.2.2.2.2.1 j hj
    refine va_get (C := R_Cx) (T := T_Cx) (N := 10) (v := .int (zY j 0)) hx hb hG in_Cx hown hK hP (3 + 16 * j + 0) he9 rfl 8 (by decide) (hG _ gw_2_5) (fun _ h => h) rfl d_Cx_nextOfCountedStream_36 ?_
    clear he9
    refine lv_iconst (v := nI 1) hx hb d_Cx_nextOfCountedStream_39 (by decide +kernel) ?_
    refine lv_iadd hx hb d_Cx_nextOfCountedStream_40 ?_
    refine ag_topi (fun x11 ex11 => ?_)
    refine lv_bipush (v := nI 8) hx hb d_Cx_nextOfCountedStream_41 (by decide +kernel) ?_
    refine lv_irem hx hb d_Cx_nextOfCountedStream_43 (by decide +kernel) ?_
    refine ag_topi (fun x12 ex12 => ?_)
    obtain ⟨hsd14, he13⟩ := zr_C0 hSh hj
    have hg := hSh.2.2.2.2.1 j hj
    refine ag_put (v := .int x12) (ty := .int) (C := R_Cx) (T := T_Cx) (N := 10) hx hb hG in_Cx t_Cx t_Cx_ok n_Cx hown hK hP hD hS (3 + 16 * j + 0) he13 rfl 8 (by decide) (hG _ gw_2_5) (fun _ h => h) rfl (by decide +kernel) rfl rfl (Nat.le_of_ble_eq_true rfl) d_Cx_nextOfCountedStream_44 (zw_Y0 hSh hj x12) ?_
    clear hP hD hSh hS he13
    intro H locs L hP hD hSh hS
    obtain ⟨zY15, ezY15⟩ : ∃ z : Nat → Nat → Int32, az_u2 zY j 0 x12 = z := ⟨_, rfl⟩
    rw [ezY15] at hSh
    refine lv_aload_n hx hb d_Cx_nextOfCountedStream_47 rfl (lv_at hl 1 rfl) ?_
    obtain ⟨hsd17, he16⟩ := zr_C0 hSh hj
    have hg := hSh.2.2.2.2.1 j hj
    refine va_get (C := R_Cx) (T := T_Cx) (N := 10) (v := .int (zY15 j 0)) hx hb hG in_Cx hown hK hP (3 + 16 * j + 0) he16 rfl 8 (by decide) (hG _ gw_2_5) (fun _ h => h) rfl d_Cx_nextOfCountedStream_48 ?_
    clear he16
    refine lv_if_ne (tgt := 64) hx hb d_Cx_nextOfCountedStream_51 (by decide) (fun hb18 => ?_) (fun hb18 => ?_)
    · refine lv_iload_n hx hb d_Cx_nextOfCountedStream_64 rfl (lv_at hl 0 rfl) ?_
      have gzX : zX = v_Cx_nextOfCountedStreamV_zX zO zX zY zA j := by subst ezY15 ex12 ex11 ex8; unfold v_Cx_nextOfCountedStreamV_zX; rw [if_neg hb3, if_neg hb18]
      have gzY : zY15 = v_Cx_nextOfCountedStreamV_zY zO zX zY zA j := by subst ezY15 ex12 ex11 ex8; unfold v_Cx_nextOfCountedStreamV_zY; rw [if_neg hb3, if_neg hb18]
      have hSh : az_Sh g ad zG zO (v_Cx_nextOfCountedStreamV_zX zO zX zY zA j) (v_Cx_nextOfCountedStreamV_zY zO zX zY zA j) zA zB zM zI zL zK zN zF zQ L := by rw [← gzX, ← gzY]; exact hSh
      exact W.iret hx hb hr (fun t ht hW => ⟨⟨_, (), rfl, (by subst ezY15 ex12 ex11 ex8; unfold v_Cx_nextOfCountedStreamV; rw [if_neg hb3, if_neg hb18]), ag_Hr ht hP hD hSh⟩, hS.F ht⟩) hS.2.2 d_Cx_nextOfCountedStream_65
    · refine lv_aload_n hx hb d_Cx_nextOfCountedStream_54 rfl (lv_at hl 1 rfl) ?_
      refine lv_dup hx hb d_Cx_nextOfCountedStream_55 rfl ?_
      obtain ⟨hsd20, he19⟩ := zr_C0 hSh hj
      have hg := hSh.2.2.2.2.1 j hj
      refine va_get (C := R_Cx) (T := T_Cx) (N := 10) (v := .long (zX j 1)) hx hb hG in_Cx hown hK hP (3 + 16 * j + 0) he19 rfl 6 (by decide) (hG _ gw_2_3) (fun _ h => h) rfl d_Cx_nextOfCountedStream_56 ?_
      clear he19
      refine lv_lconst (v := 1) hx hb d_Cx_nextOfCountedStream_59 (by decide +kernel) ?_
      refine lv_ladd hx hb d_Cx_nextOfCountedStream_60 ?_
      refine ag_topl (fun y21 ey21 => ?_)
      obtain ⟨hsd23, he22⟩ := zr_C0 hSh hj
      have hg := hSh.2.2.2.2.1 j hj
      refine ag_put (v := .long y21) (ty := .long) (C := R_Cx) (T := T_Cx) (N := 10) hx hb hG in_Cx t_Cx t_Cx_ok n_Cx hown hK hP hD hS (3 + 16 * j + 0) he22 rfl 6 (by decide) (hG _ gw_2_3) (fun _ h => h) rfl (by decide +kernel) rfl rfl (Nat.le_of_ble_eq_true rfl) d_Cx_nextOfCountedStream_61 (zw_X1 hSh hj y21) ?_
      clear hP hD hSh hS he22
      intro H locs L hP hD hSh hS
      obtain ⟨zX24, ezX24⟩ : ∃ z : Nat → Nat → Int64, az_u2 zX j 1 y21 = z := ⟨_, rfl⟩
      rw [ezX24] at hSh
      refine lv_iload_n hx hb d_Cx_nextOfCountedStream_64 rfl (lv_at hl 0 rfl) ?_
      have gzX : zX24 = v_Cx_nextOfCountedStreamV_zX zO zX zY zA j := by subst ezX24 ey21 ezY15 ex12 ex11 ex8; unfold v_Cx_nextOfCountedStreamV_zX; rw [if_neg hb3, if_pos hb18]
      have gzY : zY15 = v_Cx_nextOfCountedStreamV_zY zO zX zY zA j := by subst ezX24 ey21 ezY15 ex12 ex11 ex8; unfold v_Cx_nextOfCountedStreamV_zY; rw [if_neg hb3, if_pos hb18]
      have hSh : az_Sh g ad zG zO (v_Cx_nextOfCountedStreamV_zX zO zX zY zA j) (v_Cx_nextOfCountedStreamV_zY zO zX zY zA j) zA zB zM zI zL zK zN zF zQ L := by rw [← gzX, ← gzY]; exact hSh
      exact W.iret hx hb hr (fun t ht hW => ⟨⟨_, (), rfl, (by subst ezX24 ey21 ezY15 ex12 ex11 ex8; unfold v_Cx_nextOfCountedStreamV; rw [if_neg hb3, if_pos hb18]), ag_Hr ht hP hD hSh⟩, hS.F ht⟩) hS.2.2 d_Cx_nextOfCountedStream_65
  · refine lv_aload_n hx hb d_Cx_nextOfCountedStream_7 rfl (lv_at hl 0 rfl) ?_
    refine lv_aload_n hx hb d_Cx_nextOfCountedStream_8 rfl (lv_at hl 0 rfl) ?_
    obtain ⟨hsd26, he25⟩ := zr_C0 hSh hj
    have hg := hSh.2.2.2.2.1 j hj
    refine va_get (C := R_Cx) (T := T_Cx) (N := 10) (v := .ref (aw_c ad j (zO j))) hx hb hG in_Cx hown hK hP (3 + 16 * j + 0) he25 rfl 4 (by decide) (hG _ gw_2_0) (fun _ h => h) rfl d_Cx_nextOfCountedStream_9 ?_
    clear he25
    refine lv_aload_n hx hb d_Cx_nextOfCountedStream_12 rfl (lv_at hl 0 rfl) ?_
    obtain ⟨hsd28, he27⟩ := zr_C0 hSh hj
    have hg := hSh.2.2.2.2.1 j hj
    refine va_get (C := R_Cx) (T := T_Cx) (N := 10) (v := .long (zX j 1)) hx hb hG in_Cx hown hK hP (3 + 16 * j + 0) he27 rfl 6 (by decide) (hG _ gw_2_3) (fun _ h => h) rfl d_Cx_nextOfCountedStream_13 ?_
    clear he27
    have hrun29 : va_Run p l e (headSpec ws_Cx_nextOfCountedStreamV rm_Cx_nextOfCountedStreamV).room s m ([.ref (aw_c ad j 0)] : List Value).toArray below meth c s.heap [] 0 0 0 0 (F0 m 16 ls [.long (zX j 1), .ref (aw_c ad j (zO j)), .ref (aw_c ad j 0)]) [.ref (aw_c ad j 0)] (va_Ql (fun r (_ : Unit) => r = v_Ci_onV zA j (zO j) (zX j 1)) (fun (_ : Unit) t => ag_H D N0 (az_Sh g ad zG zO zX zY zA zB zM zI zL zK zN zF zQ) t.heap) (aw_Z N0) ([.ref (aw_c ad j (zO j)), .long (zX j 1)] : List Value).toArray) (aw_Z N0) := by
      rcases hsd26 with hq30 | hq30 | hq30 | hq30 | hq30
      · rw [hq30, v_Ci_onV_2]
        have he31 := zr_C2 hSh hj
        exact va_runU (As := [.long (zX j 1)]) (rest := [.ref (aw_c ad j 0)]) ⟨hx, hb, hml, hown, hG⟩ (k_Rc_onV l D g ad N0 zG zO zX zY zA zB zM zI zL zK zN zF zQ j (zX j 1) hj) (aw_wA (owner := "RuleCiphers$Cipher") 1 hG hN gw_6_57 gw_8_14 gw_6_51 gw_6_55 gw_6_56 gw_0_4 nw_36 rfl rfl hd_Ci_on ⟨Nat.le_of_ble_eq_true rfl, Nat.le_of_ble_eq_true rfl⟩) (ag_qV (va_recv hK hP rfl he31) hP hD hSh hU hS) rfl rfl hl.1 rfl (lv_room (Nat.le_of_ble_eq_true rfl)) d_Cx_nextOfCountedStream_16 ⟨Nat.le_of_ble_eq_true rfl, Nat.le_of_ble_eq_true rfl⟩
      · rw [hq30, v_Ci_onV_5]
        have he32 := zr_C5 hSh hj
        exact va_runU (As := [.long (zX j 1)]) (rest := [.ref (aw_c ad j 0)]) ⟨hx, hb, hml, hown, hG⟩ (k_Xt_onV l D g ad N0 zG zO zX zY zA zB zM zI zL zK zN zF zQ j (zX j 1) hj) (aw_wA (owner := "RuleCiphers$Cipher") 1 hG hN gw_7_6 gw_8_14 gw_6_51 gw_7_4 gw_7_5 gw_0_5 nw_36 rfl rfl hd_Ci_on ⟨Nat.le_of_ble_eq_true rfl, Nat.le_of_ble_eq_true rfl⟩) (ag_qV (va_recv hK hP rfl he32) hP hD hSh hU hS) rfl rfl hl.1 rfl (lv_room (Nat.le_of_ble_eq_true rfl)) d_Cx_nextOfCountedStream_16 ⟨Nat.le_of_ble_eq_true rfl, Nat.le_of_ble_eq_true rfl⟩
      · rw [hq30, v_Ci_onV_7]
        have he33 := zr_C7 hSh hj
        exact va_runU (As := [.long (zX j 1)]) (rest := [.ref (aw_c ad j 0)]) ⟨hx, hb, hml, hown, hG⟩ (k_Sp_onV l D g ad N0 zG zO zX zY zA zB zM zI zL zK zN zF zQ j (zX j 1) hj) (aw_wA (owner := "RuleCiphers$Cipher") 1 hG hN gw_7_3 gw_8_14 gw_6_51 gw_7_1 gw_7_2 gw_0_6 nw_36 rfl rfl hd_Ci_on ⟨Nat.le_of_ble_eq_true rfl, Nat.le_of_ble_eq_true rfl⟩) (ag_qV (va_recv hK hP rfl he33) hP hD hSh hU hS) rfl rfl hl.1 rfl (lv_room (Nat.le_of_ble_eq_true rfl)) d_Cx_nextOfCountedStream_16 ⟨Nat.le_of_ble_eq_true rfl, Nat.le_of_ble_eq_true rfl⟩
      · rw [hq30, v_Ci_onV_10]
        have he34 := zr_C10 hSh hj
        exact va_runU (As := [.long (zX j 1)]) (rest := [.ref (aw_c ad j 0)]) ⟨hx, hb, hml, hown, hG⟩ (k_Si_onV l D g ad N0 zG zO zX zY zA zB zM zI zL zK zN zF zQ j (zX j 1) hj) (aw_wA (owner := "RuleCiphers$Cipher") 1 hG hN gw_7_0 gw_8_14 gw_6_51 gw_6_58 gw_6_59 gw_0_7 nw_36 rfl rfl hd_Ci_on ⟨Nat.le_of_ble_eq_true rfl, Nat.le_of_ble_eq_true rfl⟩) (ag_qV (va_recv hK hP rfl he34) hP hD hSh hU hS) rfl rfl hl.1 rfl (lv_room (Nat.le_of_ble_eq_true rfl)) d_Cx_nextOfCountedStream_16 ⟨Nat.le_of_ble_eq_true rfl, Nat.le_of_ble_eq_true rfl⟩
      · rw [hq30, v_Ci_onV_12]
        have he35 := zr_C12 hSh hj
        exact va_runU (As := [.long (zX j 1)]) (rest := [.ref (aw_c ad j 0)]) ⟨hx, hb, hml, hown, hG⟩ (k_Id_onV l D g ad N0 zG zO zX zY zA zB zM zI zL zK zN zF zQ j (zX j 1) hj) (aw_wA (owner := "RuleCiphers$Cipher") 1 hG hN gw_6_54 gw_8_14 gw_6_51 gw_6_52 gw_6_53 gw_0_8 nw_36 rfl rfl hd_Ci_on ⟨Nat.le_of_ble_eq_true rfl, Nat.le_of_ble_eq_true rfl⟩) (ag_qV (va_recv hK hP rfl he35) hP hD hSh hU hS) rfl rfl hl.1 rfl (lv_room (Nat.le_of_ble_eq_true rfl)) d_Cx_nextOfCountedStream_16 ⟨Nat.le_of_ble_eq_true rfl, Nat.le_of_ble_eq_true rfl⟩
    refine va_calll hrun29 hS (fun _ _ h => h) (fun _ h => h) ?_
    clear hP hD hSh hS hrun29
    intro y36 u8 t8 H locs ht _ ey36 hB _ _ hS
    obtain ⟨L, hP, hD, hSh⟩ := hB
    rw [ht] at hP
    clear ht
    have ey36 := ey36.symm
    obtain ⟨hsd38, he37⟩ := zr_C0 hSh hj
    have hg := hSh.2.2.2.2.1 j hj
    refine ag_put (v := .long y36) (ty := .long) (C := R_Cx) (T := T_Cx) (N := 10) hx hb hG in_Cx t_Cx t_Cx_ok n_Cx hown hK hP hD hS (3 + 16 * j + 0) he37 rfl 7 (by decide) (hG _ gw_2_4) (fun _ h => h) rfl (by decide +kernel) rfl rfl (Nat.le_of_ble_eq_true rfl) d_Cx_nextOfCountedStream_19 (zw_X2 hSh hj y36) ?_
    clear hP hD hSh hS he37
    intro H locs L hP hD hSh hS
    obtain ⟨zX39, ezX39⟩ : ∃ z : Nat → Nat → Int64, az_u2 zX j 2 y36 = z := ⟨_, rfl⟩
    rw [ezX39] at hSh
    refine lv_aload_n hx hb d_Cx_nextOfCountedStream_22 rfl (lv_at hl 0 rfl) ?_
    obtain ⟨hsd41, he40⟩ := zr_C0 hSh hj
    have hg := hSh.2.2.2.2.1 j hj
    refine va_get (C := R_Cx) (T := T_Cx) (N := 10) (v := .long (zX39 j 2)) hx hb hG in_Cx hown hK hP (3 + 16 * j + 0) he40 rfl 7 (by decide) (hG _ gw_2_4) (fun _ h => h) rfl d_Cx_nextOfCountedStream_23 ?_
    clear he40
    refine lv_aload_n hx hb d_Cx_nextOfCountedStream_26 rfl (lv_at hl 0 rfl) ?_
    obtain ⟨hsd43, he42⟩ := zr_C0 hSh hj
    have hg := hSh.2.2.2.2.1 j hj
    refine va_get (C := R_Cx) (T := T_Cx) (N := 10) (v := .int (zY j 0)) hx hb hG in_Cx hown hK hP (3 + 16 * j + 0) he42 rfl 8 (by decide) (hG _ gw_2_5) (fun _ h => h) rfl d_Cx_nextOfCountedStream_27 ?_
    clear he42
    refine aw_ci ((va_runSN (As := [.long (zX39 j 2), .int (zY j 0)]) (rest := []) ⟨hx, hb, hml, hown, hG⟩ (k_Ru_byteOfV l (zX39 j 2) (zY j 0)) (aw_wSN 2 hG hN gw_8_9 nw_39 gw_0_1 gw_8_8 rfl rfl hd_Ru_byteOf ⟨Nat.le_of_ble_eq_true rfl, Nat.le_of_ble_eq_true rfl⟩) aw_p0 rfl rfl hl.1 rfl (lv_room (Nat.le_of_ble_eq_true rfl)) d_Cx_nextOfCountedStream_30 ⟨Nat.le_of_ble_eq_true rfl, Nat.le_of_ble_eq_true rfl⟩).run) (fun x44 ex44 => ?_)
    have ex44 := ex44.symm
    refine lv_istore_n hx hb d_Cx_nextOfCountedStream_33 rfl hl (by decide) rfl (fun ls hl => ?_)
    have hl : lv_has ls 2 [(1, .int x44), (0, .ref (aw_c ad j 0))] := hl
    refine lv_aload_n hx hb d_Cx_nextOfCountedStream_34 rfl (lv_at hl 1 rfl) ?_
    refine lv_aload_n hx hb d_Cx_nextOfCountedStream_35 rfl (lv_at hl 1 rfl) ?_
    obtain ⟨hsd46, he45⟩ := zr_C0 hSh hj
    have hg := hSh.2.2.2.2.1 j hj
    refine va_get (C := R_Cx) (T := T_Cx) (N := 10) (v := .int (zY j 0)) hx hb hG in_Cx hown hK hP (3 + 16 * j + 0) he45 rfl 8 (by decide) (hG _ gw_2_5) (fun _ h => h) rfl d_Cx_nextOfCountedStream_36 ?_
    clear he45
    refine lv_iconst (v := nI 1) hx hb d_Cx_nextOfCountedStream_39 (by decide +kernel) ?_
    refine lv_iadd hx hb d_Cx_nextOfCountedStream_40 ?_
    refine ag_topi (fun x47 ex47 => ?_)
    refine lv_bipush (v := nI 8) hx hb d_Cx_nextOfCountedStream_41 (by decide +kernel) ?_
    refine lv_irem hx hb d_Cx_nextOfCountedStream_43 (by decide +kernel) ?_
    refine ag_topi (fun x48 ex48 => ?_)
    obtain ⟨hsd50, he49⟩ := zr_C0 hSh hj
    have hg := hSh.2.2.2.2.1 j hj
    refine ag_put (v := .int x48) (ty := .int) (C := R_Cx) (T := T_Cx) (N := 10) hx hb hG in_Cx t_Cx t_Cx_ok n_Cx hown hK hP hD hS (3 + 16 * j + 0) he49 rfl 8 (by decide) (hG _ gw_2_5) (fun _ h => h) rfl (by decide +kernel) rfl rfl (Nat.le_of_ble_eq_true rfl) d_Cx_nextOfCountedStream_44 (zw_Y0 hSh hj x48) ?_
    clear hP hD hSh hS he49
    intro H locs L hP hD hSh hS
    obtain ⟨zY51, ezY51⟩ : ∃ z : Nat → Nat → Int32, az_u2 zY j 0 x48 = z := ⟨_, rfl⟩
    rw [ezY51] at hSh
    refine lv_aload_n hx hb d_Cx_nextOfCountedStream_47 rfl (lv_at hl 1 rfl) ?_
    obtain ⟨hsd53, he52⟩ := zr_C0 hSh hj
    have hg := hSh.2.2.2.2.1 j hj
    refine va_get (C := R_Cx) (T := T_Cx) (N := 10) (v := .int (zY51 j 0)) hx hb hG in_Cx hown hK hP (3 + 16 * j + 0) he52 rfl 8 (by decide) (hG _ gw_2_5) (fun _ h => h) rfl d_Cx_nextOfCountedStream_48 ?_
    clear he52
    refine lv_if_ne (tgt := 64) hx hb d_Cx_nextOfCountedStream_51 (by decide) (fun hb54 => ?_) (fun hb54 => ?_)
    · refine lv_iload_n hx hb d_Cx_nextOfCountedStream_64 rfl (lv_at hl 0 rfl) ?_
      have gzX : zX39 = v_Cx_nextOfCountedStreamV_zX zO zX zY zA j := by subst ezY51 ex48 ex47 ex44 ezX39 ey36; unfold v_Cx_nextOfCountedStreamV_zX; rw [if_pos hb3, if_neg hb54]
      have gzY : zY51 = v_Cx_nextOfCountedStreamV_zY zO zX zY zA j := by subst ezY51 ex48 ex47 ex44 ezX39 ey36; unfold v_Cx_nextOfCountedStreamV_zY; rw [if_pos hb3, if_neg hb54]
      have hSh : az_Sh g ad zG zO (v_Cx_nextOfCountedStreamV_zX zO zX zY zA j) (v_Cx_nextOfCountedStreamV_zY zO zX zY zA j) zA zB zM zI zL zK zN zF zQ L := by rw [← gzX, ← gzY]; exact hSh
      exact W.iret hx hb hr (fun t ht hW => ⟨⟨_, (), rfl, (by subst ezY51 ex48 ex47 ex44 ezX39 ey36; unfold v_Cx_nextOfCountedStreamV; rw [if_pos hb3, if_neg hb54]), ag_Hr ht hP hD hSh⟩, hS.F ht⟩) hS.2.2 d_Cx_nextOfCountedStream_65
    · refine lv_aload_n hx hb d_Cx_nextOfCountedStream_54 rfl (lv_at hl 1 rfl) ?_
      refine lv_dup hx hb d_Cx_nextOfCountedStream_55 rfl ?_
      obtain ⟨hsd56, he55⟩ := zr_C0 hSh hj
      have hg := hSh.2.2.2.2.1 j hj
      refine va_get (C := R_Cx) (T := T_Cx) (N := 10) (v := .long (zX39 j 1)) hx hb hG in_Cx hown hK hP (3 + 16 * j + 0) he55 rfl 6 (by decide) (hG _ gw_2_3) (fun _ h => h) rfl d_Cx_nextOfCountedStream_56 ?_
      clear he55
      refine lv_lconst (v := 1) hx hb d_Cx_nextOfCountedStream_59 (by decide +kernel) ?_
      refine lv_ladd hx hb d_Cx_nextOfCountedStream_60 ?_
      refine ag_topl (fun y57 ey57 => ?_)
      obtain ⟨hsd59, he58⟩ := zr_C0 hSh hj
      have hg := hSh.2.2.2.2.1 j hj
      refine ag_put (v := .long y57) (ty := .long) (C := R_Cx) (T := T_Cx) (N := 10) hx hb hG in_Cx t_Cx t_Cx_ok n_Cx hown hK hP hD hS (3 + 16 * j + 0) he58 rfl 6 (by decide) (hG _ gw_2_3) (fun _ h => h) rfl (by decide +kernel) rfl rfl (Nat.le_of_ble_eq_true rfl) d_Cx_nextOfCountedStream_61 (zw_X1 hSh hj y57) ?_
      clear hP hD hSh hS he58
      intro H locs L hP hD hSh hS
      obtain ⟨zX60, ezX60⟩ : ∃ z : Nat → Nat → Int64, az_u2 zX39 j 1 y57 = z := ⟨_, rfl⟩
      rw [ezX60] at hSh
      refine lv_iload_n hx hb d_Cx_nextOfCountedStream_64 rfl (lv_at hl 0 rfl) ?_
      have gzX : zX60 = v_Cx_nextOfCountedStreamV_zX zO zX zY zA j := by subst ezX60 ey57 ezY51 ex48 ex47 ex44 ezX39 ey36; unfold v_Cx_nextOfCountedStreamV_zX; rw [if_pos hb3, if_pos hb54]
      have gzY : zY51 = v_Cx_nextOfCountedStreamV_zY zO zX zY zA j := by subst ezX60 ey57 ezY51 ex48 ex47 ex44 ezX39 ey36; unfold v_Cx_nextOfCountedStreamV_zY; rw [if_pos hb3, if_pos hb54]
      have hSh : az_Sh g ad zG zO (v_Cx_nextOfCountedStreamV_zX zO zX zY zA j) (v_Cx_nextOfCountedStreamV_zY zO zX zY zA j) zA zB zM zI zL zK zN zF zQ L := by rw [← gzX, ← gzY]; exact hSh
      exact W.iret hx hb hr (fun t ht hW => ⟨⟨_, (), rfl, (by subst ezX60 ey57 ezY51 ex48 ex47 ex44 ezX39 ey36; unfold v_Cx_nextOfCountedStreamV; rw [if_pos hb3, if_pos hb54]), ag_Hr ht hP hD hSh⟩, hS.F ht⟩) hS.2.2 d_Cx_nextOfCountedStream_65
noncomputable def v_Cx_feedStep1V_zX (zG : Nat → Nat × Nat) (zO : Nat → Nat) (zX : Nat → Nat → Int64) (zA : Nat → Nat → Nat → Int32) (zB : Nat → Int32) (j : Nat) (bk : Int32) (k : Nat) : Nat → Nat → Int64 := (if (zG j).2 = 0 then zX else v_Cx_chainedV_zX zO zX zA j bk (v_Ru_readBlockV zB k))
noncomputable def v_Cx_feedStep1V_zB (zG : Nat → Nat × Nat) (zO : Nat → Nat) (zX : Nat → Nat → Int64) (zA : Nat → Nat → Nat → Int32) (zB : Nat → Int32) (j : Nat) (bk : Int32) (k : Nat) : Nat → Int32 := (if (zG j).2 = 0 then v_Ru_writeBlockV_zB zB k (v_Ci_onOrBackV zA j (zO j) bk (v_Ru_readBlockV zB k)) else v_Ru_writeBlockV_zB zB k (v_Cx_chainedV zO zX zA j bk (v_Ru_readBlockV zB k)))
abbrev ws_Cx_feedStep1V : List Cond := Cond.code y_Cx_feedStep b_Cx_feedStep 4 none :: aw_G
abbrev rm_Cx_feedStep1V : Room := { frames := 4, cells := 0, slots := 0, locals := 104 }
set_option maxHeartbeats 4000000 in
set_option maxRecDepth 100000 in
theorem k_Cx_feedStep1V (l : Launch) (D : va_G) (g : Nat → ClassId) (ad : Nat → Nat) (N0 : Nat) (zG : Nat → Nat × Nat) (zO : Nat → Nat) (zX : Nat → Nat → Int64) (zY : Nat → Nat → Int32) (zA : Nat → Nat → Nat → Int32) (zB : Nat → Int32) (zM : Nat → Nat × Nat) (zI : Nat → Nat → Int32) (zL : Nat → Nat → Int64) (zK : Int32) (zN : Nat) (zF : Int32) (zQ : Int64) (j : Nat) (bk : Int32) (k : Nat) (hj : j < 4) (hm : (zG j).2 ≤ 1) (hk : k ≤ 56) : Met l y_Cx_feedStep ws_Cx_feedStep1V rm_Cx_feedStep1V (va_Pc ([.ref (aw_c ad j 0), .int bk, .ref (aw_r ad 2), .int (nI k)] : List Value) (ag_B D g N0 (az_Sh g ad zG zO zX zY zA zB zM zI zL zK zN zF zQ))) (va_Qv (fun (_ : Unit) => True) (fun (_ : Unit) t => ag_H D N0 (az_Sh g ad zG zO (v_Cx_feedStep1V_zX zG zO zX zA zB j bk k) zY zA (v_Cx_feedStep1V_zB zG zO zX zA zB j bk k) zM zI zL zK zN zF zQ) t.heap) (aw_Z N0)) 0 0 (aw_Z N0) := by
  refine Met.ofW (cc := b_Cx_feedStep) (maxL := 4) (ret := none) (by decide) rfl ?_
  intro p e s m args below meth c s₁ B hml hv
  obtain ⟨rfl, ⟨L, hP, hD, hSh⟩, hU⟩ := hv
  have hx := B.exec
  have hb := B.bytes
  have hr := B.returns
  have hG : ∀ w ∈ aw_G, w.before _ s = true := fun w h => atoms_spec (ws := ws_Cx_feedStep1V) B.pre w (List.mem_cons_of_mem _ h)
  have hown : s.vm.findClass "RuleCiphers$Context" = some m.cls := findClass_of_methodNamed B.named
  have hlocks := B.notSynchronized
  have hE := hU.1
  have hK := hE.1
  have hN := hE.2.1
  have hS : va_S (aw_Z N0) s.heap s.heap [] := va_S.rf
  have hl := lv_entry ([.ref (aw_c ad j 0), .int bk, .ref (aw_r ad 2), .int (nI k)] : List Value) (n := 4) (Nat.le_of_ble_eq_true rfl)
  rw [lg_entry_eq]
  generalize (lg_sl ([.ref (aw_c ad j 0), .int bk, .ref (aw_r ad 2), .int (nI k)] : List Value) ++ List.replicate (4 - (lg_sl ([.ref (aw_c ad j 0), .int bk, .ref (aw_r ad 2), .int (nI k)] : List Value)).length) Slot.unset).toArray = ls at hl ⊢
  have hl : lv_has ls 4 [(0, .ref (aw_c ad j 0)), (1, .int bk), (2, .ref (aw_r ad 2)), (3, .int (nI k))] := hl
  refine lv_aload_n hx hb d_Cx_feedStep_0 rfl (lv_at hl 0 rfl) ?_
  obtain ⟨hsd2, he1⟩ := zr_C0 hSh hj
  have hg := hSh.2.2.2.2.1 j hj
  refine va_get (C := R_Cx) (T := T_Cx) (N := 10) (v := .int (nI ((zG j).2))) hx hb hG in_Cx hown hK hP (3 + 16 * j + 0) he1 rfl 3 (by decide) (hG _ gw_1_58) (fun _ h => h) rfl d_Cx_feedStep_1 ?_
  clear he1
  rcases (by omega : (zG j).2 = 0 ∨ (zG j).2 = 1) with hs3 | hs3
  · refine aw_ti (y := nI 0) (by rw [hs3]) ?_
    refine lv_tableIn (tgt := 36) (off := 32) hx hb d_Cx_feedStep_4 (by decide +kernel) (by decide +kernel) (by decide +kernel) (by decide) ?_
    refine lv_aload_n hx hb d_Cx_feedStep_36 rfl (lv_at hl 2 rfl) ?_
    refine lv_iload_n hx hb d_Cx_feedStep_37 rfl (lv_at hl 3 rfl) ?_
    refine lv_aload_n hx hb d_Cx_feedStep_38 rfl (lv_at hl 0 rfl) ?_
    obtain ⟨hsd5, he4⟩ := zr_C0 hSh hj
    have hg := hSh.2.2.2.2.1 j hj
    refine va_get (C := R_Cx) (T := T_Cx) (N := 10) (v := .ref (aw_c ad j (zO j))) hx hb hG in_Cx hown hK hP (3 + 16 * j + 0) he4 rfl 4 (by decide) (hG _ gw_2_0) (fun _ h => h) rfl d_Cx_feedStep_39 ?_
    clear he4
    refine lv_iload_n hx hb d_Cx_feedStep_42 rfl (lv_at hl 1 rfl) ?_
    refine lv_aload_n hx hb d_Cx_feedStep_43 rfl (lv_at hl 2 rfl) ?_
    refine lv_iload_n hx hb d_Cx_feedStep_44 rfl (lv_at hl 3 rfl) ?_
    refine va_calll (va_runSN (As := [.ref (aw_r ad 2), .int (nI k)]) (rest := [.int bk, .ref (aw_c ad j (zO j)), .int (nI k), .ref (aw_r ad 2)]) ⟨hx, hb, hml, hown, hG⟩ (k_Ru_readBlockV l D g ad N0 zG zO zX zY zA zB zM zI zL zK zN zF zQ k hk) (aw_wSN 2 hG hN gw_8_3 nw_37 gw_0_1 gw_8_2 rfl rfl hd_Ru_readBlock ⟨Nat.le_of_ble_eq_true rfl, Nat.le_of_ble_eq_true rfl⟩) (ag_qS hP hD hSh hU hS) rfl rfl hl.1 rfl (lv_room (Nat.le_of_ble_eq_true rfl)) d_Cx_feedStep_45 ⟨Nat.le_of_ble_eq_true rfl, Nat.le_of_ble_eq_true rfl⟩) hS (fun _ _ h => h) (fun _ h => h) ?_
    clear hP hD hSh hS
    intro y6 u8 t8 H locs ht _ ey6 hB _ _ hS
    obtain ⟨L, hP, hD, hSh⟩ := hB
    rw [ht] at hP
    clear ht
    have ey6 := ey6.symm
    have hrun7 : va_Run p l e (headSpec ws_Cx_feedStep1V rm_Cx_feedStep1V).room s m ([.ref (aw_c ad j 0), .int bk, .ref (aw_r ad 2), .int (nI k)] : List Value).toArray below meth c H locs 0 0 0 0 (F0 m 48 ls [.long y6, .int bk, .ref (aw_c ad j (zO j)), .int (nI k), .ref (aw_r ad 2)]) [.int (nI k), .ref (aw_r ad 2)] (va_Ql (fun r (_ : Unit) => r = v_Ci_onOrBackV zA j (zO j) bk y6) (fun (_ : Unit) t => ag_H D N0 (az_Sh g ad zG zO zX zY zA zB zM zI zL zK zN zF zQ) t.heap) (aw_Z N0) ([.ref (aw_c ad j (zO j)), .int bk, .long y6] : List Value).toArray) (aw_Z N0) := by
      rcases hsd5 with hq8 | hq8 | hq8 | hq8 | hq8
      · rw [hq8]
        have he9 := zr_C2 hSh hj
        exact va_runU (As := [.int bk, .long y6]) (rest := [.int (nI k), .ref (aw_r ad 2)]) ⟨hx, hb, hml, hown, hG⟩ (k_Ci_onOrBackV l D g ad N0 zG zO zX zY zA zB zM zI zL zK zN zF zQ j 2 bk y6 hj (by unfold aw_cof; omega)) (aw_wU (owner := "RuleCiphers$Cipher") 2 hG gw_6_8 gw_8_4 gw_6_2 gw_6_4 gw_6_1 gw_0_3 rfl rfl rfl hd_Ci_onOrBack ⟨Nat.le_of_ble_eq_true rfl, Nat.le_of_ble_eq_true rfl⟩) (ag_qV (va_recv hK hP rfl he9) hP hD hSh hU hS) rfl rfl hl.1 rfl (lv_room (Nat.le_of_ble_eq_true rfl)) d_Cx_feedStep_48 ⟨Nat.le_of_ble_eq_true rfl, Nat.le_of_ble_eq_true rfl⟩
      · rw [hq8]
        have he10 := zr_C5 hSh hj
        exact va_runU (As := [.int bk, .long y6]) (rest := [.int (nI k), .ref (aw_r ad 2)]) ⟨hx, hb, hml, hown, hG⟩ (k_Ci_onOrBackV l D g ad N0 zG zO zX zY zA zB zM zI zL zK zN zF zQ j 5 bk y6 hj (by unfold aw_cof; omega)) (aw_wU (owner := "RuleCiphers$Cipher") 2 hG gw_6_8 gw_8_4 gw_6_2 gw_6_7 gw_6_1 gw_0_3 rfl rfl rfl hd_Ci_onOrBack ⟨Nat.le_of_ble_eq_true rfl, Nat.le_of_ble_eq_true rfl⟩) (ag_qV (va_recv hK hP rfl he10) hP hD hSh hU hS) rfl rfl hl.1 rfl (lv_room (Nat.le_of_ble_eq_true rfl)) d_Cx_feedStep_48 ⟨Nat.le_of_ble_eq_true rfl, Nat.le_of_ble_eq_true rfl⟩
      · rw [hq8]
        have he11 := zr_C7 hSh hj
        exact va_runU (As := [.int bk, .long y6]) (rest := [.int (nI k), .ref (aw_r ad 2)]) ⟨hx, hb, hml, hown, hG⟩ (k_Ci_onOrBackV l D g ad N0 zG zO zX zY zA zB zM zI zL zK zN zF zQ j 7 bk y6 hj (by unfold aw_cof; omega)) (aw_wU (owner := "RuleCiphers$Cipher") 2 hG gw_6_8 gw_8_4 gw_6_2 gw_6_6 gw_6_1 gw_0_3 rfl rfl rfl hd_Ci_onOrBack ⟨Nat.le_of_ble_eq_true rfl, Nat.le_of_ble_eq_true rfl⟩) (ag_qV (va_recv hK hP rfl he11) hP hD hSh hU hS) rfl rfl hl.1 rfl (lv_room (Nat.le_of_ble_eq_true rfl)) d_Cx_feedStep_48 ⟨Nat.le_of_ble_eq_true rfl, Nat.le_of_ble_eq_true rfl⟩
      · rw [hq8]
        have he12 := zr_C10 hSh hj
        exact va_runU (As := [.int bk, .long y6]) (rest := [.int (nI k), .ref (aw_r ad 2)]) ⟨hx, hb, hml, hown, hG⟩ (k_Ci_onOrBackV l D g ad N0 zG zO zX zY zA zB zM zI zL zK zN zF zQ j 10 bk y6 hj (by unfold aw_cof; omega)) (aw_wU (owner := "RuleCiphers$Cipher") 2 hG gw_6_8 gw_8_4 gw_6_2 gw_6_5 gw_6_1 gw_0_3 rfl rfl rfl hd_Ci_onOrBack ⟨Nat.le_of_ble_eq_true rfl, Nat.le_of_ble_eq_true rfl⟩) (ag_qV (va_recv hK hP rfl he12) hP hD hSh hU hS) rfl rfl hl.1 rfl (lv_room (Nat.le_of_ble_eq_true rfl)) d_Cx_feedStep_48 ⟨Nat.le_of_ble_eq_true rfl, Nat.le_of_ble_eq_true rfl⟩
      · rw [hq8]
        have he13 := zr_C12 hSh hj
        exact va_runU (As := [.int bk, .long y6]) (rest := [.int (nI k), .ref (aw_r ad 2)]) ⟨hx, hb, hml, hown, hG⟩ (k_Ci_onOrBackV l D g ad N0 zG zO zX zY zA zB zM zI zL zK zN zF zQ j 12 bk y6 hj (by unfold aw_cof; omega)) (aw_wU (owner := "RuleCiphers$Cipher") 2 hG gw_6_8 gw_8_4 gw_6_2 gw_6_3 gw_6_1 gw_0_3 rfl rfl rfl hd_Ci_onOrBack ⟨Nat.le_of_ble_eq_true rfl, Nat.le_of_ble_eq_true rfl⟩) (ag_qV (va_recv hK hP rfl he13) hP hD hSh hU hS) rfl rfl hl.1 rfl (lv_room (Nat.le_of_ble_eq_true rfl)) d_Cx_feedStep_48 ⟨Nat.le_of_ble_eq_true rfl, Nat.le_of_ble_eq_true rfl⟩
    refine va_calll hrun7 hS (fun _ _ h => h) (fun _ h => h) ?_
    clear hP hD hSh hS hrun7
    intro y14 u8 t8 H locs ht _ ey14 hB _ _ hS
    obtain ⟨L, hP, hD, hSh⟩ := hB
    rw [ht] at hP
    clear ht
    have ey14 := ey14.symm
    refine va_callv (va_runSN (As := [.ref (aw_r ad 2), .int (nI k), .long y14]) (rest := []) ⟨hx, hb, hml, hown, hG⟩ (k_Ru_writeBlockV l D g ad N0 zG zO zX zY zA zB zM zI zL zK zN zF zQ k y14 hk) (aw_wSN 3 hG hN gw_8_6 nw_38 gw_0_1 gw_8_5 rfl rfl hd_Ru_writeBlock ⟨Nat.le_of_ble_eq_true rfl, Nat.le_of_ble_eq_true rfl⟩) (ag_qS hP hD hSh hU hS) rfl rfl hl.1 rfl (lv_room (Nat.le_of_ble_eq_true rfl)) d_Cx_feedStep_51 ⟨Nat.le_of_ble_eq_true rfl, Nat.le_of_ble_eq_true rfl⟩) hS (fun _ _ h => h) (fun _ h => h) ?_
    clear hP hD hSh hS
    intro u8 t8 H locs ht _ _ hB _ _ hS
    obtain ⟨L, hP, hD, hSh⟩ := hB
    rw [ht] at hP
    clear ht
    obtain ⟨zB15, ezB15⟩ : ∃ z : Nat → Int32, v_Ru_writeBlockV_zB zB k y14 = z := ⟨_, rfl⟩
    rw [ezB15] at hSh
    refine lv_goto (tgt := 112) hx hb d_Cx_feedStep_54 (by decide) ?_
    have gzX : zX = v_Cx_feedStep1V_zX zG zO zX zA zB j bk k := by subst ezB15 ey14 ey6; unfold v_Cx_feedStep1V_zX; rw [if_pos hs3]
    have gzB : zB15 = v_Cx_feedStep1V_zB zG zO zX zA zB j bk k := by subst ezB15 ey14 ey6; unfold v_Cx_feedStep1V_zB; rw [if_pos hs3]
    have hSh : az_Sh g ad zG zO (v_Cx_feedStep1V_zX zG zO zX zA zB j bk k) zY zA (v_Cx_feedStep1V_zB zG zO zX zA zB j bk k) zM zI zL zK zN zF zQ L := by rw [← gzX, ← gzB]; exact hSh
    exact W.vret hx hb hr (fun t ht hW => ⟨⟨(), rfl, trivial, ag_Hr ht hP hD hSh⟩, hS.F ht⟩) hS.2.2 d_Cx_feedStep_112
  · refine aw_ti (y := nI 1) (by rw [hs3]) ?_
    refine lv_tableIn (tgt := 57) (off := 53) hx hb d_Cx_feedStep_4 (by decide +kernel) (by decide +kernel) (by decide +kernel) (by decide) ?_
    refine lv_aload_n hx hb d_Cx_feedStep_57 rfl (lv_at hl 2 rfl) ?_
    refine lv_iload_n hx hb d_Cx_feedStep_58 rfl (lv_at hl 3 rfl) ?_
    refine lv_aload_n hx hb d_Cx_feedStep_59 rfl (lv_at hl 0 rfl) ?_
    refine lv_iload_n hx hb d_Cx_feedStep_60 rfl (lv_at hl 1 rfl) ?_
    refine lv_aload_n hx hb d_Cx_feedStep_61 rfl (lv_at hl 2 rfl) ?_
    refine lv_iload_n hx hb d_Cx_feedStep_62 rfl (lv_at hl 3 rfl) ?_
    refine va_calll (va_runSN (As := [.ref (aw_r ad 2), .int (nI k)]) (rest := [.int bk, .ref (aw_c ad j 0), .int (nI k), .ref (aw_r ad 2)]) ⟨hx, hb, hml, hown, hG⟩ (k_Ru_readBlockV l D g ad N0 zG zO zX zY zA zB zM zI zL zK zN zF zQ k hk) (aw_wSN 2 hG hN gw_8_3 nw_37 gw_0_1 gw_8_2 rfl rfl hd_Ru_readBlock ⟨Nat.le_of_ble_eq_true rfl, Nat.le_of_ble_eq_true rfl⟩) (ag_qS hP hD hSh hU hS) rfl rfl hl.1 rfl (lv_room (Nat.le_of_ble_eq_true rfl)) d_Cx_feedStep_63 ⟨Nat.le_of_ble_eq_true rfl, Nat.le_of_ble_eq_true rfl⟩) hS (fun _ _ h => h) (fun _ h => h) ?_
    clear hP hD hSh hS
    intro y16 u8 t8 H locs ht _ ey16 hB _ _ hS
    obtain ⟨L, hP, hD, hSh⟩ := hB
    rw [ht] at hP
    clear ht
    have ey16 := ey16.symm
    obtain ⟨_, he17⟩ := zr_C0 hSh hj
    refine va_calll (va_runV (As := [.int bk, .long y16]) (rest := [.int (nI k), .ref (aw_r ad 2)]) ⟨hx, hb, hml, hown, hG⟩ (k_Cx_chainedV l D g ad N0 zG zO zX zY zA zB zM zI zL zK zN zF zQ j bk y16 hj) (aw_wV 2 hG gw_8_12 gw_8_10 gw_0_2 gw_8_11 gw_p_4 rfl rfl hd_Cx_chained ⟨Nat.le_of_ble_eq_true rfl, Nat.le_of_ble_eq_true rfl⟩) (ag_qV (va_recv hK hP rfl he17) hP hD hSh hU hS) rfl rfl hl.1 rfl (lv_room (Nat.le_of_ble_eq_true rfl)) d_Cx_feedStep_66 ⟨Nat.le_of_ble_eq_true rfl, Nat.le_of_ble_eq_true rfl⟩) hS (fun _ _ h => h) (fun _ h => h) ?_
    clear hP hD hSh hS he17
    intro y18 u8 t8 H locs ht _ ey18 hB _ _ hS
    obtain ⟨L, hP, hD, hSh⟩ := hB
    rw [ht] at hP
    clear ht
    obtain ⟨zX19, ezX19⟩ : ∃ z : Nat → Nat → Int64, v_Cx_chainedV_zX zO zX zA j bk y16 = z := ⟨_, rfl⟩
    rw [ezX19] at hSh
    have ey18 := ey18.symm
    refine va_callv (va_runSN (As := [.ref (aw_r ad 2), .int (nI k), .long y18]) (rest := []) ⟨hx, hb, hml, hown, hG⟩ (k_Ru_writeBlockV l D g ad N0 zG zO zX19 zY zA zB zM zI zL zK zN zF zQ k y18 hk) (aw_wSN 3 hG hN gw_8_6 nw_38 gw_0_1 gw_8_5 rfl rfl hd_Ru_writeBlock ⟨Nat.le_of_ble_eq_true rfl, Nat.le_of_ble_eq_true rfl⟩) (ag_qS hP hD hSh hU hS) rfl rfl hl.1 rfl (lv_room (Nat.le_of_ble_eq_true rfl)) d_Cx_feedStep_69 ⟨Nat.le_of_ble_eq_true rfl, Nat.le_of_ble_eq_true rfl⟩) hS (fun _ _ h => h) (fun _ h => h) ?_
    clear hP hD hSh hS
    intro u8 t8 H locs ht _ _ hB _ _ hS
    obtain ⟨L, hP, hD, hSh⟩ := hB
    rw [ht] at hP
    clear ht
    obtain ⟨zB20, ezB20⟩ : ∃ z : Nat → Int32, v_Ru_writeBlockV_zB zB k y18 = z := ⟨_, rfl⟩
    rw [ezB20] at hSh
    refine lv_goto (tgt := 112) hx hb d_Cx_feedStep_72 (by decide) ?_
    have gzX : zX19 = v_Cx_feedStep1V_zX zG zO zX zA zB j bk k := by subst ezB20 ey18 ezX19 ey16; unfold v_Cx_feedStep1V_zX; rw [if_neg (by omega)]
    have gzB : zB20 = v_Cx_feedStep1V_zB zG zO zX zA zB j bk k := by subst ezB20 ey18 ezX19 ey16; unfold v_Cx_feedStep1V_zB; rw [if_neg (by omega)]
    have hSh : az_Sh g ad zG zO (v_Cx_feedStep1V_zX zG zO zX zA zB j bk k) zY zA (v_Cx_feedStep1V_zB zG zO zX zA zB j bk k) zM zI zL zK zN zF zQ L := by rw [← gzX, ← gzB]; exact hSh
    exact W.vret hx hb hr (fun t ht hW => ⟨⟨(), rfl, trivial, ag_Hr ht hP hD hSh⟩, hS.F ht⟩) hS.2.2 d_Cx_feedStep_112
noncomputable def v_Cx_feedStep0V_zX (zG : Nat → Nat × Nat) (zO : Nat → Nat) (zX : Nat → Nat → Int64) (zY : Nat → Nat → Int32) (zA : Nat → Nat → Nat → Int32) (zB : Nat → Int32) (j : Nat) (bk : Int32) (k : Nat) : Nat → Nat → Int64 := (if (zG j).2 = 2 then v_Cx_fedBehindV_zX zO zX zA j bk (zB k) else (if (zG j).2 = 3 then v_Cx_nextOfOwnStreamV_zX zO zX zY zA j else (if (zG j).2 = 4 then v_Cx_nextOfCountedStreamV_zX zO zX zY zA j else v_Cx_nextOfCountedStreamV_zX zO zX zY zA j)))
noncomputable def v_Cx_feedStep0V_zY (zG : Nat → Nat × Nat) (zO : Nat → Nat) (zX : Nat → Nat → Int64) (zY : Nat → Nat → Int32) (zA : Nat → Nat → Nat → Int32) (zB : Nat → Int32) (j : Nat) (bk : Int32) (k : Nat) : Nat → Nat → Int32 := (if (zG j).2 = 2 then zY else (if (zG j).2 = 3 then v_Cx_nextOfOwnStreamV_zY zO zX zY zA j else (if (zG j).2 = 4 then v_Cx_nextOfCountedStreamV_zY zO zX zY zA j else v_Cx_nextOfCountedStreamV_zY zO zX zY zA j)))
noncomputable def v_Cx_feedStep0V_zB (zG : Nat → Nat × Nat) (zO : Nat → Nat) (zX : Nat → Nat → Int64) (zY : Nat → Nat → Int32) (zA : Nat → Nat → Nat → Int32) (zB : Nat → Int32) (j : Nat) (bk : Int32) (k : Nat) : Nat → Int32 := (if (zG j).2 = 2 then upd (zB) k (v_Cx_fedBehindV zO zX zA j bk (zB k)) else (if (zG j).2 = 3 then upd (zB) k ((zB k) ^^^ (v_Cx_nextOfOwnStreamV zO zX zY zA j)) else (if (zG j).2 = 4 then upd (zB) k ((zB k) ^^^ (v_Cx_nextOfCountedStreamV zO zX zY zA j)) else upd (zB) k ((zB k) ^^^ (v_Cx_nextOfCountedStreamV zO zX zY zA j)))))
abbrev ws_Cx_feedStep0V : List Cond := Cond.code y_Cx_feedStep b_Cx_feedStep 4 none :: aw_G
abbrev rm_Cx_feedStep0V : Room := { frames := 4, cells := 0, slots := 0, locals := 102 }
set_option maxHeartbeats 4000000 in
set_option maxRecDepth 100000 in
theorem k_Cx_feedStep0V (l : Launch) (D : va_G) (g : Nat → ClassId) (ad : Nat → Nat) (N0 : Nat) (zG : Nat → Nat × Nat) (zO : Nat → Nat) (zX : Nat → Nat → Int64) (zY : Nat → Nat → Int32) (zA : Nat → Nat → Nat → Int32) (zB : Nat → Int32) (zM : Nat → Nat × Nat) (zI : Nat → Nat → Int32) (zL : Nat → Nat → Int64) (zK : Int32) (zN : Nat) (zF : Int32) (zQ : Int64) (j : Nat) (bk : Int32) (k : Nat) (hj : j < 4) (hm : 2 ≤ (zG j).2) (hk : k ≤ 63) : Met l y_Cx_feedStep ws_Cx_feedStep0V rm_Cx_feedStep0V (va_Pc ([.ref (aw_c ad j 0), .int bk, .ref (aw_r ad 2), .int (nI k)] : List Value) (ag_B D g N0 (az_Sh g ad zG zO zX zY zA zB zM zI zL zK zN zF zQ))) (va_Qv (fun (_ : Unit) => True) (fun (_ : Unit) t => ag_H D N0 (az_Sh g ad zG zO (v_Cx_feedStep0V_zX zG zO zX zY zA zB j bk k) (v_Cx_feedStep0V_zY zG zO zX zY zA zB j bk k) zA (v_Cx_feedStep0V_zB zG zO zX zY zA zB j bk k) zM zI zL zK zN zF zQ) t.heap) (aw_Z N0)) 0 0 (aw_Z N0) := by
  refine Met.ofW (cc := b_Cx_feedStep) (maxL := 4) (ret := none) (by decide) rfl ?_
  intro p e s m args below meth c s₁ B hml hv
  obtain ⟨rfl, ⟨L, hP, hD, hSh⟩, hU⟩ := hv
  have hx := B.exec
  have hb := B.bytes
  have hr := B.returns
  have hG : ∀ w ∈ aw_G, w.before _ s = true := fun w h => atoms_spec (ws := ws_Cx_feedStep0V) B.pre w (List.mem_cons_of_mem _ h)
  have hown : s.vm.findClass "RuleCiphers$Context" = some m.cls := findClass_of_methodNamed B.named
  have hlocks := B.notSynchronized
  have hE := hU.1
  have hK := hE.1
  have hN := hE.2.1
  have hS : va_S (aw_Z N0) s.heap s.heap [] := va_S.rf
  have hl := lv_entry ([.ref (aw_c ad j 0), .int bk, .ref (aw_r ad 2), .int (nI k)] : List Value) (n := 4) (Nat.le_of_ble_eq_true rfl)
  rw [lg_entry_eq]
  generalize (lg_sl ([.ref (aw_c ad j 0), .int bk, .ref (aw_r ad 2), .int (nI k)] : List Value) ++ List.replicate (4 - (lg_sl ([.ref (aw_c ad j 0), .int bk, .ref (aw_r ad 2), .int (nI k)] : List Value)).length) Slot.unset).toArray = ls at hl ⊢
  have hl : lv_has ls 4 [(0, .ref (aw_c ad j 0)), (1, .int bk), (2, .ref (aw_r ad 2)), (3, .int (nI k))] := hl
  refine lv_aload_n hx hb d_Cx_feedStep_0 rfl (lv_at hl 0 rfl) ?_
  obtain ⟨hsd2, he1⟩ := zr_C0 hSh hj
  have hg := hSh.2.2.2.2.1 j hj
  refine va_get (C := R_Cx) (T := T_Cx) (N := 10) (v := .int (nI ((zG j).2))) hx hb hG in_Cx hown hK hP (3 + 16 * j + 0) he1 rfl 3 (by decide) (hG _ gw_1_58) (fun _ h => h) rfl d_Cx_feedStep_1 ?_
  clear he1
  rcases (by omega : (zG j).2 = 2 ∨ (zG j).2 = 3 ∨ (zG j).2 = 4 ∨ (zG j).2 = 5) with hs3 | hs3 | hs3 | hs3
  · refine aw_ti (y := nI 2) (by rw [hs3]) ?_
    refine lv_tableIn (tgt := 75) (off := 71) hx hb d_Cx_feedStep_4 (by decide +kernel) (by decide +kernel) (by decide +kernel) (by decide) ?_
    refine lv_aload_n hx hb d_Cx_feedStep_75 rfl (lv_at hl 2 rfl) ?_
    refine lv_iload_n hx hb d_Cx_feedStep_76 rfl (lv_at hl 3 rfl) ?_
    refine lv_aload_n hx hb d_Cx_feedStep_77 rfl (lv_at hl 0 rfl) ?_
    refine lv_iload_n hx hb d_Cx_feedStep_78 rfl (lv_at hl 1 rfl) ?_
    refine lv_aload_n hx hb d_Cx_feedStep_79 rfl (lv_at hl 2 rfl) ?_
    refine lv_iload_n hx hb d_Cx_feedStep_80 rfl (lv_at hl 3 rfl) ?_
    have he4 := zr_R2 hSh
    refine aw_ild hx hb hK hP 2 0 he4 rfl (k := k) (by omega) (by decide) d_Cx_feedStep_81 ?_
    clear he4
    refine ag_topi (fun x5 ex5 => ?_)
    obtain ⟨_, he6⟩ := zr_C0 hSh hj
    refine va_calli (va_runV (As := [.int bk, .int x5]) (rest := [.int (nI k), .ref (aw_r ad 2)]) ⟨hx, hb, hml, hown, hG⟩ (k_Cx_fedBehindV l D g ad N0 zG zO zX zY zA zB zM zI zL zK zN zF zQ j bk x5 hj) (aw_wV 2 hG gw_8_17 gw_8_15 gw_0_2 gw_8_16 gw_p_5 rfl rfl hd_Cx_fedBehind ⟨Nat.le_of_ble_eq_true rfl, Nat.le_of_ble_eq_true rfl⟩) (ag_qV (va_recv hK hP rfl he6) hP hD hSh hU hS) rfl rfl hl.1 rfl (lv_room (Nat.le_of_ble_eq_true rfl)) d_Cx_feedStep_82 ⟨Nat.le_of_ble_eq_true rfl, Nat.le_of_ble_eq_true rfl⟩) hS (fun _ _ h => h) (fun _ h => h) ?_
    clear hP hD hSh hS he6
    intro x7 u8 t8 H locs ht _ ex7 hB _ _ hS
    obtain ⟨L, hP, hD, hSh⟩ := hB
    rw [ht] at hP
    clear ht
    obtain ⟨zX8, ezX8⟩ : ∃ z : Nat → Nat → Int64, v_Cx_fedBehindV_zX zO zX zA j bk x5 = z := ⟨_, rfl⟩
    rw [ezX8] at hSh
    have ex7 := ex7.symm
    have he9 := zr_R2 hSh
    refine ag_ist hx hb hK hP hD hS 2 0 he9 rfl (k := k) (by omega) (by decide) d_Cx_feedStep_85 (zw_B hSh (upd (zB) k x7)) ?_
    clear hP hD hSh hS he9
    intro H locs L hP hD hSh hS
    obtain ⟨zB10, ezB10⟩ : ∃ z : Nat → Int32, upd (zB) k x7 = z := ⟨_, rfl⟩
    rw [ezB10] at hSh
    refine lv_goto (tgt := 112) hx hb d_Cx_feedStep_86 (by decide) ?_
    have gzX : zX8 = v_Cx_feedStep0V_zX zG zO zX zY zA zB j bk k := by subst ezB10 ex7 ezX8 ex5; unfold v_Cx_feedStep0V_zX; rw [if_pos hs3]
    have gzY : zY = v_Cx_feedStep0V_zY zG zO zX zY zA zB j bk k := by subst ezB10 ex7 ezX8 ex5; unfold v_Cx_feedStep0V_zY; rw [if_pos hs3]
    have gzB : zB10 = v_Cx_feedStep0V_zB zG zO zX zY zA zB j bk k := by subst ezB10 ex7 ezX8 ex5; unfold v_Cx_feedStep0V_zB; rw [if_pos hs3]
    have hSh : az_Sh g ad zG zO (v_Cx_feedStep0V_zX zG zO zX zY zA zB j bk k) (v_Cx_feedStep0V_zY zG zO zX zY zA zB j bk k) zA (v_Cx_feedStep0V_zB zG zO zX zY zA zB j bk k) zM zI zL zK zN zF zQ L := by rw [← gzX, ← gzY, ← gzB]; exact hSh
    exact W.vret hx hb hr (fun t ht hW => ⟨⟨(), rfl, trivial, ag_Hr ht hP hD hSh⟩, hS.F ht⟩) hS.2.2 d_Cx_feedStep_112
  · refine aw_ti (y := nI 3) (by rw [hs3]) ?_
    refine lv_tableIn (tgt := 89) (off := 85) hx hb d_Cx_feedStep_4 (by decide +kernel) (by decide +kernel) (by decide +kernel) (by decide) ?_
    refine lv_aload_n hx hb d_Cx_feedStep_89 rfl (lv_at hl 2 rfl) ?_
    refine lv_iload_n hx hb d_Cx_feedStep_90 rfl (lv_at hl 3 rfl) ?_
    refine lv_dup2_11 hx hb d_Cx_feedStep_91 rfl rfl ?_
    have he11 := zr_R2 hSh
    refine aw_ild hx hb hK hP 2 0 he11 rfl (k := k) (by omega) (by decide) d_Cx_feedStep_92 ?_
    clear he11
    refine ag_topi (fun x12 ex12 => ?_)
    refine lv_aload_n hx hb d_Cx_feedStep_93 rfl (lv_at hl 0 rfl) ?_
    obtain ⟨_, he13⟩ := zr_C0 hSh hj
    refine va_calli (va_runV (As := []) (rest := [.int x12, .int (nI k), .ref (aw_r ad 2)]) ⟨hx, hb, hml, hown, hG⟩ (k_Cx_nextOfOwnStreamV l D g ad N0 zG zO zX zY zA zB zM zI zL zK zN zF zQ j hj) (aw_wV 0 hG gw_8_20 gw_8_18 gw_0_2 gw_8_19 gw_p_6 rfl rfl hd_Cx_nextOfOwnStream ⟨Nat.le_of_ble_eq_true rfl, Nat.le_of_ble_eq_true rfl⟩) (ag_qV (va_recv hK hP rfl he13) hP hD hSh hU hS) rfl rfl hl.1 rfl (lv_room (Nat.le_of_ble_eq_true rfl)) d_Cx_feedStep_94 ⟨Nat.le_of_ble_eq_true rfl, Nat.le_of_ble_eq_true rfl⟩) hS (fun _ _ h => h) (fun _ h => h) ?_
    clear hP hD hSh hS he13
    intro x14 u8 t8 H locs ht _ ex14 hB _ _ hS
    obtain ⟨L, hP, hD, hSh⟩ := hB
    rw [ht] at hP
    clear ht
    obtain ⟨zX15, ezX15⟩ : ∃ z : Nat → Nat → Int64, v_Cx_nextOfOwnStreamV_zX zO zX zY zA j = z := ⟨_, rfl⟩
    rw [ezX15] at hSh
    obtain ⟨zY16, ezY16⟩ : ∃ z : Nat → Nat → Int32, v_Cx_nextOfOwnStreamV_zY zO zX zY zA j = z := ⟨_, rfl⟩
    rw [ezY16] at hSh
    have ex14 := ex14.symm
    refine lv_ixor hx hb d_Cx_feedStep_97 ?_
    refine ag_topi (fun x17 ex17 => ?_)
    have he18 := zr_R2 hSh
    refine ag_ist hx hb hK hP hD hS 2 0 he18 rfl (k := k) (by omega) (by decide) d_Cx_feedStep_98 (zw_B hSh (upd (zB) k x17)) ?_
    clear hP hD hSh hS he18
    intro H locs L hP hD hSh hS
    obtain ⟨zB19, ezB19⟩ : ∃ z : Nat → Int32, upd (zB) k x17 = z := ⟨_, rfl⟩
    rw [ezB19] at hSh
    refine lv_goto (tgt := 112) hx hb d_Cx_feedStep_99 (by decide) ?_
    have gzX : zX15 = v_Cx_feedStep0V_zX zG zO zX zY zA zB j bk k := by subst ezB19 ex17 ex14 ezY16 ezX15 ex12; unfold v_Cx_feedStep0V_zX; rw [if_neg (by omega), if_pos hs3]
    have gzY : zY16 = v_Cx_feedStep0V_zY zG zO zX zY zA zB j bk k := by subst ezB19 ex17 ex14 ezY16 ezX15 ex12; unfold v_Cx_feedStep0V_zY; rw [if_neg (by omega), if_pos hs3]
    have gzB : zB19 = v_Cx_feedStep0V_zB zG zO zX zY zA zB j bk k := by subst ezB19 ex17 ex14 ezY16 ezX15 ex12; unfold v_Cx_feedStep0V_zB; rw [if_neg (by omega), if_pos hs3]
    have hSh : az_Sh g ad zG zO (v_Cx_feedStep0V_zX zG zO zX zY zA zB j bk k) (v_Cx_feedStep0V_zY zG zO zX zY zA zB j bk k) zA (v_Cx_feedStep0V_zB zG zO zX zY zA zB j bk k) zM zI zL zK zN zF zQ L := by rw [← gzX, ← gzY, ← gzB]; exact hSh
    exact W.vret hx hb hr (fun t ht hW => ⟨⟨(), rfl, trivial, ag_Hr ht hP hD hSh⟩, hS.F ht⟩) hS.2.2 d_Cx_feedStep_112
  · refine aw_ti (y := nI 4) (by rw [hs3]) ?_
    refine lv_tableOut (tgt := 102) hx hb d_Cx_feedStep_4 (by decide +kernel) (by decide) ?_
    refine lv_aload_n hx hb d_Cx_feedStep_102 rfl (lv_at hl 2 rfl) ?_
    refine lv_iload_n hx hb d_Cx_feedStep_103 rfl (lv_at hl 3 rfl) ?_
    refine lv_dup2_11 hx hb d_Cx_feedStep_104 rfl rfl ?_
    have he20 := zr_R2 hSh
    refine aw_ild hx hb hK hP 2 0 he20 rfl (k := k) (by omega) (by decide) d_Cx_feedStep_105 ?_
    clear he20
    refine ag_topi (fun x21 ex21 => ?_)
    refine lv_aload_n hx hb d_Cx_feedStep_106 rfl (lv_at hl 0 rfl) ?_
    obtain ⟨_, he22⟩ := zr_C0 hSh hj
    refine va_calli (va_runV (As := []) (rest := [.int x21, .int (nI k), .ref (aw_r ad 2)]) ⟨hx, hb, hml, hown, hG⟩ (k_Cx_nextOfCountedStreamV l D g ad N0 zG zO zX zY zA zB zM zI zL zK zN zF zQ j hj) (aw_wV 0 hG gw_8_23 gw_8_21 gw_0_2 gw_8_22 gw_p_7 rfl rfl hd_Cx_nextOfCountedStream ⟨Nat.le_of_ble_eq_true rfl, Nat.le_of_ble_eq_true rfl⟩) (ag_qV (va_recv hK hP rfl he22) hP hD hSh hU hS) rfl rfl hl.1 rfl (lv_room (Nat.le_of_ble_eq_true rfl)) d_Cx_feedStep_107 ⟨Nat.le_of_ble_eq_true rfl, Nat.le_of_ble_eq_true rfl⟩) hS (fun _ _ h => h) (fun _ h => h) ?_
    clear hP hD hSh hS he22
    intro x23 u8 t8 H locs ht _ ex23 hB _ _ hS
    obtain ⟨L, hP, hD, hSh⟩ := hB
    rw [ht] at hP
    clear ht
    obtain ⟨zX24, ezX24⟩ : ∃ z : Nat → Nat → Int64, v_Cx_nextOfCountedStreamV_zX zO zX zY zA j = z := ⟨_, rfl⟩
    rw [ezX24] at hSh
    obtain ⟨zY25, ezY25⟩ : ∃ z : Nat → Nat → Int32, v_Cx_nextOfCountedStreamV_zY zO zX zY zA j = z := ⟨_, rfl⟩
    rw [ezY25] at hSh
    have ex23 := ex23.symm
    refine lv_ixor hx hb d_Cx_feedStep_110 ?_
    refine ag_topi (fun x26 ex26 => ?_)
    have he27 := zr_R2 hSh
    refine ag_ist hx hb hK hP hD hS 2 0 he27 rfl (k := k) (by omega) (by decide) d_Cx_feedStep_111 (zw_B hSh (upd (zB) k x26)) ?_
    clear hP hD hSh hS he27
    intro H locs L hP hD hSh hS
    obtain ⟨zB28, ezB28⟩ : ∃ z : Nat → Int32, upd (zB) k x26 = z := ⟨_, rfl⟩
    rw [ezB28] at hSh
    have gzX : zX24 = v_Cx_feedStep0V_zX zG zO zX zY zA zB j bk k := by subst ezB28 ex26 ex23 ezY25 ezX24 ex21; unfold v_Cx_feedStep0V_zX; rw [if_neg (by omega), if_neg (by omega), if_pos hs3]
    have gzY : zY25 = v_Cx_feedStep0V_zY zG zO zX zY zA zB j bk k := by subst ezB28 ex26 ex23 ezY25 ezX24 ex21; unfold v_Cx_feedStep0V_zY; rw [if_neg (by omega), if_neg (by omega), if_pos hs3]
    have gzB : zB28 = v_Cx_feedStep0V_zB zG zO zX zY zA zB j bk k := by subst ezB28 ex26 ex23 ezY25 ezX24 ex21; unfold v_Cx_feedStep0V_zB; rw [if_neg (by omega), if_neg (by omega), if_pos hs3]
    have hSh : az_Sh g ad zG zO (v_Cx_feedStep0V_zX zG zO zX zY zA zB j bk k) (v_Cx_feedStep0V_zY zG zO zX zY zA zB j bk k) zA (v_Cx_feedStep0V_zB zG zO zX zY zA zB j bk k) zM zI zL zK zN zF zQ L := by rw [← gzX, ← gzY, ← gzB]; exact hSh
    exact W.vret hx hb hr (fun t ht hW => ⟨⟨(), rfl, trivial, ag_Hr ht hP hD hSh⟩, hS.F ht⟩) hS.2.2 d_Cx_feedStep_112
  · refine aw_ti (y := nI 5) (by rw [hs3]) ?_
    refine lv_tableOut (tgt := 102) hx hb d_Cx_feedStep_4 (by decide +kernel) (by decide) ?_
    refine lv_aload_n hx hb d_Cx_feedStep_102 rfl (lv_at hl 2 rfl) ?_
    refine lv_iload_n hx hb d_Cx_feedStep_103 rfl (lv_at hl 3 rfl) ?_
    refine lv_dup2_11 hx hb d_Cx_feedStep_104 rfl rfl ?_
    have he29 := zr_R2 hSh
    refine aw_ild hx hb hK hP 2 0 he29 rfl (k := k) (by omega) (by decide) d_Cx_feedStep_105 ?_
    clear he29
    refine ag_topi (fun x30 ex30 => ?_)
    refine lv_aload_n hx hb d_Cx_feedStep_106 rfl (lv_at hl 0 rfl) ?_
    obtain ⟨_, he31⟩ := zr_C0 hSh hj
    refine va_calli (va_runV (As := []) (rest := [.int x30, .int (nI k), .ref (aw_r ad 2)]) ⟨hx, hb, hml, hown, hG⟩ (k_Cx_nextOfCountedStreamV l D g ad N0 zG zO zX zY zA zB zM zI zL zK zN zF zQ j hj) (aw_wV 0 hG gw_8_23 gw_8_21 gw_0_2 gw_8_22 gw_p_7 rfl rfl hd_Cx_nextOfCountedStream ⟨Nat.le_of_ble_eq_true rfl, Nat.le_of_ble_eq_true rfl⟩) (ag_qV (va_recv hK hP rfl he31) hP hD hSh hU hS) rfl rfl hl.1 rfl (lv_room (Nat.le_of_ble_eq_true rfl)) d_Cx_feedStep_107 ⟨Nat.le_of_ble_eq_true rfl, Nat.le_of_ble_eq_true rfl⟩) hS (fun _ _ h => h) (fun _ h => h) ?_
    clear hP hD hSh hS he31
    intro x32 u8 t8 H locs ht _ ex32 hB _ _ hS
    obtain ⟨L, hP, hD, hSh⟩ := hB
    rw [ht] at hP
    clear ht
    obtain ⟨zX33, ezX33⟩ : ∃ z : Nat → Nat → Int64, v_Cx_nextOfCountedStreamV_zX zO zX zY zA j = z := ⟨_, rfl⟩
    rw [ezX33] at hSh
    obtain ⟨zY34, ezY34⟩ : ∃ z : Nat → Nat → Int32, v_Cx_nextOfCountedStreamV_zY zO zX zY zA j = z := ⟨_, rfl⟩
    rw [ezY34] at hSh
    have ex32 := ex32.symm
    refine lv_ixor hx hb d_Cx_feedStep_110 ?_
    refine ag_topi (fun x35 ex35 => ?_)
    have he36 := zr_R2 hSh
    refine ag_ist hx hb hK hP hD hS 2 0 he36 rfl (k := k) (by omega) (by decide) d_Cx_feedStep_111 (zw_B hSh (upd (zB) k x35)) ?_
    clear hP hD hSh hS he36
    intro H locs L hP hD hSh hS
    obtain ⟨zB37, ezB37⟩ : ∃ z : Nat → Int32, upd (zB) k x35 = z := ⟨_, rfl⟩
    rw [ezB37] at hSh
    have gzX : zX33 = v_Cx_feedStep0V_zX zG zO zX zY zA zB j bk k := by subst ezB37 ex35 ex32 ezY34 ezX33 ex30; unfold v_Cx_feedStep0V_zX; rw [if_neg (by omega), if_neg (by omega), if_neg (by omega)]
    have gzY : zY34 = v_Cx_feedStep0V_zY zG zO zX zY zA zB j bk k := by subst ezB37 ex35 ex32 ezY34 ezX33 ex30; unfold v_Cx_feedStep0V_zY; rw [if_neg (by omega), if_neg (by omega), if_neg (by omega)]
    have gzB : zB37 = v_Cx_feedStep0V_zB zG zO zX zY zA zB j bk k := by subst ezB37 ex35 ex32 ezY34 ezX33 ex30; unfold v_Cx_feedStep0V_zB; rw [if_neg (by omega), if_neg (by omega), if_neg (by omega)]
    have hSh : az_Sh g ad zG zO (v_Cx_feedStep0V_zX zG zO zX zY zA zB j bk k) (v_Cx_feedStep0V_zY zG zO zX zY zA zB j bk k) zA (v_Cx_feedStep0V_zB zG zO zX zY zA zB j bk k) zM zI zL zK zN zF zQ L := by rw [← gzX, ← gzY, ← gzB]; exact hSh
    exact W.vret hx hb hr (fun t ht hW => ⟨⟨(), rfl, trivial, ag_Hr ht hP hD hSh⟩, hS.F ht⟩) hS.2.2 d_Cx_feedStep_112
