noncomputable def v_La_choose1V_zG (zG : Nat → Nat × Nat) (zO : Nat → Nat) (j : Nat) (k : Nat) : Nat → Nat × Nat := v_Ru_choose1V_zG zG zO j k
noncomputable def v_La_choose1V_zO (zG : Nat → Nat × Nat) (zO : Nat → Nat) (j : Nat) (k : Nat) : Nat → Nat := v_Ru_choose1V_zO zG zO j k
abbrev ws_La_choose1V : List Cond := Cond.codeWith y_La_choose b_La_choose 4 (some .int) [((0 : Nat), (6 : Nat), (9 : Nat), (13 : Nat)), ((0 : Nat), (6 : Nat), (12 : Nat), (15 : Nat)), ((0 : Nat), (6 : Nat), (15 : Nat), (17 : Nat))] :: aw_G
abbrev rm_La_choose1V : Room := { frames := 2, cells := 1, slots := 6, locals := 44 }
set_option maxHeartbeats 4000000 in
set_option maxRecDepth 100000 in
theorem k_La_choose1V (l : Launch) (hst : l.stackTraces = false) (D : va_G) (g : Nat → ClassId) (ad : Nat → Nat) (N0 : Nat) (zG : Nat → Nat × Nat) (zO : Nat → Nat) (zX : Nat → Nat → Int64) (zY : Nat → Nat → Int32) (zA : Nat → Nat → Nat → Int32) (zB : Nat → Int32) (zM : Nat → Nat × Nat) (zI : Nat → Nat → Int32) (zL : Nat → Nat → Int64) (zK : Int32) (zN : Nat) (zF : Int32) (zQ : Int64) (j : Nat) (k : Nat) (hj : j < 4) (hk : k < 5) (hs : (zG j).1 = 0) : Met l y_La_choose ws_La_choose1V rm_La_choose1V (va_Pc ([.ref (aw_r ad 0), .int (nI j), .int (nI k)] : List Value) (ag_B D g N0 (az_Sh g ad zG zO zX zY zA zB zM zI zL zK zN zF zQ))) (va_Qi (fun r (_ : Unit) => r = nI 0) (fun (_ : Unit) t => ag_H D N0 (az_Sh g ad (v_La_choose1V_zG zG zO j k) (v_La_choose1V_zO zG zO j k) zX zY zA zB zM zI zL zK zN zF zQ) t.heap) (aw_Z N0)) 1 6 (aw_Z N0) := by
  refine va_MetW (cc := b_La_choose) (maxL := 4) (ret := (some .int)) (hh := [((0 : Nat), (6 : Nat), (9 : Nat), (13 : Nat)), ((0 : Nat), (6 : Nat), (12 : Nat), (15 : Nat)), ((0 : Nat), (6 : Nat), (15 : Nat), (17 : Nat))]) (by decide) rfl ?_
  intro p e s m args below meth c s₁ B hml hv
  obtain ⟨rfl, ⟨L, hP, hD, hSh⟩, hU⟩ := hv
  have hx := B.exec
  have hb := B.bytes
  have hr := B.returns
  have hG : ∀ w ∈ aw_G, w.before _ s = true := fun w h => atoms_spec (ws := ws_La_choose1V) B.pre w (List.mem_cons_of_mem _ h)
  have htab : c.exceptionTable.toList = tableOf [((0 : Nat), (6 : Nat), (9 : Nat), (13 : Nat)), ((0 : Nat), (6 : Nat), (12 : Nat), (15 : Nat)), ((0 : Nat), (6 : Nat), (15 : Nat), (17 : Nat))] := vx_table (x := y_La_choose) B (atoms_spec (ws := ws_La_choose1V) B.pre _ List.mem_cons_self)
  have hown : s.vm.findClass "RuleCiphersLaw" = some m.cls := findClass_of_methodNamed B.named
  have hlocks := B.notSynchronized
  have hE := hU.1
  have hK := hE.1
  have hN := hE.2.1
  have hS : va_S (aw_Z N0) s.heap s.heap [] := va_S.rf
  have hl := lv_entry ([.ref (aw_r ad 0), .int (nI j), .int (nI k)] : List Value) (n := 4) (Nat.le_of_ble_eq_true rfl)
  rw [lg_entry_eq]
  generalize (lg_sl ([.ref (aw_r ad 0), .int (nI j), .int (nI k)] : List Value) ++ List.replicate (4 - (lg_sl ([.ref (aw_r ad 0), .int (nI j), .int (nI k)] : List Value)).length) Slot.unset).toArray = ls at hl ⊢
  have hl : lv_has ls 4 [(0, .ref (aw_r ad 0)), (1, .int (nI j)), (2, .int (nI k))] := hl
  refine lv_aload_n hx hb d_La_choose_0 rfl (lv_at hl 0 rfl) ?_
  refine lv_iload_n hx hb d_La_choose_1 rfl (lv_at hl 1 rfl) ?_
  refine lv_iload_n hx hb d_La_choose_2 rfl (lv_at hl 2 rfl) ?_
  have he1 := zr_R0 hSh
  refine va_callv (va_runV (As := [.int (nI j), .int (nI k)]) (rest := []) ⟨hx, hb, hml, hown, hG⟩ (k_Ru_choose1V l D g ad N0 zG zO zX zY zA zB zM zI zL zK zN zF zQ j k hj hk hs) (aw_wV 2 hG gw_2_44 gw_2_41 gw_0_1 gw_2_42 gw_2_43 rfl rfl hd_Ru_choose ⟨Nat.le_of_ble_eq_true rfl, Nat.le_of_ble_eq_true rfl⟩) (ag_qV (va_recv hK hP rfl he1) hP hD hSh hU hS) rfl rfl hl.1 rfl (lv_room (Nat.le_of_ble_eq_true rfl)) d_La_choose_3 ⟨Nat.le_of_ble_eq_true rfl, Nat.le_of_ble_eq_true rfl⟩) hS (fun _ _ h => h) (fun _ h => h) ?_
  clear hP hD hSh hS he1
  intro u8 t8 H locs ht _ _ hB _ _ hS
  obtain ⟨L, hP, hD, hSh⟩ := hB
  rw [ht] at hP
  clear ht
  obtain ⟨zG2, ezG2⟩ : ∃ z : Nat → Nat × Nat, v_Ru_choose1V_zG zG zO j k = z := ⟨_, rfl⟩
  rw [ezG2] at hSh
  obtain ⟨zO3, ezO3⟩ : ∃ z : Nat → Nat, v_Ru_choose1V_zO zG zO j k = z := ⟨_, rfl⟩
  rw [ezO3] at hSh
  refine lv_goto (tgt := 18) hx hb d_La_choose_6 (by decide) ?_
  refine lv_iconst (v := nI 0) hx hb d_La_choose_18 (by decide +kernel) ?_
  refine W.widen (k := 1) (n := 6) (Nat.le_of_ble_eq_true rfl) (Nat.le_of_ble_eq_true rfl) ?_
  have gzG : zG2 = v_La_choose1V_zG zG zO j k := by subst ezO3 ezG2; rfl
  have gzO : zO3 = v_La_choose1V_zO zG zO j k := by subst ezO3 ezG2; rfl
  have hSh : az_Sh g ad (v_La_choose1V_zG zG zO j k) (v_La_choose1V_zO zG zO j k) zX zY zA zB zM zI zL zK zN zF zQ L := by rw [← gzG, ← gzO]; exact hSh
  exact W.iret hx hb hr (fun t ht hW => ⟨⟨_, (), rfl, rfl, ag_Hr ht hP hD hSh⟩, hS.F ht⟩) hS.2.2 d_La_choose_19
abbrev ws_La_chooseXcV : List Cond := Cond.codeWith y_La_choose b_La_choose 4 (some .int) [((0 : Nat), (6 : Nat), (9 : Nat), (13 : Nat)), ((0 : Nat), (6 : Nat), (12 : Nat), (15 : Nat)), ((0 : Nat), (6 : Nat), (15 : Nat), (17 : Nat))] :: aw_G
abbrev rm_La_chooseXcV : Room := { frames := 8, cells := 1, slots := 6, locals := 134 }
set_option maxHeartbeats 4000000 in
set_option maxRecDepth 100000 in
theorem k_La_chooseXcV (l : Launch) (hst : l.stackTraces = false) (D : va_G) (g : Nat → ClassId) (ad : Nat → Nat) (N0 : Nat) (zG : Nat → Nat × Nat) (zO : Nat → Nat) (zX : Nat → Nat → Int64) (zY : Nat → Nat → Int32) (zA : Nat → Nat → Nat → Int32) (zB : Nat → Int32) (zM : Nat → Nat × Nat) (zI : Nat → Nat → Int32) (zL : Nat → Nat → Int64) (zK : Int32) (zN : Nat) (zF : Int32) (zQ : Int64) (c0 : Int32) (k0 : Int32) (hc : c0 < 0 ∨ (¬ c0 < 0 ∧ ¬ c0 < nI 4)) : Met l y_La_choose ws_La_chooseXcV rm_La_chooseXcV (va_Pc ([.ref (aw_r ad 0), .int c0, .int k0] : List Value) (ag_B D g N0 (az_Sh g ad zG zO zX zY zA zB zM zI zL zK zN zF zQ))) (va_Qi (fun r (_ : Unit) => r = nI 1) (fun (_ : Unit) t => ag_H D N0 (az_Sh g ad zG zO zX zY zA zB zM zI zL zK zN zF zQ) t.heap) (aw_Z N0)) 1 6 (aw_Z N0) := by
  refine va_MetW (cc := b_La_choose) (maxL := 4) (ret := (some .int)) (hh := [((0 : Nat), (6 : Nat), (9 : Nat), (13 : Nat)), ((0 : Nat), (6 : Nat), (12 : Nat), (15 : Nat)), ((0 : Nat), (6 : Nat), (15 : Nat), (17 : Nat))]) (by decide) rfl ?_
  intro p e s m args below meth c s₁ B hml hv
  obtain ⟨rfl, ⟨L, hP, hD, hSh⟩, hU⟩ := hv
  have hx := B.exec
  have hb := B.bytes
  have hr := B.returns
  have hG : ∀ w ∈ aw_G, w.before _ s = true := fun w h => atoms_spec (ws := ws_La_chooseXcV) B.pre w (List.mem_cons_of_mem _ h)
  have htab : c.exceptionTable.toList = tableOf [((0 : Nat), (6 : Nat), (9 : Nat), (13 : Nat)), ((0 : Nat), (6 : Nat), (12 : Nat), (15 : Nat)), ((0 : Nat), (6 : Nat), (15 : Nat), (17 : Nat))] := vx_table (x := y_La_choose) B (atoms_spec (ws := ws_La_chooseXcV) B.pre _ List.mem_cons_self)
  have hown : s.vm.findClass "RuleCiphersLaw" = some m.cls := findClass_of_methodNamed B.named
  have hlocks := B.notSynchronized
  have hE := hU.1
  have hK := hE.1
  have hN := hE.2.1
  have hS : va_S (aw_Z N0) s.heap s.heap [] := va_S.rf
  have hl := lv_entry ([.ref (aw_r ad 0), .int c0, .int k0] : List Value) (n := 4) (Nat.le_of_ble_eq_true rfl)
  rw [lg_entry_eq]
  generalize (lg_sl ([.ref (aw_r ad 0), .int c0, .int k0] : List Value) ++ List.replicate (4 - (lg_sl ([.ref (aw_r ad 0), .int c0, .int k0] : List Value)).length) Slot.unset).toArray = ls at hl ⊢
  have hl : lv_has ls 4 [(0, .ref (aw_r ad 0)), (1, .int c0), (2, .int k0)] := hl
  refine lv_aload_n hx hb d_La_choose_0 rfl (lv_at hl 0 rfl) ?_
  refine lv_iload_n hx hb d_La_choose_1 rfl (lv_at hl 1 rfl) ?_
  refine lv_iload_n hx hb d_La_choose_2 rfl (lv_at hl 2 rfl) ?_
  have he1 := zr_R0 hSh
  refine vx_callv (vx_runV (As := [.int c0, .int k0]) (rest := []) ⟨hx, hb, hml, hown, hG⟩ (k_Ru_chooseXcV l hst D g ad N0 zG zO zX zY zA zB zM zI zL zK zN zF zQ c0 k0 hc) (aw_wV 2 hG gw_2_44 gw_2_41 gw_0_1 gw_2_42 gw_2_43 rfl rfl hd_Ru_choose ⟨Nat.le_of_ble_eq_true rfl, Nat.le_of_ble_eq_true rfl⟩) (ag_qV (va_recv hK hP rfl he1) hP hD hSh hU hS) rfl rfl hl.1 rfl (lv_room (Nat.le_of_ble_eq_true rfl)) d_La_choose_3 ⟨Nat.le_of_ble_eq_true rfl, Nat.le_of_ble_eq_true rfl⟩) hS (fun _ _ h => h) (fun _ h => h) (fun _ _ h => h) (fun E ce q9 u t H locs ht _ _ hBX _ _ hS hce hcv hcl => ?_) (fun u t H locs _ _ hF _ _ _ _ => hF.elim)
  obtain ⟨rfl, L, hP, hD, hSh⟩ := hBX
  rw [ht] at hP
  refine vx_catch hown [] ⟨0, 6, 9, 13⟩ [⟨0, 6, 12, 15⟩, ⟨0, 6, 15, 17⟩] htab aw_ps0 (by decide) (by decide) (hG _ gw_2_38) (va_Nw.use rfl (hN _ nw_2)) hce hcv hcl ?_
  refine W.eq (g2 := F0 m 9 ls [.ref q9]) rfl ?_
  refine lv_astore_n hx hb d_La_choose_9 rfl hl (by decide) rfl (fun ls hl => ?_)
  have hl : lv_has ls 4 [(3, .ref q9), (0, .ref (aw_r ad 0)), (1, .int c0), (2, .int k0)] := hl
  refine lv_iconst (v := nI 1) hx hb d_La_choose_10 (by decide +kernel) ?_
  exact W.iret hx hb hr (fun t ht hW => ⟨⟨_, (), rfl, rfl, ag_Hr ht hP hD hSh⟩, hS.F ht⟩) hS.2.2 d_La_choose_11
abbrev ws_La_chooseXaV : List Cond := Cond.codeWith y_La_choose b_La_choose 4 (some .int) [((0 : Nat), (6 : Nat), (9 : Nat), (13 : Nat)), ((0 : Nat), (6 : Nat), (12 : Nat), (15 : Nat)), ((0 : Nat), (6 : Nat), (15 : Nat), (17 : Nat))] :: aw_G
abbrev rm_La_chooseXaV : Room := { frames := 7, cells := 1, slots := 6, locals := 113 }
set_option maxHeartbeats 4000000 in
set_option maxRecDepth 100000 in
theorem k_La_chooseXaV (l : Launch) (hst : l.stackTraces = false) (D : va_G) (g : Nat → ClassId) (ad : Nat → Nat) (N0 : Nat) (zG : Nat → Nat × Nat) (zO : Nat → Nat) (zX : Nat → Nat → Int64) (zY : Nat → Nat → Int32) (zA : Nat → Nat → Nat → Int32) (zB : Nat → Int32) (zM : Nat → Nat × Nat) (zI : Nat → Nat → Int32) (zL : Nat → Nat → Int64) (zK : Int32) (zN : Nat) (zF : Int32) (zQ : Int64) (j : Nat) (k0 : Int32) (hj : j < 4) (hk : k0 < 0 ∨ (¬ k0 < 0 ∧ ¬ k0 < nI 5)) : Met l y_La_choose ws_La_chooseXaV rm_La_chooseXaV (va_Pc ([.ref (aw_r ad 0), .int (nI j), .int k0] : List Value) (ag_B D g N0 (az_Sh g ad zG zO zX zY zA zB zM zI zL zK zN zF zQ))) (va_Qi (fun r (_ : Unit) => r = nI 2) (fun (_ : Unit) t => ag_H D N0 (az_Sh g ad zG zO zX zY zA zB zM zI zL zK zN zF zQ) t.heap) (aw_Z N0)) 1 6 (aw_Z N0) := by
  refine va_MetW (cc := b_La_choose) (maxL := 4) (ret := (some .int)) (hh := [((0 : Nat), (6 : Nat), (9 : Nat), (13 : Nat)), ((0 : Nat), (6 : Nat), (12 : Nat), (15 : Nat)), ((0 : Nat), (6 : Nat), (15 : Nat), (17 : Nat))]) (by decide) rfl ?_
  intro p e s m args below meth c s₁ B hml hv
  obtain ⟨rfl, ⟨L, hP, hD, hSh⟩, hU⟩ := hv
  have hx := B.exec
  have hb := B.bytes
  have hr := B.returns
  have hG : ∀ w ∈ aw_G, w.before _ s = true := fun w h => atoms_spec (ws := ws_La_chooseXaV) B.pre w (List.mem_cons_of_mem _ h)
  have htab : c.exceptionTable.toList = tableOf [((0 : Nat), (6 : Nat), (9 : Nat), (13 : Nat)), ((0 : Nat), (6 : Nat), (12 : Nat), (15 : Nat)), ((0 : Nat), (6 : Nat), (15 : Nat), (17 : Nat))] := vx_table (x := y_La_choose) B (atoms_spec (ws := ws_La_chooseXaV) B.pre _ List.mem_cons_self)
  have hown : s.vm.findClass "RuleCiphersLaw" = some m.cls := findClass_of_methodNamed B.named
  have hlocks := B.notSynchronized
  have hE := hU.1
  have hK := hE.1
  have hN := hE.2.1
  have hS : va_S (aw_Z N0) s.heap s.heap [] := va_S.rf
  have hl := lv_entry ([.ref (aw_r ad 0), .int (nI j), .int k0] : List Value) (n := 4) (Nat.le_of_ble_eq_true rfl)
  rw [lg_entry_eq]
  generalize (lg_sl ([.ref (aw_r ad 0), .int (nI j), .int k0] : List Value) ++ List.replicate (4 - (lg_sl ([.ref (aw_r ad 0), .int (nI j), .int k0] : List Value)).length) Slot.unset).toArray = ls at hl ⊢
  have hl : lv_has ls 4 [(0, .ref (aw_r ad 0)), (1, .int (nI j)), (2, .int k0)] := hl
  refine lv_aload_n hx hb d_La_choose_0 rfl (lv_at hl 0 rfl) ?_
  refine lv_iload_n hx hb d_La_choose_1 rfl (lv_at hl 1 rfl) ?_
  refine lv_iload_n hx hb d_La_choose_2 rfl (lv_at hl 2 rfl) ?_
  have he1 := zr_R0 hSh
  refine vx_callv (vx_runV (As := [.int (nI j), .int k0]) (rest := []) ⟨hx, hb, hml, hown, hG⟩ (k_Ru_chooseXaV l hst D g ad N0 zG zO zX zY zA zB zM zI zL zK zN zF zQ j k0 hj hk) (aw_wV 2 hG gw_2_44 gw_2_41 gw_0_1 gw_2_42 gw_2_43 rfl rfl hd_Ru_choose ⟨Nat.le_of_ble_eq_true rfl, Nat.le_of_ble_eq_true rfl⟩) (ag_qV (va_recv hK hP rfl he1) hP hD hSh hU hS) rfl rfl hl.1 rfl (lv_room (Nat.le_of_ble_eq_true rfl)) d_La_choose_3 ⟨Nat.le_of_ble_eq_true rfl, Nat.le_of_ble_eq_true rfl⟩) hS (fun _ _ h => h) (fun _ h => h) (fun _ _ h => h) (fun E ce q9 u t H locs ht _ _ hBX _ _ hS hce hcv hcl => ?_) (fun u t H locs _ _ hF _ _ _ _ => hF.elim)
  obtain ⟨rfl, L, hP, hD, hSh⟩ := hBX
  rw [ht] at hP
  refine vx_catch hown [⟨0, 6, 9, 13⟩] ⟨0, 6, 12, 15⟩ [⟨0, 6, 15, 17⟩] htab (aw_psc (Or.inr ⟨by decide, "java/lang/IndexOutOfBoundsException", hG _ gw_2_38, aw_nc_A_I hE⟩) aw_ps0) (by decide) (by decide) (hG _ gw_2_39) (va_Nw.use rfl (hN _ nw_9)) hce hcv hcl ?_
  refine W.eq (g2 := F0 m 12 ls [.ref q9]) rfl ?_
  refine lv_astore_n hx hb d_La_choose_12 rfl hl (by decide) rfl (fun ls hl => ?_)
  have hl : lv_has ls 4 [(3, .ref q9), (0, .ref (aw_r ad 0)), (1, .int (nI j)), (2, .int k0)] := hl
  refine lv_iconst (v := nI 2) hx hb d_La_choose_13 (by decide +kernel) ?_
  exact W.iret hx hb hr (fun t ht hW => ⟨⟨_, (), rfl, rfl, ag_Hr ht hP hD hSh⟩, hS.F ht⟩) hS.2.2 d_La_choose_14
abbrev ws_La_chooseXsV : List Cond := Cond.codeWith y_La_choose b_La_choose 4 (some .int) [((0 : Nat), (6 : Nat), (9 : Nat), (13 : Nat)), ((0 : Nat), (6 : Nat), (12 : Nat), (15 : Nat)), ((0 : Nat), (6 : Nat), (15 : Nat), (17 : Nat))] :: aw_G
abbrev rm_La_chooseXsV : Room := { frames := 7, cells := 1, slots := 6, locals := 113 }
set_option maxHeartbeats 4000000 in
set_option maxRecDepth 100000 in
theorem k_La_chooseXsV (l : Launch) (hst : l.stackTraces = false) (D : va_G) (g : Nat → ClassId) (ad : Nat → Nat) (N0 : Nat) (zG : Nat → Nat × Nat) (zO : Nat → Nat) (zX : Nat → Nat → Int64) (zY : Nat → Nat → Int32) (zA : Nat → Nat → Nat → Int32) (zB : Nat → Int32) (zM : Nat → Nat × Nat) (zI : Nat → Nat → Int32) (zL : Nat → Nat → Int64) (zK : Int32) (zN : Nat) (zF : Int32) (zQ : Int64) (j : Nat) (k : Nat) (hj : j < 4) (hk : k < 5) (hs : 1 ≤ (zG j).1) : Met l y_La_choose ws_La_chooseXsV rm_La_chooseXsV (va_Pc ([.ref (aw_r ad 0), .int (nI j), .int (nI k)] : List Value) (ag_B D g N0 (az_Sh g ad zG zO zX zY zA zB zM zI zL zK zN zF zQ))) (va_Qi (fun r (_ : Unit) => r = nI 3) (fun (_ : Unit) t => ag_H D N0 (az_Sh g ad zG zO zX zY zA zB zM zI zL zK zN zF zQ) t.heap) (aw_Z N0)) 1 6 (aw_Z N0) := by
  refine va_MetW (cc := b_La_choose) (maxL := 4) (ret := (some .int)) (hh := [((0 : Nat), (6 : Nat), (9 : Nat), (13 : Nat)), ((0 : Nat), (6 : Nat), (12 : Nat), (15 : Nat)), ((0 : Nat), (6 : Nat), (15 : Nat), (17 : Nat))]) (by decide) rfl ?_
  intro p e s m args below meth c s₁ B hml hv
  obtain ⟨rfl, ⟨L, hP, hD, hSh⟩, hU⟩ := hv
  have hx := B.exec
  have hb := B.bytes
  have hr := B.returns
  have hG : ∀ w ∈ aw_G, w.before _ s = true := fun w h => atoms_spec (ws := ws_La_chooseXsV) B.pre w (List.mem_cons_of_mem _ h)
  have htab : c.exceptionTable.toList = tableOf [((0 : Nat), (6 : Nat), (9 : Nat), (13 : Nat)), ((0 : Nat), (6 : Nat), (12 : Nat), (15 : Nat)), ((0 : Nat), (6 : Nat), (15 : Nat), (17 : Nat))] := vx_table (x := y_La_choose) B (atoms_spec (ws := ws_La_chooseXsV) B.pre _ List.mem_cons_self)
  have hown : s.vm.findClass "RuleCiphersLaw" = some m.cls := findClass_of_methodNamed B.named
  have hlocks := B.notSynchronized
  have hE := hU.1
  have hK := hE.1
  have hN := hE.2.1
  have hS : va_S (aw_Z N0) s.heap s.heap [] := va_S.rf
  have hl := lv_entry ([.ref (aw_r ad 0), .int (nI j), .int (nI k)] : List Value) (n := 4) (Nat.le_of_ble_eq_true rfl)
  rw [lg_entry_eq]
  generalize (lg_sl ([.ref (aw_r ad 0), .int (nI j), .int (nI k)] : List Value) ++ List.replicate (4 - (lg_sl ([.ref (aw_r ad 0), .int (nI j), .int (nI k)] : List Value)).length) Slot.unset).toArray = ls at hl ⊢
  have hl : lv_has ls 4 [(0, .ref (aw_r ad 0)), (1, .int (nI j)), (2, .int (nI k))] := hl
  refine lv_aload_n hx hb d_La_choose_0 rfl (lv_at hl 0 rfl) ?_
  refine lv_iload_n hx hb d_La_choose_1 rfl (lv_at hl 1 rfl) ?_
  refine lv_iload_n hx hb d_La_choose_2 rfl (lv_at hl 2 rfl) ?_
  have he1 := zr_R0 hSh
  refine vx_callv (vx_runV (As := [.int (nI j), .int (nI k)]) (rest := []) ⟨hx, hb, hml, hown, hG⟩ (k_Ru_chooseXsV l hst D g ad N0 zG zO zX zY zA zB zM zI zL zK zN zF zQ j k hj hk hs) (aw_wV 2 hG gw_2_44 gw_2_41 gw_0_1 gw_2_42 gw_2_43 rfl rfl hd_Ru_choose ⟨Nat.le_of_ble_eq_true rfl, Nat.le_of_ble_eq_true rfl⟩) (ag_qV (va_recv hK hP rfl he1) hP hD hSh hU hS) rfl rfl hl.1 rfl (lv_room (Nat.le_of_ble_eq_true rfl)) d_La_choose_3 ⟨Nat.le_of_ble_eq_true rfl, Nat.le_of_ble_eq_true rfl⟩) hS (fun _ _ h => h) (fun _ h => h) (fun _ _ h => h) (fun E ce q9 u t H locs ht _ _ hBX _ _ hS hce hcv hcl => ?_) (fun u t H locs _ _ hF _ _ _ _ => hF.elim)
  obtain ⟨rfl, L, hP, hD, hSh⟩ := hBX
  rw [ht] at hP
  refine vx_catch hown [⟨0, 6, 9, 13⟩, ⟨0, 6, 12, 15⟩] ⟨0, 6, 15, 17⟩ [] htab (aw_psc (Or.inr ⟨by decide, "java/lang/IndexOutOfBoundsException", hG _ gw_2_38, aw_nc_S_I hE⟩) (aw_psc (Or.inr ⟨by decide, "java/lang/IllegalArgumentException", hG _ gw_2_39, aw_nc_S_A hE⟩) aw_ps0)) (by decide) (by decide) (hG _ gw_2_40) (va_Nw.use rfl (hN _ nw_10)) hce hcv hcl ?_
  refine W.eq (g2 := F0 m 15 ls [.ref q9]) rfl ?_
  refine lv_astore_n hx hb d_La_choose_15 rfl hl (by decide) rfl (fun ls hl => ?_)
  have hl : lv_has ls 4 [(3, .ref q9), (0, .ref (aw_r ad 0)), (1, .int (nI j)), (2, .int (nI k))] := hl
  refine lv_iconst (v := nI 3) hx hb d_La_choose_16 (by decide +kernel) ?_
  exact W.iret hx hb hr (fun t ht hW => ⟨⟨_, (), rfl, rfl, ag_Hr ht hP hD hSh⟩, hS.F ht⟩) hS.2.2 d_La_choose_17
noncomputable def v_La_key1V_zG (zG : Nat → Nat × Nat) (zO : Nat → Nat) (zA : Nat → Nat → Nat → Int32) (j : Nat) (a : Int64) (b : Int64) : Nat → Nat × Nat := v_Ru_key1V_zG zG zO zA j a b
noncomputable def v_La_key1V_zA (zG : Nat → Nat × Nat) (zO : Nat → Nat) (zA : Nat → Nat → Nat → Int32) (j : Nat) (a : Int64) (b : Int64) : Nat → Nat → Nat → Int32 := v_Ru_key1V_zA zG zO zA j a b
abbrev ws_La_key1V : List Cond := Cond.codeWith y_La_key b_La_key 7 (some .int) [((0 : Nat), (8 : Nat), (11 : Nat), (13 : Nat)), ((0 : Nat), (8 : Nat), (15 : Nat), (17 : Nat))] :: aw_G
abbrev rm_La_key1V : Room := { frames := 5, cells := 1, slots := 6, locals := 127 }
set_option maxHeartbeats 4000000 in
set_option maxRecDepth 100000 in
theorem k_La_key1V (l : Launch) (hst : l.stackTraces = false) (D : va_G) (g : Nat → ClassId) (ad : Nat → Nat) (N0 : Nat) (zG : Nat → Nat × Nat) (zO : Nat → Nat) (zX : Nat → Nat → Int64) (zY : Nat → Nat → Int32) (zA : Nat → Nat → Nat → Int32) (zB : Nat → Int32) (zM : Nat → Nat × Nat) (zI : Nat → Nat → Int32) (zL : Nat → Nat → Int64) (zK : Int32) (zN : Nat) (zF : Int32) (zQ : Int64) (j : Nat) (a : Int64) (b : Int64) (hj : j < 4) (hs : 1 ≤ (zG j).1) : Met l y_La_key ws_La_key1V rm_La_key1V (va_Pc ([.ref (aw_r ad 0), .int (nI j), .long a, .long b] : List Value) (ag_B D g N0 (az_Sh g ad zG zO zX zY zA zB zM zI zL zK zN zF zQ))) (va_Qi (fun r (_ : Unit) => r = nI 0) (fun (_ : Unit) t => ag_H D N0 (az_Sh g ad (v_La_key1V_zG zG zO zA j a b) zO zX zY (v_La_key1V_zA zG zO zA j a b) zB zM zI zL zK zN zF zQ) t.heap) (aw_Z N0)) 1 6 (aw_Z N0) := by
  refine va_MetW (cc := b_La_key) (maxL := 7) (ret := (some .int)) (hh := [((0 : Nat), (8 : Nat), (11 : Nat), (13 : Nat)), ((0 : Nat), (8 : Nat), (15 : Nat), (17 : Nat))]) (by decide) rfl ?_
  intro p e s m args below meth c s₁ B hml hv
  obtain ⟨rfl, ⟨L, hP, hD, hSh⟩, hU⟩ := hv
  have hx := B.exec
  have hb := B.bytes
  have hr := B.returns
  have hG : ∀ w ∈ aw_G, w.before _ s = true := fun w h => atoms_spec (ws := ws_La_key1V) B.pre w (List.mem_cons_of_mem _ h)
  have htab : c.exceptionTable.toList = tableOf [((0 : Nat), (8 : Nat), (11 : Nat), (13 : Nat)), ((0 : Nat), (8 : Nat), (15 : Nat), (17 : Nat))] := vx_table (x := y_La_key) B (atoms_spec (ws := ws_La_key1V) B.pre _ List.mem_cons_self)
  have hown : s.vm.findClass "RuleCiphersLaw" = some m.cls := findClass_of_methodNamed B.named
  have hlocks := B.notSynchronized
  have hE := hU.1
  have hK := hE.1
  have hN := hE.2.1
  have hS : va_S (aw_Z N0) s.heap s.heap [] := va_S.rf
  have hl := lv_entry ([.ref (aw_r ad 0), .int (nI j), .long a, .long b] : List Value) (n := 7) (Nat.le_of_ble_eq_true rfl)
  rw [lg_entry_eq]
  generalize (lg_sl ([.ref (aw_r ad 0), .int (nI j), .long a, .long b] : List Value) ++ List.replicate (7 - (lg_sl ([.ref (aw_r ad 0), .int (nI j), .long a, .long b] : List Value)).length) Slot.unset).toArray = ls at hl ⊢
  have hl : lv_has ls 7 [(0, .ref (aw_r ad 0)), (1, .int (nI j)), (2, .long a), (4, .long b)] := hl
  refine lv_aload_n hx hb d_La_key_0 rfl (lv_at hl 0 rfl) ?_
  refine lv_iload_n hx hb d_La_key_1 rfl (lv_at hl 1 rfl) ?_
  refine lv_lload_n hx hb d_La_key_2 rfl (lv_at hl 2 rfl) ?_
  refine lv_lload hx hb d_La_key_3 (lv_at hl 3 rfl) ?_
  have he1 := zr_R0 hSh
  refine va_callv (va_runV (As := [.int (nI j), .long a, .long b]) (rest := []) ⟨hx, hb, hml, hown, hG⟩ (k_Ru_key1V l D g ad N0 zG zO zX zY zA zB zM zI zL zK zN zF zQ j a b hj hs) (aw_wV 3 hG gw_4_23 gw_4_20 gw_0_1 gw_4_21 gw_4_22 rfl rfl hd_Ru_key ⟨Nat.le_of_ble_eq_true rfl, Nat.le_of_ble_eq_true rfl⟩) (ag_qV (va_recv hK hP rfl he1) hP hD hSh hU hS) rfl rfl hl.1 rfl (lv_room (Nat.le_of_ble_eq_true rfl)) d_La_key_5 ⟨Nat.le_of_ble_eq_true rfl, Nat.le_of_ble_eq_true rfl⟩) hS (fun _ _ h => h) (fun _ h => h) ?_
  clear hP hD hSh hS he1
  intro u8 t8 H locs ht _ _ hB _ _ hS
  obtain ⟨L, hP, hD, hSh⟩ := hB
  rw [ht] at hP
  clear ht
  obtain ⟨zG2, ezG2⟩ : ∃ z : Nat → Nat × Nat, v_Ru_key1V_zG zG zO zA j a b = z := ⟨_, rfl⟩
  rw [ezG2] at hSh
  obtain ⟨zA3, ezA3⟩ : ∃ z : Nat → Nat → Nat → Int32, v_Ru_key1V_zA zG zO zA j a b = z := ⟨_, rfl⟩
  rw [ezA3] at hSh
  refine lv_goto (tgt := 19) hx hb d_La_key_8 (by decide) ?_
  refine lv_iconst (v := nI 0) hx hb d_La_key_19 (by decide +kernel) ?_
  refine W.widen (k := 1) (n := 6) (Nat.le_of_ble_eq_true rfl) (Nat.le_of_ble_eq_true rfl) ?_
  have gzG : zG2 = v_La_key1V_zG zG zO zA j a b := by subst ezA3 ezG2; rfl
  have gzA : zA3 = v_La_key1V_zA zG zO zA j a b := by subst ezA3 ezG2; rfl
  have hSh : az_Sh g ad (v_La_key1V_zG zG zO zA j a b) zO zX zY (v_La_key1V_zA zG zO zA j a b) zB zM zI zL zK zN zF zQ L := by rw [← gzG, ← gzA]; exact hSh
  exact W.iret hx hb hr (fun t ht hW => ⟨⟨_, (), rfl, rfl, ag_Hr ht hP hD hSh⟩, hS.F ht⟩) hS.2.2 d_La_key_20
abbrev ws_La_keyXcV : List Cond := Cond.codeWith y_La_key b_La_key 7 (some .int) [((0 : Nat), (8 : Nat), (11 : Nat), (13 : Nat)), ((0 : Nat), (8 : Nat), (15 : Nat), (17 : Nat))] :: aw_G
abbrev rm_La_keyXcV : Room := { frames := 8, cells := 1, slots := 6, locals := 137 }
set_option maxHeartbeats 4000000 in
set_option maxRecDepth 100000 in
theorem k_La_keyXcV (l : Launch) (hst : l.stackTraces = false) (D : va_G) (g : Nat → ClassId) (ad : Nat → Nat) (N0 : Nat) (zG : Nat → Nat × Nat) (zO : Nat → Nat) (zX : Nat → Nat → Int64) (zY : Nat → Nat → Int32) (zA : Nat → Nat → Nat → Int32) (zB : Nat → Int32) (zM : Nat → Nat × Nat) (zI : Nat → Nat → Int32) (zL : Nat → Nat → Int64) (zK : Int32) (zN : Nat) (zF : Int32) (zQ : Int64) (c0 : Int32) (a : Int64) (b : Int64) (hc : c0 < 0 ∨ (¬ c0 < 0 ∧ ¬ c0 < nI 4)) : Met l y_La_key ws_La_keyXcV rm_La_keyXcV (va_Pc ([.ref (aw_r ad 0), .int c0, .long a, .long b] : List Value) (ag_B D g N0 (az_Sh g ad zG zO zX zY zA zB zM zI zL zK zN zF zQ))) (va_Qi (fun r (_ : Unit) => r = nI 1) (fun (_ : Unit) t => ag_H D N0 (az_Sh g ad zG zO zX zY zA zB zM zI zL zK zN zF zQ) t.heap) (aw_Z N0)) 1 6 (aw_Z N0) := by
  refine va_MetW (cc := b_La_key) (maxL := 7) (ret := (some .int)) (hh := [((0 : Nat), (8 : Nat), (11 : Nat), (13 : Nat)), ((0 : Nat), (8 : Nat), (15 : Nat), (17 : Nat))]) (by decide) rfl ?_
  intro p e s m args below meth c s₁ B hml hv
  obtain ⟨rfl, ⟨L, hP, hD, hSh⟩, hU⟩ := hv
  have hx := B.exec
  have hb := B.bytes
  have hr := B.returns
  have hG : ∀ w ∈ aw_G, w.before _ s = true := fun w h => atoms_spec (ws := ws_La_keyXcV) B.pre w (List.mem_cons_of_mem _ h)
  have htab : c.exceptionTable.toList = tableOf [((0 : Nat), (8 : Nat), (11 : Nat), (13 : Nat)), ((0 : Nat), (8 : Nat), (15 : Nat), (17 : Nat))] := vx_table (x := y_La_key) B (atoms_spec (ws := ws_La_keyXcV) B.pre _ List.mem_cons_self)
  have hown : s.vm.findClass "RuleCiphersLaw" = some m.cls := findClass_of_methodNamed B.named
  have hlocks := B.notSynchronized
  have hE := hU.1
  have hK := hE.1
  have hN := hE.2.1
  have hS : va_S (aw_Z N0) s.heap s.heap [] := va_S.rf
  have hl := lv_entry ([.ref (aw_r ad 0), .int c0, .long a, .long b] : List Value) (n := 7) (Nat.le_of_ble_eq_true rfl)
  rw [lg_entry_eq]
  generalize (lg_sl ([.ref (aw_r ad 0), .int c0, .long a, .long b] : List Value) ++ List.replicate (7 - (lg_sl ([.ref (aw_r ad 0), .int c0, .long a, .long b] : List Value)).length) Slot.unset).toArray = ls at hl ⊢
  have hl : lv_has ls 7 [(0, .ref (aw_r ad 0)), (1, .int c0), (2, .long a), (4, .long b)] := hl
  refine lv_aload_n hx hb d_La_key_0 rfl (lv_at hl 0 rfl) ?_
  refine lv_iload_n hx hb d_La_key_1 rfl (lv_at hl 1 rfl) ?_
  refine lv_lload_n hx hb d_La_key_2 rfl (lv_at hl 2 rfl) ?_
  refine lv_lload hx hb d_La_key_3 (lv_at hl 3 rfl) ?_
  have he1 := zr_R0 hSh
  refine vx_callv (vx_runV (As := [.int c0, .long a, .long b]) (rest := []) ⟨hx, hb, hml, hown, hG⟩ (k_Ru_keyXcV l hst D g ad N0 zG zO zX zY zA zB zM zI zL zK zN zF zQ c0 a b hc) (aw_wV 3 hG gw_4_23 gw_4_20 gw_0_1 gw_4_21 gw_4_22 rfl rfl hd_Ru_key ⟨Nat.le_of_ble_eq_true rfl, Nat.le_of_ble_eq_true rfl⟩) (ag_qV (va_recv hK hP rfl he1) hP hD hSh hU hS) rfl rfl hl.1 rfl (lv_room (Nat.le_of_ble_eq_true rfl)) d_La_key_5 ⟨Nat.le_of_ble_eq_true rfl, Nat.le_of_ble_eq_true rfl⟩) hS (fun _ _ h => h) (fun _ h => h) (fun _ _ h => h) (fun E ce q9 u t H locs ht _ _ hBX _ _ hS hce hcv hcl => ?_) (fun u t H locs _ _ hF _ _ _ _ => hF.elim)
  obtain ⟨rfl, L, hP, hD, hSh⟩ := hBX
  rw [ht] at hP
  refine vx_catch hown [] ⟨0, 8, 11, 13⟩ [⟨0, 8, 15, 17⟩] htab aw_ps0 (by decide) (by decide) (hG _ gw_2_38) (va_Nw.use rfl (hN _ nw_2)) hce hcv hcl ?_
  refine W.eq (g2 := F0 m 11 ls [.ref q9]) rfl ?_
  refine lv_astore hx hb d_La_key_11 hl (by decide) rfl (fun ls hl => ?_)
  have hl : lv_has ls 7 [(6, .ref q9), (0, .ref (aw_r ad 0)), (1, .int c0), (2, .long a), (4, .long b)] := hl
  refine lv_iconst (v := nI 1) hx hb d_La_key_13 (by decide +kernel) ?_
  exact W.iret hx hb hr (fun t ht hW => ⟨⟨_, (), rfl, rfl, ag_Hr ht hP hD hSh⟩, hS.F ht⟩) hS.2.2 d_La_key_14
abbrev ws_La_keyXsV : List Cond := Cond.codeWith y_La_key b_La_key 7 (some .int) [((0 : Nat), (8 : Nat), (11 : Nat), (13 : Nat)), ((0 : Nat), (8 : Nat), (15 : Nat), (17 : Nat))] :: aw_G
abbrev rm_La_keyXsV : Room := { frames := 7, cells := 1, slots := 6, locals := 116 }
set_option maxHeartbeats 4000000 in
set_option maxRecDepth 100000 in
theorem k_La_keyXsV (l : Launch) (hst : l.stackTraces = false) (D : va_G) (g : Nat → ClassId) (ad : Nat → Nat) (N0 : Nat) (zG : Nat → Nat × Nat) (zO : Nat → Nat) (zX : Nat → Nat → Int64) (zY : Nat → Nat → Int32) (zA : Nat → Nat → Nat → Int32) (zB : Nat → Int32) (zM : Nat → Nat × Nat) (zI : Nat → Nat → Int32) (zL : Nat → Nat → Int64) (zK : Int32) (zN : Nat) (zF : Int32) (zQ : Int64) (j : Nat) (a : Int64) (b : Int64) (hj : j < 4) (hs : (zG j).1 = 0) : Met l y_La_key ws_La_keyXsV rm_La_keyXsV (va_Pc ([.ref (aw_r ad 0), .int (nI j), .long a, .long b] : List Value) (ag_B D g N0 (az_Sh g ad zG zO zX zY zA zB zM zI zL zK zN zF zQ))) (va_Qi (fun r (_ : Unit) => r = nI 2) (fun (_ : Unit) t => ag_H D N0 (az_Sh g ad zG zO zX zY zA zB zM zI zL zK zN zF zQ) t.heap) (aw_Z N0)) 1 6 (aw_Z N0) := by
  refine va_MetW (cc := b_La_key) (maxL := 7) (ret := (some .int)) (hh := [((0 : Nat), (8 : Nat), (11 : Nat), (13 : Nat)), ((0 : Nat), (8 : Nat), (15 : Nat), (17 : Nat))]) (by decide) rfl ?_
  intro p e s m args below meth c s₁ B hml hv
  obtain ⟨rfl, ⟨L, hP, hD, hSh⟩, hU⟩ := hv
  have hx := B.exec
  have hb := B.bytes
  have hr := B.returns
  have hG : ∀ w ∈ aw_G, w.before _ s = true := fun w h => atoms_spec (ws := ws_La_keyXsV) B.pre w (List.mem_cons_of_mem _ h)
  have htab : c.exceptionTable.toList = tableOf [((0 : Nat), (8 : Nat), (11 : Nat), (13 : Nat)), ((0 : Nat), (8 : Nat), (15 : Nat), (17 : Nat))] := vx_table (x := y_La_key) B (atoms_spec (ws := ws_La_keyXsV) B.pre _ List.mem_cons_self)
  have hown : s.vm.findClass "RuleCiphersLaw" = some m.cls := findClass_of_methodNamed B.named
  have hlocks := B.notSynchronized
  have hE := hU.1
  have hK := hE.1
  have hN := hE.2.1
  have hS : va_S (aw_Z N0) s.heap s.heap [] := va_S.rf
  have hl := lv_entry ([.ref (aw_r ad 0), .int (nI j), .long a, .long b] : List Value) (n := 7) (Nat.le_of_ble_eq_true rfl)
  rw [lg_entry_eq]
  generalize (lg_sl ([.ref (aw_r ad 0), .int (nI j), .long a, .long b] : List Value) ++ List.replicate (7 - (lg_sl ([.ref (aw_r ad 0), .int (nI j), .long a, .long b] : List Value)).length) Slot.unset).toArray = ls at hl ⊢
  have hl : lv_has ls 7 [(0, .ref (aw_r ad 0)), (1, .int (nI j)), (2, .long a), (4, .long b)] := hl
  refine lv_aload_n hx hb d_La_key_0 rfl (lv_at hl 0 rfl) ?_
  refine lv_iload_n hx hb d_La_key_1 rfl (lv_at hl 1 rfl) ?_
  refine lv_lload_n hx hb d_La_key_2 rfl (lv_at hl 2 rfl) ?_
  refine lv_lload hx hb d_La_key_3 (lv_at hl 3 rfl) ?_
  have he1 := zr_R0 hSh
  refine vx_callv (vx_runV (As := [.int (nI j), .long a, .long b]) (rest := []) ⟨hx, hb, hml, hown, hG⟩ (k_Ru_keyXsV l hst D g ad N0 zG zO zX zY zA zB zM zI zL zK zN zF zQ j a b hj hs) (aw_wV 3 hG gw_4_23 gw_4_20 gw_0_1 gw_4_21 gw_4_22 rfl rfl hd_Ru_key ⟨Nat.le_of_ble_eq_true rfl, Nat.le_of_ble_eq_true rfl⟩) (ag_qV (va_recv hK hP rfl he1) hP hD hSh hU hS) rfl rfl hl.1 rfl (lv_room (Nat.le_of_ble_eq_true rfl)) d_La_key_5 ⟨Nat.le_of_ble_eq_true rfl, Nat.le_of_ble_eq_true rfl⟩) hS (fun _ _ h => h) (fun _ h => h) (fun _ _ h => h) (fun E ce q9 u t H locs ht _ _ hBX _ _ hS hce hcv hcl => ?_) (fun u t H locs _ _ hF _ _ _ _ => hF.elim)
  obtain ⟨rfl, L, hP, hD, hSh⟩ := hBX
  rw [ht] at hP
  refine vx_catch hown [⟨0, 8, 11, 13⟩] ⟨0, 8, 15, 17⟩ [] htab (aw_psc (Or.inr ⟨by decide, "java/lang/IndexOutOfBoundsException", hG _ gw_2_38, aw_nc_S_I hE⟩) aw_ps0) (by decide) (by decide) (hG _ gw_2_40) (va_Nw.use rfl (hN _ nw_10)) hce hcv hcl ?_
  refine W.eq (g2 := F0 m 15 ls [.ref q9]) rfl ?_
  refine lv_astore hx hb d_La_key_15 hl (by decide) rfl (fun ls hl => ?_)
  have hl : lv_has ls 7 [(6, .ref q9), (0, .ref (aw_r ad 0)), (1, .int (nI j)), (2, .long a), (4, .long b)] := hl
  refine lv_iconst (v := nI 2) hx hb d_La_key_17 (by decide +kernel) ?_
  exact W.iret hx hb hr (fun t ht hW => ⟨⟨_, (), rfl, rfl, ag_Hr ht hP hD hSh⟩, hS.F ht⟩) hS.2.2 d_La_key_18
noncomputable def v_La_mode1V_zG (zG : Nat → Nat × Nat) (zX : Nat → Nat → Int64) (zY : Nat → Nat → Int32) (j : Nat) (k : Nat) (b : Int64) : Nat → Nat × Nat := v_Ru_mode1V_zG zG zX zY j k b
noncomputable def v_La_mode1V_zX (zG : Nat → Nat × Nat) (zX : Nat → Nat → Int64) (zY : Nat → Nat → Int32) (j : Nat) (k : Nat) (b : Int64) : Nat → Nat → Int64 := v_Ru_mode1V_zX zG zX zY j k b
noncomputable def v_La_mode1V_zY (zG : Nat → Nat × Nat) (zX : Nat → Nat → Int64) (zY : Nat → Nat → Int32) (j : Nat) (k : Nat) (b : Int64) : Nat → Nat → Int32 := v_Ru_mode1V_zY zG zX zY j k b
abbrev ws_La_mode1V : List Cond := Cond.codeWith y_La_mode b_La_mode 6 (some .int) [((0 : Nat), (7 : Nat), (10 : Nat), (13 : Nat)), ((0 : Nat), (7 : Nat), (14 : Nat), (15 : Nat)), ((0 : Nat), (7 : Nat), (18 : Nat), (17 : Nat))] :: aw_G
abbrev rm_La_mode1V : Room := { frames := 3, cells := 1, slots := 6, locals := 68 }
set_option maxHeartbeats 4000000 in
set_option maxRecDepth 100000 in
theorem k_La_mode1V (l : Launch) (hst : l.stackTraces = false) (D : va_G) (g : Nat → ClassId) (ad : Nat → Nat) (N0 : Nat) (zG : Nat → Nat × Nat) (zO : Nat → Nat) (zX : Nat → Nat → Int64) (zY : Nat → Nat → Int32) (zA : Nat → Nat → Nat → Int32) (zB : Nat → Int32) (zM : Nat → Nat × Nat) (zI : Nat → Nat → Int32) (zL : Nat → Nat → Int64) (zK : Int32) (zN : Nat) (zF : Int32) (zQ : Int64) (j : Nat) (k : Nat) (b : Int64) (hj : j < 4) (hk : k ≤ 5) (hs : 2 ≤ (zG j).1) : Met l y_La_mode ws_La_mode1V rm_La_mode1V (va_Pc ([.ref (aw_r ad 0), .int (nI j), .int (nI k), .long b] : List Value) (ag_B D g N0 (az_Sh g ad zG zO zX zY zA zB zM zI zL zK zN zF zQ))) (va_Qi (fun r (_ : Unit) => r = nI 0) (fun (_ : Unit) t => ag_H D N0 (az_Sh g ad (v_La_mode1V_zG zG zX zY j k b) zO (v_La_mode1V_zX zG zX zY j k b) (v_La_mode1V_zY zG zX zY j k b) zA zB zM zI zL zK zN zF zQ) t.heap) (aw_Z N0)) 1 6 (aw_Z N0) := by
  refine va_MetW (cc := b_La_mode) (maxL := 6) (ret := (some .int)) (hh := [((0 : Nat), (7 : Nat), (10 : Nat), (13 : Nat)), ((0 : Nat), (7 : Nat), (14 : Nat), (15 : Nat)), ((0 : Nat), (7 : Nat), (18 : Nat), (17 : Nat))]) (by decide) rfl ?_
  intro p e s m args below meth c s₁ B hml hv
  obtain ⟨rfl, ⟨L, hP, hD, hSh⟩, hU⟩ := hv
  have hx := B.exec
  have hb := B.bytes
  have hr := B.returns
  have hG : ∀ w ∈ aw_G, w.before _ s = true := fun w h => atoms_spec (ws := ws_La_mode1V) B.pre w (List.mem_cons_of_mem _ h)
  have htab : c.exceptionTable.toList = tableOf [((0 : Nat), (7 : Nat), (10 : Nat), (13 : Nat)), ((0 : Nat), (7 : Nat), (14 : Nat), (15 : Nat)), ((0 : Nat), (7 : Nat), (18 : Nat), (17 : Nat))] := vx_table (x := y_La_mode) B (atoms_spec (ws := ws_La_mode1V) B.pre _ List.mem_cons_self)
  have hown : s.vm.findClass "RuleCiphersLaw" = some m.cls := findClass_of_methodNamed B.named
  have hlocks := B.notSynchronized
  have hE := hU.1
  have hK := hE.1
  have hN := hE.2.1
  have hS : va_S (aw_Z N0) s.heap s.heap [] := va_S.rf
  have hl := lv_entry ([.ref (aw_r ad 0), .int (nI j), .int (nI k), .long b] : List Value) (n := 6) (Nat.le_of_ble_eq_true rfl)
  rw [lg_entry_eq]
  generalize (lg_sl ([.ref (aw_r ad 0), .int (nI j), .int (nI k), .long b] : List Value) ++ List.replicate (6 - (lg_sl ([.ref (aw_r ad 0), .int (nI j), .int (nI k), .long b] : List Value)).length) Slot.unset).toArray = ls at hl ⊢
  have hl : lv_has ls 6 [(0, .ref (aw_r ad 0)), (1, .int (nI j)), (2, .int (nI k)), (3, .long b)] := hl
  refine lv_aload_n hx hb d_La_mode_0 rfl (lv_at hl 0 rfl) ?_
  refine lv_iload_n hx hb d_La_mode_1 rfl (lv_at hl 1 rfl) ?_
  refine lv_iload_n hx hb d_La_mode_2 rfl (lv_at hl 2 rfl) ?_
  refine lv_lload_n hx hb d_La_mode_3 rfl (lv_at hl 3 rfl) ?_
  have he1 := zr_R0 hSh
  refine va_callv (va_runV (As := [.int (nI j), .int (nI k), .long b]) (rest := []) ⟨hx, hb, hml, hown, hG⟩ (k_Ru_mode1V l D g ad N0 zG zO zX zY zA zB zM zI zL zK zN zF zQ j k b hj hk hs) (aw_wV 3 hG gw_5_27 gw_5_24 gw_0_1 gw_5_25 gw_5_26 rfl rfl hd_Ru_mode ⟨Nat.le_of_ble_eq_true rfl, Nat.le_of_ble_eq_true rfl⟩) (ag_qV (va_recv hK hP rfl he1) hP hD hSh hU hS) rfl rfl hl.1 rfl (lv_room (Nat.le_of_ble_eq_true rfl)) d_La_mode_4 ⟨Nat.le_of_ble_eq_true rfl, Nat.le_of_ble_eq_true rfl⟩) hS (fun _ _ h => h) (fun _ h => h) ?_
  clear hP hD hSh hS he1
  intro u8 t8 H locs ht _ _ hB _ _ hS
  obtain ⟨L, hP, hD, hSh⟩ := hB
  rw [ht] at hP
  clear ht
  obtain ⟨zG2, ezG2⟩ : ∃ z : Nat → Nat × Nat, v_Ru_mode1V_zG zG zX zY j k b = z := ⟨_, rfl⟩
  rw [ezG2] at hSh
  obtain ⟨zX3, ezX3⟩ : ∃ z : Nat → Nat → Int64, v_Ru_mode1V_zX zG zX zY j k b = z := ⟨_, rfl⟩
  rw [ezX3] at hSh
  obtain ⟨zY4, ezY4⟩ : ∃ z : Nat → Nat → Int32, v_Ru_mode1V_zY zG zX zY j k b = z := ⟨_, rfl⟩
  rw [ezY4] at hSh
  refine lv_goto (tgt := 22) hx hb d_La_mode_7 (by decide) ?_
  refine lv_iconst (v := nI 0) hx hb d_La_mode_22 (by decide +kernel) ?_
  refine W.widen (k := 1) (n := 6) (Nat.le_of_ble_eq_true rfl) (Nat.le_of_ble_eq_true rfl) ?_
  have gzG : zG2 = v_La_mode1V_zG zG zX zY j k b := by subst ezY4 ezX3 ezG2; rfl
  have gzX : zX3 = v_La_mode1V_zX zG zX zY j k b := by subst ezY4 ezX3 ezG2; rfl
  have gzY : zY4 = v_La_mode1V_zY zG zX zY j k b := by subst ezY4 ezX3 ezG2; rfl
  have hSh : az_Sh g ad (v_La_mode1V_zG zG zX zY j k b) zO (v_La_mode1V_zX zG zX zY j k b) (v_La_mode1V_zY zG zX zY j k b) zA zB zM zI zL zK zN zF zQ L := by rw [← gzG, ← gzX, ← gzY]; exact hSh
  exact W.iret hx hb hr (fun t ht hW => ⟨⟨_, (), rfl, rfl, ag_Hr ht hP hD hSh⟩, hS.F ht⟩) hS.2.2 d_La_mode_23
abbrev ws_La_modeXcV : List Cond := Cond.codeWith y_La_mode b_La_mode 6 (some .int) [((0 : Nat), (7 : Nat), (10 : Nat), (13 : Nat)), ((0 : Nat), (7 : Nat), (14 : Nat), (15 : Nat)), ((0 : Nat), (7 : Nat), (18 : Nat), (17 : Nat))] :: aw_G
abbrev rm_La_modeXcV : Room := { frames := 8, cells := 1, slots := 6, locals := 136 }
set_option maxHeartbeats 4000000 in
set_option maxRecDepth 100000 in
theorem k_La_modeXcV (l : Launch) (hst : l.stackTraces = false) (D : va_G) (g : Nat → ClassId) (ad : Nat → Nat) (N0 : Nat) (zG : Nat → Nat × Nat) (zO : Nat → Nat) (zX : Nat → Nat → Int64) (zY : Nat → Nat → Int32) (zA : Nat → Nat → Nat → Int32) (zB : Nat → Int32) (zM : Nat → Nat × Nat) (zI : Nat → Nat → Int32) (zL : Nat → Nat → Int64) (zK : Int32) (zN : Nat) (zF : Int32) (zQ : Int64) (c0 : Int32) (k0 : Int32) (b : Int64) (hc : c0 < 0 ∨ (¬ c0 < 0 ∧ ¬ c0 < nI 4)) : Met l y_La_mode ws_La_modeXcV rm_La_modeXcV (va_Pc ([.ref (aw_r ad 0), .int c0, .int k0, .long b] : List Value) (ag_B D g N0 (az_Sh g ad zG zO zX zY zA zB zM zI zL zK zN zF zQ))) (va_Qi (fun r (_ : Unit) => r = nI 1) (fun (_ : Unit) t => ag_H D N0 (az_Sh g ad zG zO zX zY zA zB zM zI zL zK zN zF zQ) t.heap) (aw_Z N0)) 1 6 (aw_Z N0) := by
  refine va_MetW (cc := b_La_mode) (maxL := 6) (ret := (some .int)) (hh := [((0 : Nat), (7 : Nat), (10 : Nat), (13 : Nat)), ((0 : Nat), (7 : Nat), (14 : Nat), (15 : Nat)), ((0 : Nat), (7 : Nat), (18 : Nat), (17 : Nat))]) (by decide) rfl ?_
  intro p e s m args below meth c s₁ B hml hv
  obtain ⟨rfl, ⟨L, hP, hD, hSh⟩, hU⟩ := hv
  have hx := B.exec
  have hb := B.bytes
  have hr := B.returns
  have hG : ∀ w ∈ aw_G, w.before _ s = true := fun w h => atoms_spec (ws := ws_La_modeXcV) B.pre w (List.mem_cons_of_mem _ h)
  have htab : c.exceptionTable.toList = tableOf [((0 : Nat), (7 : Nat), (10 : Nat), (13 : Nat)), ((0 : Nat), (7 : Nat), (14 : Nat), (15 : Nat)), ((0 : Nat), (7 : Nat), (18 : Nat), (17 : Nat))] := vx_table (x := y_La_mode) B (atoms_spec (ws := ws_La_modeXcV) B.pre _ List.mem_cons_self)
  have hown : s.vm.findClass "RuleCiphersLaw" = some m.cls := findClass_of_methodNamed B.named
  have hlocks := B.notSynchronized
  have hE := hU.1
  have hK := hE.1
  have hN := hE.2.1
  have hS : va_S (aw_Z N0) s.heap s.heap [] := va_S.rf
  have hl := lv_entry ([.ref (aw_r ad 0), .int c0, .int k0, .long b] : List Value) (n := 6) (Nat.le_of_ble_eq_true rfl)
  rw [lg_entry_eq]
  generalize (lg_sl ([.ref (aw_r ad 0), .int c0, .int k0, .long b] : List Value) ++ List.replicate (6 - (lg_sl ([.ref (aw_r ad 0), .int c0, .int k0, .long b] : List Value)).length) Slot.unset).toArray = ls at hl ⊢
  have hl : lv_has ls 6 [(0, .ref (aw_r ad 0)), (1, .int c0), (2, .int k0), (3, .long b)] := hl
  refine lv_aload_n hx hb d_La_mode_0 rfl (lv_at hl 0 rfl) ?_
  refine lv_iload_n hx hb d_La_mode_1 rfl (lv_at hl 1 rfl) ?_
  refine lv_iload_n hx hb d_La_mode_2 rfl (lv_at hl 2 rfl) ?_
  refine lv_lload_n hx hb d_La_mode_3 rfl (lv_at hl 3 rfl) ?_
  have he1 := zr_R0 hSh
  refine vx_callv (vx_runV (As := [.int c0, .int k0, .long b]) (rest := []) ⟨hx, hb, hml, hown, hG⟩ (k_Ru_modeXcV l hst D g ad N0 zG zO zX zY zA zB zM zI zL zK zN zF zQ c0 k0 b hc) (aw_wV 3 hG gw_5_27 gw_5_24 gw_0_1 gw_5_25 gw_5_26 rfl rfl hd_Ru_mode ⟨Nat.le_of_ble_eq_true rfl, Nat.le_of_ble_eq_true rfl⟩) (ag_qV (va_recv hK hP rfl he1) hP hD hSh hU hS) rfl rfl hl.1 rfl (lv_room (Nat.le_of_ble_eq_true rfl)) d_La_mode_4 ⟨Nat.le_of_ble_eq_true rfl, Nat.le_of_ble_eq_true rfl⟩) hS (fun _ _ h => h) (fun _ h => h) (fun _ _ h => h) (fun E ce q9 u t H locs ht _ _ hBX _ _ hS hce hcv hcl => ?_) (fun u t H locs _ _ hF _ _ _ _ => hF.elim)
  obtain ⟨rfl, L, hP, hD, hSh⟩ := hBX
  rw [ht] at hP
  refine vx_catch hown [] ⟨0, 7, 10, 13⟩ [⟨0, 7, 14, 15⟩, ⟨0, 7, 18, 17⟩] htab aw_ps0 (by decide) (by decide) (hG _ gw_2_38) (va_Nw.use rfl (hN _ nw_2)) hce hcv hcl ?_
  refine W.eq (g2 := F0 m 10 ls [.ref q9]) rfl ?_
  refine lv_astore hx hb d_La_mode_10 hl (by decide) rfl (fun ls hl => ?_)
  have hl : lv_has ls 6 [(5, .ref q9), (0, .ref (aw_r ad 0)), (1, .int c0), (2, .int k0), (3, .long b)] := hl
  refine lv_iconst (v := nI 1) hx hb d_La_mode_12 (by decide +kernel) ?_
  exact W.iret hx hb hr (fun t ht hW => ⟨⟨_, (), rfl, rfl, ag_Hr ht hP hD hSh⟩, hS.F ht⟩) hS.2.2 d_La_mode_13
abbrev ws_La_modeXaV : List Cond := Cond.codeWith y_La_mode b_La_mode 6 (some .int) [((0 : Nat), (7 : Nat), (10 : Nat), (13 : Nat)), ((0 : Nat), (7 : Nat), (14 : Nat), (15 : Nat)), ((0 : Nat), (7 : Nat), (18 : Nat), (17 : Nat))] :: aw_G
abbrev rm_La_modeXaV : Room := { frames := 7, cells := 1, slots := 6, locals := 115 }
set_option maxHeartbeats 4000000 in
set_option maxRecDepth 100000 in
theorem k_La_modeXaV (l : Launch) (hst : l.stackTraces = false) (D : va_G) (g : Nat → ClassId) (ad : Nat → Nat) (N0 : Nat) (zG : Nat → Nat × Nat) (zO : Nat → Nat) (zX : Nat → Nat → Int64) (zY : Nat → Nat → Int32) (zA : Nat → Nat → Nat → Int32) (zB : Nat → Int32) (zM : Nat → Nat × Nat) (zI : Nat → Nat → Int32) (zL : Nat → Nat → Int64) (zK : Int32) (zN : Nat) (zF : Int32) (zQ : Int64) (j : Nat) (k0 : Int32) (b : Int64) (hj : j < 4) (hk : k0 < 0 ∨ (¬ k0 < 0 ∧ nI 5 < k0)) : Met l y_La_mode ws_La_modeXaV rm_La_modeXaV (va_Pc ([.ref (aw_r ad 0), .int (nI j), .int k0, .long b] : List Value) (ag_B D g N0 (az_Sh g ad zG zO zX zY zA zB zM zI zL zK zN zF zQ))) (va_Qi (fun r (_ : Unit) => r = nI 2) (fun (_ : Unit) t => ag_H D N0 (az_Sh g ad zG zO zX zY zA zB zM zI zL zK zN zF zQ) t.heap) (aw_Z N0)) 1 6 (aw_Z N0) := by
  refine va_MetW (cc := b_La_mode) (maxL := 6) (ret := (some .int)) (hh := [((0 : Nat), (7 : Nat), (10 : Nat), (13 : Nat)), ((0 : Nat), (7 : Nat), (14 : Nat), (15 : Nat)), ((0 : Nat), (7 : Nat), (18 : Nat), (17 : Nat))]) (by decide) rfl ?_
  intro p e s m args below meth c s₁ B hml hv
  obtain ⟨rfl, ⟨L, hP, hD, hSh⟩, hU⟩ := hv
  have hx := B.exec
  have hb := B.bytes
  have hr := B.returns
  have hG : ∀ w ∈ aw_G, w.before _ s = true := fun w h => atoms_spec (ws := ws_La_modeXaV) B.pre w (List.mem_cons_of_mem _ h)
  have htab : c.exceptionTable.toList = tableOf [((0 : Nat), (7 : Nat), (10 : Nat), (13 : Nat)), ((0 : Nat), (7 : Nat), (14 : Nat), (15 : Nat)), ((0 : Nat), (7 : Nat), (18 : Nat), (17 : Nat))] := vx_table (x := y_La_mode) B (atoms_spec (ws := ws_La_modeXaV) B.pre _ List.mem_cons_self)
  have hown : s.vm.findClass "RuleCiphersLaw" = some m.cls := findClass_of_methodNamed B.named
  have hlocks := B.notSynchronized
  have hE := hU.1
  have hK := hE.1
  have hN := hE.2.1
  have hS : va_S (aw_Z N0) s.heap s.heap [] := va_S.rf
  have hl := lv_entry ([.ref (aw_r ad 0), .int (nI j), .int k0, .long b] : List Value) (n := 6) (Nat.le_of_ble_eq_true rfl)
  rw [lg_entry_eq]
  generalize (lg_sl ([.ref (aw_r ad 0), .int (nI j), .int k0, .long b] : List Value) ++ List.replicate (6 - (lg_sl ([.ref (aw_r ad 0), .int (nI j), .int k0, .long b] : List Value)).length) Slot.unset).toArray = ls at hl ⊢
  have hl : lv_has ls 6 [(0, .ref (aw_r ad 0)), (1, .int (nI j)), (2, .int k0), (3, .long b)] := hl
  refine lv_aload_n hx hb d_La_mode_0 rfl (lv_at hl 0 rfl) ?_
  refine lv_iload_n hx hb d_La_mode_1 rfl (lv_at hl 1 rfl) ?_
  refine lv_iload_n hx hb d_La_mode_2 rfl (lv_at hl 2 rfl) ?_
  refine lv_lload_n hx hb d_La_mode_3 rfl (lv_at hl 3 rfl) ?_
  have he1 := zr_R0 hSh
  refine vx_callv (vx_runV (As := [.int (nI j), .int k0, .long b]) (rest := []) ⟨hx, hb, hml, hown, hG⟩ (k_Ru_modeXaV l hst D g ad N0 zG zO zX zY zA zB zM zI zL zK zN zF zQ j k0 b hj hk) (aw_wV 3 hG gw_5_27 gw_5_24 gw_0_1 gw_5_25 gw_5_26 rfl rfl hd_Ru_mode ⟨Nat.le_of_ble_eq_true rfl, Nat.le_of_ble_eq_true rfl⟩) (ag_qV (va_recv hK hP rfl he1) hP hD hSh hU hS) rfl rfl hl.1 rfl (lv_room (Nat.le_of_ble_eq_true rfl)) d_La_mode_4 ⟨Nat.le_of_ble_eq_true rfl, Nat.le_of_ble_eq_true rfl⟩) hS (fun _ _ h => h) (fun _ h => h) (fun _ _ h => h) (fun E ce q9 u t H locs ht _ _ hBX _ _ hS hce hcv hcl => ?_) (fun u t H locs _ _ hF _ _ _ _ => hF.elim)
  obtain ⟨rfl, L, hP, hD, hSh⟩ := hBX
  rw [ht] at hP
  refine vx_catch hown [⟨0, 7, 10, 13⟩] ⟨0, 7, 14, 15⟩ [⟨0, 7, 18, 17⟩] htab (aw_psc (Or.inr ⟨by decide, "java/lang/IndexOutOfBoundsException", hG _ gw_2_38, aw_nc_A_I hE⟩) aw_ps0) (by decide) (by decide) (hG _ gw_2_39) (va_Nw.use rfl (hN _ nw_9)) hce hcv hcl ?_
  refine W.eq (g2 := F0 m 14 ls [.ref q9]) rfl ?_
  refine lv_astore hx hb d_La_mode_14 hl (by decide) rfl (fun ls hl => ?_)
  have hl : lv_has ls 6 [(5, .ref q9), (0, .ref (aw_r ad 0)), (1, .int (nI j)), (2, .int k0), (3, .long b)] := hl
  refine lv_iconst (v := nI 2) hx hb d_La_mode_16 (by decide +kernel) ?_
  exact W.iret hx hb hr (fun t ht hW => ⟨⟨_, (), rfl, rfl, ag_Hr ht hP hD hSh⟩, hS.F ht⟩) hS.2.2 d_La_mode_17
abbrev ws_La_modeXsV : List Cond := Cond.codeWith y_La_mode b_La_mode 6 (some .int) [((0 : Nat), (7 : Nat), (10 : Nat), (13 : Nat)), ((0 : Nat), (7 : Nat), (14 : Nat), (15 : Nat)), ((0 : Nat), (7 : Nat), (18 : Nat), (17 : Nat))] :: aw_G
abbrev rm_La_modeXsV : Room := { frames := 8, cells := 1, slots := 6, locals := 135 }
set_option maxHeartbeats 4000000 in
set_option maxRecDepth 100000 in
theorem k_La_modeXsV (l : Launch) (hst : l.stackTraces = false) (D : va_G) (g : Nat → ClassId) (ad : Nat → Nat) (N0 : Nat) (zG : Nat → Nat × Nat) (zO : Nat → Nat) (zX : Nat → Nat → Int64) (zY : Nat → Nat → Int32) (zA : Nat → Nat → Nat → Int32) (zB : Nat → Int32) (zM : Nat → Nat × Nat) (zI : Nat → Nat → Int32) (zL : Nat → Nat → Int64) (zK : Int32) (zN : Nat) (zF : Int32) (zQ : Int64) (j : Nat) (k : Nat) (b : Int64) (hj : j < 4) (hk : k ≤ 5) (hs : (zG j).1 ≤ 1) : Met l y_La_mode ws_La_modeXsV rm_La_modeXsV (va_Pc ([.ref (aw_r ad 0), .int (nI j), .int (nI k), .long b] : List Value) (ag_B D g N0 (az_Sh g ad zG zO zX zY zA zB zM zI zL zK zN zF zQ))) (va_Qi (fun r (_ : Unit) => r = nI 3) (fun (_ : Unit) t => ag_H D N0 (az_Sh g ad zG zO zX zY zA zB zM zI zL zK zN zF zQ) t.heap) (aw_Z N0)) 1 6 (aw_Z N0) := by
  refine va_MetW (cc := b_La_mode) (maxL := 6) (ret := (some .int)) (hh := [((0 : Nat), (7 : Nat), (10 : Nat), (13 : Nat)), ((0 : Nat), (7 : Nat), (14 : Nat), (15 : Nat)), ((0 : Nat), (7 : Nat), (18 : Nat), (17 : Nat))]) (by decide) rfl ?_
  intro p e s m args below meth c s₁ B hml hv
  obtain ⟨rfl, ⟨L, hP, hD, hSh⟩, hU⟩ := hv
  have hx := B.exec
  have hb := B.bytes
  have hr := B.returns
  have hG : ∀ w ∈ aw_G, w.before _ s = true := fun w h => atoms_spec (ws := ws_La_modeXsV) B.pre w (List.mem_cons_of_mem _ h)
  have htab : c.exceptionTable.toList = tableOf [((0 : Nat), (7 : Nat), (10 : Nat), (13 : Nat)), ((0 : Nat), (7 : Nat), (14 : Nat), (15 : Nat)), ((0 : Nat), (7 : Nat), (18 : Nat), (17 : Nat))] := vx_table (x := y_La_mode) B (atoms_spec (ws := ws_La_modeXsV) B.pre _ List.mem_cons_self)
  have hown : s.vm.findClass "RuleCiphersLaw" = some m.cls := findClass_of_methodNamed B.named
  have hlocks := B.notSynchronized
  have hE := hU.1
  have hK := hE.1
  have hN := hE.2.1
  have hS : va_S (aw_Z N0) s.heap s.heap [] := va_S.rf
  have hl := lv_entry ([.ref (aw_r ad 0), .int (nI j), .int (nI k), .long b] : List Value) (n := 6) (Nat.le_of_ble_eq_true rfl)
  rw [lg_entry_eq]
  generalize (lg_sl ([.ref (aw_r ad 0), .int (nI j), .int (nI k), .long b] : List Value) ++ List.replicate (6 - (lg_sl ([.ref (aw_r ad 0), .int (nI j), .int (nI k), .long b] : List Value)).length) Slot.unset).toArray = ls at hl ⊢
  have hl : lv_has ls 6 [(0, .ref (aw_r ad 0)), (1, .int (nI j)), (2, .int (nI k)), (3, .long b)] := hl
  refine lv_aload_n hx hb d_La_mode_0 rfl (lv_at hl 0 rfl) ?_
  refine lv_iload_n hx hb d_La_mode_1 rfl (lv_at hl 1 rfl) ?_
  refine lv_iload_n hx hb d_La_mode_2 rfl (lv_at hl 2 rfl) ?_
  refine lv_lload_n hx hb d_La_mode_3 rfl (lv_at hl 3 rfl) ?_
  have he1 := zr_R0 hSh
  refine vx_callv (vx_runV (As := [.int (nI j), .int (nI k), .long b]) (rest := []) ⟨hx, hb, hml, hown, hG⟩ (k_Ru_modeXsV l hst D g ad N0 zG zO zX zY zA zB zM zI zL zK zN zF zQ j k b hj hk hs) (aw_wV 3 hG gw_5_27 gw_5_24 gw_0_1 gw_5_25 gw_5_26 rfl rfl hd_Ru_mode ⟨Nat.le_of_ble_eq_true rfl, Nat.le_of_ble_eq_true rfl⟩) (ag_qV (va_recv hK hP rfl he1) hP hD hSh hU hS) rfl rfl hl.1 rfl (lv_room (Nat.le_of_ble_eq_true rfl)) d_La_mode_4 ⟨Nat.le_of_ble_eq_true rfl, Nat.le_of_ble_eq_true rfl⟩) hS (fun _ _ h => h) (fun _ h => h) (fun _ _ h => h) (fun E ce q9 u t H locs ht _ _ hBX _ _ hS hce hcv hcl => ?_) (fun u t H locs _ _ hF _ _ _ _ => hF.elim)
  obtain ⟨rfl, L, hP, hD, hSh⟩ := hBX
  rw [ht] at hP
  refine vx_catch hown [⟨0, 7, 10, 13⟩, ⟨0, 7, 14, 15⟩] ⟨0, 7, 18, 17⟩ [] htab (aw_psc (Or.inr ⟨by decide, "java/lang/IndexOutOfBoundsException", hG _ gw_2_38, aw_nc_S_I hE⟩) (aw_psc (Or.inr ⟨by decide, "java/lang/IllegalArgumentException", hG _ gw_2_39, aw_nc_S_A hE⟩) aw_ps0)) (by decide) (by decide) (hG _ gw_2_40) (va_Nw.use rfl (hN _ nw_10)) hce hcv hcl ?_
  refine W.eq (g2 := F0 m 18 ls [.ref q9]) rfl ?_
  refine lv_astore hx hb d_La_mode_18 hl (by decide) rfl (fun ls hl => ?_)
  have hl : lv_has ls 6 [(5, .ref q9), (0, .ref (aw_r ad 0)), (1, .int (nI j)), (2, .int (nI k)), (3, .long b)] := hl
  refine lv_iconst (v := nI 3) hx hb d_La_mode_20 (by decide +kernel) ?_
  exact W.iret hx hb hr (fun t ht hW => ⟨⟨_, (), rfl, rfl, ag_Hr ht hP hD hSh⟩, hS.F ht⟩) hS.2.2 d_La_mode_21
noncomputable def v_La_free1V_zG (zG : Nat → Nat × Nat) (j : Nat) : Nat → Nat × Nat := v_Ru_free1V_zG zG j
abbrev ws_La_free1V : List Cond := Cond.codeWith y_La_free b_La_free 3 (some .int) [((0 : Nat), (5 : Nat), (8 : Nat), (13 : Nat))] :: aw_G
abbrev rm_La_free1V : Room := { frames := 2, cells := 1, slots := 6, locals := 42 }
set_option maxHeartbeats 4000000 in
set_option maxRecDepth 100000 in
theorem k_La_free1V (l : Launch) (hst : l.stackTraces = false) (D : va_G) (g : Nat → ClassId) (ad : Nat → Nat) (N0 : Nat) (zG : Nat → Nat × Nat) (zO : Nat → Nat) (zX : Nat → Nat → Int64) (zY : Nat → Nat → Int32) (zA : Nat → Nat → Nat → Int32) (zB : Nat → Int32) (zM : Nat → Nat × Nat) (zI : Nat → Nat → Int32) (zL : Nat → Nat → Int64) (zK : Int32) (zN : Nat) (zF : Int32) (zQ : Int64) (j : Nat) (hj : j < 4) : Met l y_La_free ws_La_free1V rm_La_free1V (va_Pc ([.ref (aw_r ad 0), .int (nI j)] : List Value) (ag_B D g N0 (az_Sh g ad zG zO zX zY zA zB zM zI zL zK zN zF zQ))) (va_Qi (fun r (_ : Unit) => r = nI 0) (fun (_ : Unit) t => ag_H D N0 (az_Sh g ad (v_La_free1V_zG zG j) zO zX zY zA zB zM zI zL zK zN zF zQ) t.heap) (aw_Z N0)) 1 6 (aw_Z N0) := by
  refine va_MetW (cc := b_La_free) (maxL := 3) (ret := (some .int)) (hh := [((0 : Nat), (5 : Nat), (8 : Nat), (13 : Nat))]) (by decide) rfl ?_
  intro p e s m args below meth c s₁ B hml hv
  obtain ⟨rfl, ⟨L, hP, hD, hSh⟩, hU⟩ := hv
  have hx := B.exec
  have hb := B.bytes
  have hr := B.returns
  have hG : ∀ w ∈ aw_G, w.before _ s = true := fun w h => atoms_spec (ws := ws_La_free1V) B.pre w (List.mem_cons_of_mem _ h)
  have htab : c.exceptionTable.toList = tableOf [((0 : Nat), (5 : Nat), (8 : Nat), (13 : Nat))] := vx_table (x := y_La_free) B (atoms_spec (ws := ws_La_free1V) B.pre _ List.mem_cons_self)
  have hown : s.vm.findClass "RuleCiphersLaw" = some m.cls := findClass_of_methodNamed B.named
  have hlocks := B.notSynchronized
  have hE := hU.1
  have hK := hE.1
  have hN := hE.2.1
  have hS : va_S (aw_Z N0) s.heap s.heap [] := va_S.rf
  have hl := lv_entry ([.ref (aw_r ad 0), .int (nI j)] : List Value) (n := 3) (Nat.le_of_ble_eq_true rfl)
  rw [lg_entry_eq]
  generalize (lg_sl ([.ref (aw_r ad 0), .int (nI j)] : List Value) ++ List.replicate (3 - (lg_sl ([.ref (aw_r ad 0), .int (nI j)] : List Value)).length) Slot.unset).toArray = ls at hl ⊢
  have hl : lv_has ls 3 [(0, .ref (aw_r ad 0)), (1, .int (nI j))] := hl
  refine lv_aload_n hx hb d_La_free_0 rfl (lv_at hl 0 rfl) ?_
  refine lv_iload_n hx hb d_La_free_1 rfl (lv_at hl 1 rfl) ?_
  have he1 := zr_R0 hSh
  refine va_callv (va_runV (As := [.int (nI j)]) (rest := []) ⟨hx, hb, hml, hown, hG⟩ (k_Ru_free1V l D g ad N0 zG zO zX zY zA zB zM zI zL zK zN zF zQ j hj) (aw_wV 1 hG gw_5_45 gw_5_42 gw_0_1 gw_5_43 gw_5_44 rfl rfl hd_Ru_free ⟨Nat.le_of_ble_eq_true rfl, Nat.le_of_ble_eq_true rfl⟩) (ag_qV (va_recv hK hP rfl he1) hP hD hSh hU hS) rfl rfl hl.1 rfl (lv_room (Nat.le_of_ble_eq_true rfl)) d_La_free_2 ⟨Nat.le_of_ble_eq_true rfl, Nat.le_of_ble_eq_true rfl⟩) hS (fun _ _ h => h) (fun _ h => h) ?_
  clear hP hD hSh hS he1
  intro u8 t8 H locs ht _ _ hB _ _ hS
  obtain ⟨L, hP, hD, hSh⟩ := hB
  rw [ht] at hP
  clear ht
  obtain ⟨zG2, ezG2⟩ : ∃ z : Nat → Nat × Nat, v_Ru_free1V_zG zG j = z := ⟨_, rfl⟩
  rw [ezG2] at hSh
  refine lv_goto (tgt := 11) hx hb d_La_free_5 (by decide) ?_
  refine lv_iconst (v := nI 0) hx hb d_La_free_11 (by decide +kernel) ?_
  refine W.widen (k := 1) (n := 6) (Nat.le_of_ble_eq_true rfl) (Nat.le_of_ble_eq_true rfl) ?_
  have gzG : zG2 = v_La_free1V_zG zG j := by subst ezG2; rfl
  have hSh : az_Sh g ad (v_La_free1V_zG zG j) zO zX zY zA zB zM zI zL zK zN zF zQ L := by rw [← gzG]; exact hSh
  exact W.iret hx hb hr (fun t ht hW => ⟨⟨_, (), rfl, rfl, ag_Hr ht hP hD hSh⟩, hS.F ht⟩) hS.2.2 d_La_free_12
abbrev ws_La_freeXcV : List Cond := Cond.codeWith y_La_free b_La_free 3 (some .int) [((0 : Nat), (5 : Nat), (8 : Nat), (13 : Nat))] :: aw_G
abbrev rm_La_freeXcV : Room := { frames := 8, cells := 1, slots := 6, locals := 132 }
set_option maxHeartbeats 4000000 in
set_option maxRecDepth 100000 in
theorem k_La_freeXcV (l : Launch) (hst : l.stackTraces = false) (D : va_G) (g : Nat → ClassId) (ad : Nat → Nat) (N0 : Nat) (zG : Nat → Nat × Nat) (zO : Nat → Nat) (zX : Nat → Nat → Int64) (zY : Nat → Nat → Int32) (zA : Nat → Nat → Nat → Int32) (zB : Nat → Int32) (zM : Nat → Nat × Nat) (zI : Nat → Nat → Int32) (zL : Nat → Nat → Int64) (zK : Int32) (zN : Nat) (zF : Int32) (zQ : Int64) (c0 : Int32) (hc : c0 < 0 ∨ (¬ c0 < 0 ∧ ¬ c0 < nI 4)) : Met l y_La_free ws_La_freeXcV rm_La_freeXcV (va_Pc ([.ref (aw_r ad 0), .int c0] : List Value) (ag_B D g N0 (az_Sh g ad zG zO zX zY zA zB zM zI zL zK zN zF zQ))) (va_Qi (fun r (_ : Unit) => r = nI 1) (fun (_ : Unit) t => ag_H D N0 (az_Sh g ad zG zO zX zY zA zB zM zI zL zK zN zF zQ) t.heap) (aw_Z N0)) 1 6 (aw_Z N0) := by
  refine va_MetW (cc := b_La_free) (maxL := 3) (ret := (some .int)) (hh := [((0 : Nat), (5 : Nat), (8 : Nat), (13 : Nat))]) (by decide) rfl ?_
  intro p e s m args below meth c s₁ B hml hv
  obtain ⟨rfl, ⟨L, hP, hD, hSh⟩, hU⟩ := hv
  have hx := B.exec
  have hb := B.bytes
  have hr := B.returns
  have hG : ∀ w ∈ aw_G, w.before _ s = true := fun w h => atoms_spec (ws := ws_La_freeXcV) B.pre w (List.mem_cons_of_mem _ h)
  have htab : c.exceptionTable.toList = tableOf [((0 : Nat), (5 : Nat), (8 : Nat), (13 : Nat))] := vx_table (x := y_La_free) B (atoms_spec (ws := ws_La_freeXcV) B.pre _ List.mem_cons_self)
  have hown : s.vm.findClass "RuleCiphersLaw" = some m.cls := findClass_of_methodNamed B.named
  have hlocks := B.notSynchronized
  have hE := hU.1
  have hK := hE.1
  have hN := hE.2.1
  have hS : va_S (aw_Z N0) s.heap s.heap [] := va_S.rf
  have hl := lv_entry ([.ref (aw_r ad 0), .int c0] : List Value) (n := 3) (Nat.le_of_ble_eq_true rfl)
  rw [lg_entry_eq]
  generalize (lg_sl ([.ref (aw_r ad 0), .int c0] : List Value) ++ List.replicate (3 - (lg_sl ([.ref (aw_r ad 0), .int c0] : List Value)).length) Slot.unset).toArray = ls at hl ⊢
  have hl : lv_has ls 3 [(0, .ref (aw_r ad 0)), (1, .int c0)] := hl
  refine lv_aload_n hx hb d_La_free_0 rfl (lv_at hl 0 rfl) ?_
  refine lv_iload_n hx hb d_La_free_1 rfl (lv_at hl 1 rfl) ?_
  have he1 := zr_R0 hSh
  refine vx_callv (vx_runV (As := [.int c0]) (rest := []) ⟨hx, hb, hml, hown, hG⟩ (k_Ru_freeXcV l hst D g ad N0 zG zO zX zY zA zB zM zI zL zK zN zF zQ c0 hc) (aw_wV 1 hG gw_5_45 gw_5_42 gw_0_1 gw_5_43 gw_5_44 rfl rfl hd_Ru_free ⟨Nat.le_of_ble_eq_true rfl, Nat.le_of_ble_eq_true rfl⟩) (ag_qV (va_recv hK hP rfl he1) hP hD hSh hU hS) rfl rfl hl.1 rfl (lv_room (Nat.le_of_ble_eq_true rfl)) d_La_free_2 ⟨Nat.le_of_ble_eq_true rfl, Nat.le_of_ble_eq_true rfl⟩) hS (fun _ _ h => h) (fun _ h => h) (fun _ _ h => h) (fun E ce q9 u t H locs ht _ _ hBX _ _ hS hce hcv hcl => ?_) (fun u t H locs _ _ hF _ _ _ _ => hF.elim)
  obtain ⟨rfl, L, hP, hD, hSh⟩ := hBX
  rw [ht] at hP
  refine vx_catch hown [] ⟨0, 5, 8, 13⟩ [] htab aw_ps0 (by decide) (by decide) (hG _ gw_2_38) (va_Nw.use rfl (hN _ nw_2)) hce hcv hcl ?_
  refine W.eq (g2 := F0 m 8 ls [.ref q9]) rfl ?_
  refine lv_astore_n hx hb d_La_free_8 rfl hl (by decide) rfl (fun ls hl => ?_)
  have hl : lv_has ls 3 [(2, .ref q9), (0, .ref (aw_r ad 0)), (1, .int c0)] := hl
  refine lv_iconst (v := nI 1) hx hb d_La_free_9 (by decide +kernel) ?_
  exact W.iret hx hb hr (fun t ht hW => ⟨⟨_, (), rfl, rfl, ag_Hr ht hP hD hSh⟩, hS.F ht⟩) hS.2.2 d_La_free_10
noncomputable def v_La_stage1V_zQ (zG : Nat → Nat × Nat) (j : Nat) : Int64 := (Int32.toInt64 (v_Ru_stage1V zG j))
abbrev ws_La_stage1V : List Cond := Cond.codeWith y_La_stage b_La_stage 4 (some .int) [((0 : Nat), (9 : Nat), (12 : Nat), (13 : Nat))] :: aw_G
abbrev rm_La_stage1V : Room := { frames := 2, cells := 1, slots := 6, locals := 42 }
set_option maxHeartbeats 4000000 in
set_option maxRecDepth 100000 in
theorem k_La_stage1V (l : Launch) (hst : l.stackTraces = false) (D : va_G) (g : Nat → ClassId) (ad : Nat → Nat) (N0 : Nat) (zG : Nat → Nat × Nat) (zO : Nat → Nat) (zX : Nat → Nat → Int64) (zY : Nat → Nat → Int32) (zA : Nat → Nat → Nat → Int32) (zB : Nat → Int32) (zM : Nat → Nat × Nat) (zI : Nat → Nat → Int32) (zL : Nat → Nat → Int64) (zK : Int32) (zN : Nat) (zF : Int32) (zQ : Int64) (j : Nat) (hj : j < 4) : Met l y_La_stage ws_La_stage1V rm_La_stage1V (va_Pc ([.ref (aw_r ad 0), .int (nI j), .ref (aw_o ad)] : List Value) (ag_B D g N0 (az_Sh g ad zG zO zX zY zA zB zM zI zL zK zN zF zQ))) (va_Qi (fun r (_ : Unit) => r = nI 0) (fun (_ : Unit) t => ag_H D N0 (az_Sh g ad zG zO zX zY zA zB zM zI zL zK zN zF (v_La_stage1V_zQ zG j)) t.heap) (aw_Z N0)) 1 6 (aw_Z N0) := by
  refine va_MetW (cc := b_La_stage) (maxL := 4) (ret := (some .int)) (hh := [((0 : Nat), (9 : Nat), (12 : Nat), (13 : Nat))]) (by decide) rfl ?_
  intro p e s m args below meth c s₁ B hml hv
  obtain ⟨rfl, ⟨L, hP, hD, hSh⟩, hU⟩ := hv
  have hx := B.exec
  have hb := B.bytes
  have hr := B.returns
  have hG : ∀ w ∈ aw_G, w.before _ s = true := fun w h => atoms_spec (ws := ws_La_stage1V) B.pre w (List.mem_cons_of_mem _ h)
  have htab : c.exceptionTable.toList = tableOf [((0 : Nat), (9 : Nat), (12 : Nat), (13 : Nat))] := vx_table (x := y_La_stage) B (atoms_spec (ws := ws_La_stage1V) B.pre _ List.mem_cons_self)
  have hown : s.vm.findClass "RuleCiphersLaw" = some m.cls := findClass_of_methodNamed B.named
  have hlocks := B.notSynchronized
  have hE := hU.1
  have hK := hE.1
  have hN := hE.2.1
  have hS : va_S (aw_Z N0) s.heap s.heap [] := va_S.rf
  have hl := lv_entry ([.ref (aw_r ad 0), .int (nI j), .ref (aw_o ad)] : List Value) (n := 4) (Nat.le_of_ble_eq_true rfl)
  rw [lg_entry_eq]
  generalize (lg_sl ([.ref (aw_r ad 0), .int (nI j), .ref (aw_o ad)] : List Value) ++ List.replicate (4 - (lg_sl ([.ref (aw_r ad 0), .int (nI j), .ref (aw_o ad)] : List Value)).length) Slot.unset).toArray = ls at hl ⊢
  have hl : lv_has ls 4 [(0, .ref (aw_r ad 0)), (1, .int (nI j)), (2, .ref (aw_o ad))] := hl
  refine lv_aload_n hx hb d_La_stage_0 rfl (lv_at hl 2 rfl) ?_
  refine lv_iconst (v := nI 0) hx hb d_La_stage_1 (by decide +kernel) ?_
  refine lv_aload_n hx hb d_La_stage_2 rfl (lv_at hl 0 rfl) ?_
  refine lv_iload_n hx hb d_La_stage_3 rfl (lv_at hl 1 rfl) ?_
  have he1 := zr_R0 hSh
  refine va_calli (va_runV (As := [.int (nI j)]) (rest := [.int (nI 0), .ref (aw_o ad)]) ⟨hx, hb, hml, hown, hG⟩ (k_Ru_stage1V l D g ad N0 zG zO zX zY zA zB zM zI zL zK zN zF zQ j hj) (aw_wV 1 hG gw_5_52 gw_5_49 gw_0_1 gw_5_50 gw_5_51 rfl rfl hd_Ru_stage ⟨Nat.le_of_ble_eq_true rfl, Nat.le_of_ble_eq_true rfl⟩) (ag_qV (va_recv hK hP rfl he1) hP hD hSh hU hS) rfl rfl hl.1 rfl (lv_room (Nat.le_of_ble_eq_true rfl)) d_La_stage_4 ⟨Nat.le_of_ble_eq_true rfl, Nat.le_of_ble_eq_true rfl⟩) hS (fun _ _ h => h) (fun _ h => h) ?_
  clear hP hD hSh hS he1
  intro x2 u8 t8 H locs ht _ ex2 hB _ _ hS
  obtain ⟨L, hP, hD, hSh⟩ := hB
  rw [ht] at hP
  clear ht
  have ex2 := ex2.symm
  refine lv_i2l hx hb d_La_stage_7 rfl ?_
  refine ag_topl (fun y3 ey3 => ?_)
  obtain ⟨f5, hc6, he4⟩ := zr_O0 hSh
  refine ag_lst hx hb hK hP hD hS 84 1 he4 rfl (k := 0) (by omega) (by decide) d_La_stage_8 (zw_Q hSh f5 y3) ?_
  clear hP hD hSh hS he4
  intro H locs L hP hD hSh hS
  obtain ⟨zQ7, ezQ7⟩ : ∃ z : Int64, y3 = z := ⟨_, rfl⟩
  rw [ezQ7] at hSh
  refine lv_goto (tgt := 15) hx hb d_La_stage_9 (by decide) ?_
  refine lv_iconst (v := nI 0) hx hb d_La_stage_15 (by decide +kernel) ?_
  refine W.widen (k := 1) (n := 6) (Nat.le_of_ble_eq_true rfl) (Nat.le_of_ble_eq_true rfl) ?_
  have gzQ : zQ7 = v_La_stage1V_zQ zG j := by subst ezQ7 ey3 ex2; rfl
  have hSh : az_Sh g ad zG zO zX zY zA zB zM zI zL zK zN zF (v_La_stage1V_zQ zG j) L := by rw [← gzQ]; exact hSh
  exact W.iret hx hb hr (fun t ht hW => ⟨⟨_, (), rfl, rfl, ag_Hr ht hP hD hSh⟩, hS.F ht⟩) hS.2.2 d_La_stage_16
abbrev ws_La_stageXcV : List Cond := Cond.codeWith y_La_stage b_La_stage 4 (some .int) [((0 : Nat), (9 : Nat), (12 : Nat), (13 : Nat))] :: aw_G
abbrev rm_La_stageXcV : Room := { frames := 8, cells := 1, slots := 6, locals := 132 }
set_option maxHeartbeats 4000000 in
set_option maxRecDepth 100000 in
theorem k_La_stageXcV (l : Launch) (hst : l.stackTraces = false) (D : va_G) (g : Nat → ClassId) (ad : Nat → Nat) (N0 : Nat) (zG : Nat → Nat × Nat) (zO : Nat → Nat) (zX : Nat → Nat → Int64) (zY : Nat → Nat → Int32) (zA : Nat → Nat → Nat → Int32) (zB : Nat → Int32) (zM : Nat → Nat × Nat) (zI : Nat → Nat → Int32) (zL : Nat → Nat → Int64) (zK : Int32) (zN : Nat) (zF : Int32) (zQ : Int64) (c0 : Int32) (hc : c0 < 0 ∨ (¬ c0 < 0 ∧ ¬ c0 < nI 4)) : Met l y_La_stage ws_La_stageXcV rm_La_stageXcV (va_Pc ([.ref (aw_r ad 0), .int c0, .ref (aw_o ad)] : List Value) (ag_B D g N0 (az_Sh g ad zG zO zX zY zA zB zM zI zL zK zN zF zQ))) (va_Qi (fun r (_ : Unit) => r = nI 1) (fun (_ : Unit) t => ag_H D N0 (az_Sh g ad zG zO zX zY zA zB zM zI zL zK zN zF zQ) t.heap) (aw_Z N0)) 1 6 (aw_Z N0) := by
  refine va_MetW (cc := b_La_stage) (maxL := 4) (ret := (some .int)) (hh := [((0 : Nat), (9 : Nat), (12 : Nat), (13 : Nat))]) (by decide) rfl ?_
  intro p e s m args below meth c s₁ B hml hv
  obtain ⟨rfl, ⟨L, hP, hD, hSh⟩, hU⟩ := hv
  have hx := B.exec
  have hb := B.bytes
  have hr := B.returns
  have hG : ∀ w ∈ aw_G, w.before _ s = true := fun w h => atoms_spec (ws := ws_La_stageXcV) B.pre w (List.mem_cons_of_mem _ h)
  have htab : c.exceptionTable.toList = tableOf [((0 : Nat), (9 : Nat), (12 : Nat), (13 : Nat))] := vx_table (x := y_La_stage) B (atoms_spec (ws := ws_La_stageXcV) B.pre _ List.mem_cons_self)
  have hown : s.vm.findClass "RuleCiphersLaw" = some m.cls := findClass_of_methodNamed B.named
  have hlocks := B.notSynchronized
  have hE := hU.1
  have hK := hE.1
  have hN := hE.2.1
  have hS : va_S (aw_Z N0) s.heap s.heap [] := va_S.rf
  have hl := lv_entry ([.ref (aw_r ad 0), .int c0, .ref (aw_o ad)] : List Value) (n := 4) (Nat.le_of_ble_eq_true rfl)
  rw [lg_entry_eq]
  generalize (lg_sl ([.ref (aw_r ad 0), .int c0, .ref (aw_o ad)] : List Value) ++ List.replicate (4 - (lg_sl ([.ref (aw_r ad 0), .int c0, .ref (aw_o ad)] : List Value)).length) Slot.unset).toArray = ls at hl ⊢
  have hl : lv_has ls 4 [(0, .ref (aw_r ad 0)), (1, .int c0), (2, .ref (aw_o ad))] := hl
  refine lv_aload_n hx hb d_La_stage_0 rfl (lv_at hl 2 rfl) ?_
  refine lv_iconst (v := nI 0) hx hb d_La_stage_1 (by decide +kernel) ?_
  refine lv_aload_n hx hb d_La_stage_2 rfl (lv_at hl 0 rfl) ?_
  refine lv_iload_n hx hb d_La_stage_3 rfl (lv_at hl 1 rfl) ?_
  have he1 := zr_R0 hSh
  refine vx_callv (vx_runV (As := [.int c0]) (rest := [.int (nI 0), .ref (aw_o ad)]) ⟨hx, hb, hml, hown, hG⟩ (k_Ru_stageXcV l hst D g ad N0 zG zO zX zY zA zB zM zI zL zK zN zF zQ c0 hc) (aw_wV 1 hG gw_5_52 gw_5_49 gw_0_1 gw_5_50 gw_5_51 rfl rfl hd_Ru_stage ⟨Nat.le_of_ble_eq_true rfl, Nat.le_of_ble_eq_true rfl⟩) (ag_qV (va_recv hK hP rfl he1) hP hD hSh hU hS) rfl rfl hl.1 rfl (lv_room (Nat.le_of_ble_eq_true rfl)) d_La_stage_4 ⟨Nat.le_of_ble_eq_true rfl, Nat.le_of_ble_eq_true rfl⟩) hS (fun _ _ h => h) (fun _ h => h) (fun _ _ h => h) (fun E ce q9 u t H locs ht _ _ hBX _ _ hS hce hcv hcl => ?_) (fun u t H locs _ _ hF _ _ _ _ => hF.elim)
  obtain ⟨rfl, L, hP, hD, hSh⟩ := hBX
  rw [ht] at hP
  refine vx_catch hown [] ⟨0, 9, 12, 13⟩ [] htab aw_ps0 (by decide) (by decide) (hG _ gw_2_38) (va_Nw.use rfl (hN _ nw_2)) hce hcv hcl ?_
  refine W.eq (g2 := F0 m 12 ls [.ref q9]) rfl ?_
  refine lv_astore_n hx hb d_La_stage_12 rfl hl (by decide) rfl (fun ls hl => ?_)
  have hl : lv_has ls 4 [(3, .ref q9), (0, .ref (aw_r ad 0)), (1, .int c0), (2, .ref (aw_o ad))] := hl
  refine lv_iconst (v := nI 1) hx hb d_La_stage_13 (by decide +kernel) ?_
  exact W.iret hx hb hr (fun t ht hW => ⟨⟨_, (), rfl, rfl, ag_Hr ht hP hD hSh⟩, hS.F ht⟩) hS.2.2 d_La_stage_14
noncomputable def v_La_put1V_zB (zB : Nat → Int32) (k : Nat) (b : Int32) : Nat → Int32 := v_Ru_put1V_zB zB k b
abbrev ws_La_put1V : List Cond := Cond.codeWith y_La_put b_La_put 4 (some .int) [((0 : Nat), (6 : Nat), (9 : Nat), (13 : Nat))] :: aw_G
abbrev rm_La_put1V : Room := { frames := 2, cells := 1, slots := 6, locals := 42 }
set_option maxHeartbeats 4000000 in
set_option maxRecDepth 100000 in
theorem k_La_put1V (l : Launch) (hst : l.stackTraces = false) (D : va_G) (g : Nat → ClassId) (ad : Nat → Nat) (N0 : Nat) (zG : Nat → Nat × Nat) (zO : Nat → Nat) (zX : Nat → Nat → Int64) (zY : Nat → Nat → Int32) (zA : Nat → Nat → Nat → Int32) (zB : Nat → Int32) (zM : Nat → Nat × Nat) (zI : Nat → Nat → Int32) (zL : Nat → Nat → Int64) (zK : Int32) (zN : Nat) (zF : Int32) (zQ : Int64) (k : Nat) (b : Int32) (hk : k < 64) : Met l y_La_put ws_La_put1V rm_La_put1V (va_Pc ([.ref (aw_r ad 0), .int (nI k), .int b] : List Value) (ag_B D g N0 (az_Sh g ad zG zO zX zY zA zB zM zI zL zK zN zF zQ))) (va_Qi (fun r (_ : Unit) => r = nI 0) (fun (_ : Unit) t => ag_H D N0 (az_Sh g ad zG zO zX zY zA (v_La_put1V_zB zB k b) zM zI zL zK zN zF zQ) t.heap) (aw_Z N0)) 1 6 (aw_Z N0) := by
  refine va_MetW (cc := b_La_put) (maxL := 4) (ret := (some .int)) (hh := [((0 : Nat), (6 : Nat), (9 : Nat), (13 : Nat))]) (by decide) rfl ?_
  intro p e s m args below meth c s₁ B hml hv
  obtain ⟨rfl, ⟨L, hP, hD, hSh⟩, hU⟩ := hv
  have hx := B.exec
  have hb := B.bytes
  have hr := B.returns
  have hG : ∀ w ∈ aw_G, w.before _ s = true := fun w h => atoms_spec (ws := ws_La_put1V) B.pre w (List.mem_cons_of_mem _ h)
  have htab : c.exceptionTable.toList = tableOf [((0 : Nat), (6 : Nat), (9 : Nat), (13 : Nat))] := vx_table (x := y_La_put) B (atoms_spec (ws := ws_La_put1V) B.pre _ List.mem_cons_self)
  have hown : s.vm.findClass "RuleCiphersLaw" = some m.cls := findClass_of_methodNamed B.named
  have hlocks := B.notSynchronized
  have hE := hU.1
  have hK := hE.1
  have hN := hE.2.1
  have hS : va_S (aw_Z N0) s.heap s.heap [] := va_S.rf
  have hl := lv_entry ([.ref (aw_r ad 0), .int (nI k), .int b] : List Value) (n := 4) (Nat.le_of_ble_eq_true rfl)
  rw [lg_entry_eq]
  generalize (lg_sl ([.ref (aw_r ad 0), .int (nI k), .int b] : List Value) ++ List.replicate (4 - (lg_sl ([.ref (aw_r ad 0), .int (nI k), .int b] : List Value)).length) Slot.unset).toArray = ls at hl ⊢
  have hl : lv_has ls 4 [(0, .ref (aw_r ad 0)), (1, .int (nI k)), (2, .int b)] := hl
  refine lv_aload_n hx hb d_La_put_0 rfl (lv_at hl 0 rfl) ?_
  refine lv_iload_n hx hb d_La_put_1 rfl (lv_at hl 1 rfl) ?_
  refine lv_iload_n hx hb d_La_put_2 rfl (lv_at hl 2 rfl) ?_
  have he1 := zr_R0 hSh
  refine va_callv (va_runV (As := [.int (nI k), .int b]) (rest := []) ⟨hx, hb, hml, hown, hG⟩ (k_Ru_put1V l D g ad N0 zG zO zX zY zA zB zM zI zL zK zN zF zQ k b hk) (aw_wV 2 hG gw_7_29 gw_7_26 gw_0_1 gw_7_27 gw_7_28 rfl rfl hd_Ru_put ⟨Nat.le_of_ble_eq_true rfl, Nat.le_of_ble_eq_true rfl⟩) (ag_qV (va_recv hK hP rfl he1) hP hD hSh hU hS) rfl rfl hl.1 rfl (lv_room (Nat.le_of_ble_eq_true rfl)) d_La_put_3 ⟨Nat.le_of_ble_eq_true rfl, Nat.le_of_ble_eq_true rfl⟩) hS (fun _ _ h => h) (fun _ h => h) ?_
  clear hP hD hSh hS he1
  intro u8 t8 H locs ht _ _ hB _ _ hS
  obtain ⟨L, hP, hD, hSh⟩ := hB
  rw [ht] at hP
  clear ht
  obtain ⟨zB2, ezB2⟩ : ∃ z : Nat → Int32, v_Ru_put1V_zB zB k b = z := ⟨_, rfl⟩
  rw [ezB2] at hSh
  refine lv_goto (tgt := 12) hx hb d_La_put_6 (by decide) ?_
  refine lv_iconst (v := nI 0) hx hb d_La_put_12 (by decide +kernel) ?_
  refine W.widen (k := 1) (n := 6) (Nat.le_of_ble_eq_true rfl) (Nat.le_of_ble_eq_true rfl) ?_
  have gzB : zB2 = v_La_put1V_zB zB k b := by subst ezB2; rfl
  have hSh : az_Sh g ad zG zO zX zY zA (v_La_put1V_zB zB k b) zM zI zL zK zN zF zQ L := by rw [← gzB]; exact hSh
  exact W.iret hx hb hr (fun t ht hW => ⟨⟨_, (), rfl, rfl, ag_Hr ht hP hD hSh⟩, hS.F ht⟩) hS.2.2 d_La_put_13
abbrev ws_La_putXV : List Cond := Cond.codeWith y_La_put b_La_put 4 (some .int) [((0 : Nat), (6 : Nat), (9 : Nat), (13 : Nat))] :: aw_G
abbrev rm_La_putXV : Room := { frames := 8, cells := 1, slots := 6, locals := 132 }
set_option maxHeartbeats 4000000 in
set_option maxRecDepth 100000 in
theorem k_La_putXV (l : Launch) (hst : l.stackTraces = false) (D : va_G) (g : Nat → ClassId) (ad : Nat → Nat) (N0 : Nat) (zG : Nat → Nat × Nat) (zO : Nat → Nat) (zX : Nat → Nat → Int64) (zY : Nat → Nat → Int32) (zA : Nat → Nat → Nat → Int32) (zB : Nat → Int32) (zM : Nat → Nat × Nat) (zI : Nat → Nat → Int32) (zL : Nat → Nat → Int64) (zK : Int32) (zN : Nat) (zF : Int32) (zQ : Int64) (p0 : Int32) (b : Int32) (hc : p0 < 0 ∨ (¬ p0 < 0 ∧ ¬ p0 < nI 64)) : Met l y_La_put ws_La_putXV rm_La_putXV (va_Pc ([.ref (aw_r ad 0), .int p0, .int b] : List Value) (ag_B D g N0 (az_Sh g ad zG zO zX zY zA zB zM zI zL zK zN zF zQ))) (va_Qi (fun r (_ : Unit) => r = nI 1) (fun (_ : Unit) t => ag_H D N0 (az_Sh g ad zG zO zX zY zA zB zM zI zL zK zN zF zQ) t.heap) (aw_Z N0)) 1 6 (aw_Z N0) := by
  refine va_MetW (cc := b_La_put) (maxL := 4) (ret := (some .int)) (hh := [((0 : Nat), (6 : Nat), (9 : Nat), (13 : Nat))]) (by decide) rfl ?_
  intro p e s m args below meth c s₁ B hml hv
  obtain ⟨rfl, ⟨L, hP, hD, hSh⟩, hU⟩ := hv
  have hx := B.exec
  have hb := B.bytes
  have hr := B.returns
  have hG : ∀ w ∈ aw_G, w.before _ s = true := fun w h => atoms_spec (ws := ws_La_putXV) B.pre w (List.mem_cons_of_mem _ h)
  have htab : c.exceptionTable.toList = tableOf [((0 : Nat), (6 : Nat), (9 : Nat), (13 : Nat))] := vx_table (x := y_La_put) B (atoms_spec (ws := ws_La_putXV) B.pre _ List.mem_cons_self)
  have hown : s.vm.findClass "RuleCiphersLaw" = some m.cls := findClass_of_methodNamed B.named
  have hlocks := B.notSynchronized
  have hE := hU.1
  have hK := hE.1
  have hN := hE.2.1
  have hS : va_S (aw_Z N0) s.heap s.heap [] := va_S.rf
  have hl := lv_entry ([.ref (aw_r ad 0), .int p0, .int b] : List Value) (n := 4) (Nat.le_of_ble_eq_true rfl)
  rw [lg_entry_eq]
  generalize (lg_sl ([.ref (aw_r ad 0), .int p0, .int b] : List Value) ++ List.replicate (4 - (lg_sl ([.ref (aw_r ad 0), .int p0, .int b] : List Value)).length) Slot.unset).toArray = ls at hl ⊢
  have hl : lv_has ls 4 [(0, .ref (aw_r ad 0)), (1, .int p0), (2, .int b)] := hl
  refine lv_aload_n hx hb d_La_put_0 rfl (lv_at hl 0 rfl) ?_
  refine lv_iload_n hx hb d_La_put_1 rfl (lv_at hl 1 rfl) ?_
  refine lv_iload_n hx hb d_La_put_2 rfl (lv_at hl 2 rfl) ?_
  have he1 := zr_R0 hSh
  refine vx_callv (vx_runV (As := [.int p0, .int b]) (rest := []) ⟨hx, hb, hml, hown, hG⟩ (k_Ru_putXV l hst D g ad N0 zG zO zX zY zA zB zM zI zL zK zN zF zQ p0 b hc) (aw_wV 2 hG gw_7_29 gw_7_26 gw_0_1 gw_7_27 gw_7_28 rfl rfl hd_Ru_put ⟨Nat.le_of_ble_eq_true rfl, Nat.le_of_ble_eq_true rfl⟩) (ag_qV (va_recv hK hP rfl he1) hP hD hSh hU hS) rfl rfl hl.1 rfl (lv_room (Nat.le_of_ble_eq_true rfl)) d_La_put_3 ⟨Nat.le_of_ble_eq_true rfl, Nat.le_of_ble_eq_true rfl⟩) hS (fun _ _ h => h) (fun _ h => h) (fun _ _ h => h) (fun E ce q9 u t H locs ht _ _ hBX _ _ hS hce hcv hcl => ?_) (fun u t H locs _ _ hF _ _ _ _ => hF.elim)
  obtain ⟨rfl, L, hP, hD, hSh⟩ := hBX
  rw [ht] at hP
  refine vx_catch hown [] ⟨0, 6, 9, 13⟩ [] htab aw_ps0 (by decide) (by decide) (hG _ gw_2_38) (va_Nw.use rfl (hN _ nw_2)) hce hcv hcl ?_
  refine W.eq (g2 := F0 m 9 ls [.ref q9]) rfl ?_
  refine lv_astore_n hx hb d_La_put_9 rfl hl (by decide) rfl (fun ls hl => ?_)
  have hl : lv_has ls 4 [(3, .ref q9), (0, .ref (aw_r ad 0)), (1, .int p0), (2, .int b)] := hl
  refine lv_iconst (v := nI 1) hx hb d_La_put_10 (by decide +kernel) ?_
  exact W.iret hx hb hr (fun t ht hW => ⟨⟨_, (), rfl, rfl, ag_Hr ht hP hD hSh⟩, hS.F ht⟩) hS.2.2 d_La_put_11
noncomputable def v_La_seek1V_zX (zX : Nat → Nat → Int64) (zY : Nat → Nat → Int32) (j : Nat) (b : Int64) : Nat → Nat → Int64 := v_Ru_seek1V_zX zX zY j b
noncomputable def v_La_seek1V_zY (zX : Nat → Nat → Int64) (zY : Nat → Nat → Int32) (j : Nat) (b : Int64) : Nat → Nat → Int32 := v_Ru_seek1V_zY zX zY j b
abbrev ws_La_seek1V : List Cond := Cond.codeWith y_La_seek b_La_seek 5 (some .int) [((0 : Nat), (6 : Nat), (9 : Nat), (13 : Nat)), ((0 : Nat), (6 : Nat), (13 : Nat), (17 : Nat))] :: aw_G
abbrev rm_La_seek1V : Room := { frames := 2, cells := 1, slots := 6, locals := 46 }
set_option maxHeartbeats 4000000 in
set_option maxRecDepth 100000 in
theorem k_La_seek1V (l : Launch) (hst : l.stackTraces = false) (D : va_G) (g : Nat → ClassId) (ad : Nat → Nat) (N0 : Nat) (zG : Nat → Nat × Nat) (zO : Nat → Nat) (zX : Nat → Nat → Int64) (zY : Nat → Nat → Int32) (zA : Nat → Nat → Nat → Int32) (zB : Nat → Int32) (zM : Nat → Nat × Nat) (zI : Nat → Nat → Int32) (zL : Nat → Nat → Int64) (zK : Int32) (zN : Nat) (zF : Int32) (zQ : Int64) (j : Nat) (b : Int64) (hj : j < 4) (hs : (zG j).1 = 3 ∧ (zG j).2 = 4) : Met l y_La_seek ws_La_seek1V rm_La_seek1V (va_Pc ([.ref (aw_r ad 0), .int (nI j), .long b] : List Value) (ag_B D g N0 (az_Sh g ad zG zO zX zY zA zB zM zI zL zK zN zF zQ))) (va_Qi (fun r (_ : Unit) => r = nI 0) (fun (_ : Unit) t => ag_H D N0 (az_Sh g ad zG zO (v_La_seek1V_zX zX zY j b) (v_La_seek1V_zY zX zY j b) zA zB zM zI zL zK zN zF zQ) t.heap) (aw_Z N0)) 1 6 (aw_Z N0) := by
  refine va_MetW (cc := b_La_seek) (maxL := 5) (ret := (some .int)) (hh := [((0 : Nat), (6 : Nat), (9 : Nat), (13 : Nat)), ((0 : Nat), (6 : Nat), (13 : Nat), (17 : Nat))]) (by decide) rfl ?_
  intro p e s m args below meth c s₁ B hml hv
  obtain ⟨rfl, ⟨L, hP, hD, hSh⟩, hU⟩ := hv
  have hx := B.exec
  have hb := B.bytes
  have hr := B.returns
  have hG : ∀ w ∈ aw_G, w.before _ s = true := fun w h => atoms_spec (ws := ws_La_seek1V) B.pre w (List.mem_cons_of_mem _ h)
  have htab : c.exceptionTable.toList = tableOf [((0 : Nat), (6 : Nat), (9 : Nat), (13 : Nat)), ((0 : Nat), (6 : Nat), (13 : Nat), (17 : Nat))] := vx_table (x := y_La_seek) B (atoms_spec (ws := ws_La_seek1V) B.pre _ List.mem_cons_self)
  have hown : s.vm.findClass "RuleCiphersLaw" = some m.cls := findClass_of_methodNamed B.named
  have hlocks := B.notSynchronized
  have hE := hU.1
  have hK := hE.1
  have hN := hE.2.1
  have hS : va_S (aw_Z N0) s.heap s.heap [] := va_S.rf
  have hl := lv_entry ([.ref (aw_r ad 0), .int (nI j), .long b] : List Value) (n := 5) (Nat.le_of_ble_eq_true rfl)
  rw [lg_entry_eq]
  generalize (lg_sl ([.ref (aw_r ad 0), .int (nI j), .long b] : List Value) ++ List.replicate (5 - (lg_sl ([.ref (aw_r ad 0), .int (nI j), .long b] : List Value)).length) Slot.unset).toArray = ls at hl ⊢
  have hl : lv_has ls 5 [(0, .ref (aw_r ad 0)), (1, .int (nI j)), (2, .long b)] := hl
  refine lv_aload_n hx hb d_La_seek_0 rfl (lv_at hl 0 rfl) ?_
  refine lv_iload_n hx hb d_La_seek_1 rfl (lv_at hl 1 rfl) ?_
  refine lv_lload_n hx hb d_La_seek_2 rfl (lv_at hl 2 rfl) ?_
  have he1 := zr_R0 hSh
  refine va_callv (va_runV (As := [.int (nI j), .long b]) (rest := []) ⟨hx, hb, hml, hown, hG⟩ (k_Ru_seek1V l D g ad N0 zG zO zX zY zA zB zM zI zL zK zN zF zQ j b hj hs) (aw_wV 2 hG gw_8_30 gw_8_27 gw_0_1 gw_8_28 gw_8_29 rfl rfl hd_Ru_seek ⟨Nat.le_of_ble_eq_true rfl, Nat.le_of_ble_eq_true rfl⟩) (ag_qV (va_recv hK hP rfl he1) hP hD hSh hU hS) rfl rfl hl.1 rfl (lv_room (Nat.le_of_ble_eq_true rfl)) d_La_seek_3 ⟨Nat.le_of_ble_eq_true rfl, Nat.le_of_ble_eq_true rfl⟩) hS (fun _ _ h => h) (fun _ h => h) ?_
  clear hP hD hSh hS he1
  intro u8 t8 H locs ht _ _ hB _ _ hS
  obtain ⟨L, hP, hD, hSh⟩ := hB
  rw [ht] at hP
  clear ht
  obtain ⟨zX2, ezX2⟩ : ∃ z : Nat → Nat → Int64, v_Ru_seek1V_zX zX zY j b = z := ⟨_, rfl⟩
  rw [ezX2] at hSh
  obtain ⟨zY3, ezY3⟩ : ∃ z : Nat → Nat → Int32, v_Ru_seek1V_zY zX zY j b = z := ⟨_, rfl⟩
  rw [ezY3] at hSh
  refine lv_goto (tgt := 17) hx hb d_La_seek_6 (by decide) ?_
  refine lv_iconst (v := nI 0) hx hb d_La_seek_17 (by decide +kernel) ?_
  refine W.widen (k := 1) (n := 6) (Nat.le_of_ble_eq_true rfl) (Nat.le_of_ble_eq_true rfl) ?_
  have gzX : zX2 = v_La_seek1V_zX zX zY j b := by subst ezY3 ezX2; rfl
  have gzY : zY3 = v_La_seek1V_zY zX zY j b := by subst ezY3 ezX2; rfl
  have hSh : az_Sh g ad zG zO (v_La_seek1V_zX zX zY j b) (v_La_seek1V_zY zX zY j b) zA zB zM zI zL zK zN zF zQ L := by rw [← gzX, ← gzY]; exact hSh
  exact W.iret hx hb hr (fun t ht hW => ⟨⟨_, (), rfl, rfl, ag_Hr ht hP hD hSh⟩, hS.F ht⟩) hS.2.2 d_La_seek_18
abbrev ws_La_seekXcV : List Cond := Cond.codeWith y_La_seek b_La_seek 5 (some .int) [((0 : Nat), (6 : Nat), (9 : Nat), (13 : Nat)), ((0 : Nat), (6 : Nat), (13 : Nat), (17 : Nat))] :: aw_G
abbrev rm_La_seekXcV : Room := { frames := 8, cells := 1, slots := 6, locals := 135 }
set_option maxHeartbeats 4000000 in
set_option maxRecDepth 100000 in
theorem k_La_seekXcV (l : Launch) (hst : l.stackTraces = false) (D : va_G) (g : Nat → ClassId) (ad : Nat → Nat) (N0 : Nat) (zG : Nat → Nat × Nat) (zO : Nat → Nat) (zX : Nat → Nat → Int64) (zY : Nat → Nat → Int32) (zA : Nat → Nat → Nat → Int32) (zB : Nat → Int32) (zM : Nat → Nat × Nat) (zI : Nat → Nat → Int32) (zL : Nat → Nat → Int64) (zK : Int32) (zN : Nat) (zF : Int32) (zQ : Int64) (c0 : Int32) (b : Int64) (hc : c0 < 0 ∨ (¬ c0 < 0 ∧ ¬ c0 < nI 4)) : Met l y_La_seek ws_La_seekXcV rm_La_seekXcV (va_Pc ([.ref (aw_r ad 0), .int c0, .long b] : List Value) (ag_B D g N0 (az_Sh g ad zG zO zX zY zA zB zM zI zL zK zN zF zQ))) (va_Qi (fun r (_ : Unit) => r = nI 1) (fun (_ : Unit) t => ag_H D N0 (az_Sh g ad zG zO zX zY zA zB zM zI zL zK zN zF zQ) t.heap) (aw_Z N0)) 1 6 (aw_Z N0) := by
  refine va_MetW (cc := b_La_seek) (maxL := 5) (ret := (some .int)) (hh := [((0 : Nat), (6 : Nat), (9 : Nat), (13 : Nat)), ((0 : Nat), (6 : Nat), (13 : Nat), (17 : Nat))]) (by decide) rfl ?_
  intro p e s m args below meth c s₁ B hml hv
  obtain ⟨rfl, ⟨L, hP, hD, hSh⟩, hU⟩ := hv
  have hx := B.exec
  have hb := B.bytes
  have hr := B.returns
  have hG : ∀ w ∈ aw_G, w.before _ s = true := fun w h => atoms_spec (ws := ws_La_seekXcV) B.pre w (List.mem_cons_of_mem _ h)
  have htab : c.exceptionTable.toList = tableOf [((0 : Nat), (6 : Nat), (9 : Nat), (13 : Nat)), ((0 : Nat), (6 : Nat), (13 : Nat), (17 : Nat))] := vx_table (x := y_La_seek) B (atoms_spec (ws := ws_La_seekXcV) B.pre _ List.mem_cons_self)
  have hown : s.vm.findClass "RuleCiphersLaw" = some m.cls := findClass_of_methodNamed B.named
  have hlocks := B.notSynchronized
  have hE := hU.1
  have hK := hE.1
  have hN := hE.2.1
  have hS : va_S (aw_Z N0) s.heap s.heap [] := va_S.rf
  have hl := lv_entry ([.ref (aw_r ad 0), .int c0, .long b] : List Value) (n := 5) (Nat.le_of_ble_eq_true rfl)
  rw [lg_entry_eq]
  generalize (lg_sl ([.ref (aw_r ad 0), .int c0, .long b] : List Value) ++ List.replicate (5 - (lg_sl ([.ref (aw_r ad 0), .int c0, .long b] : List Value)).length) Slot.unset).toArray = ls at hl ⊢
  have hl : lv_has ls 5 [(0, .ref (aw_r ad 0)), (1, .int c0), (2, .long b)] := hl
  refine lv_aload_n hx hb d_La_seek_0 rfl (lv_at hl 0 rfl) ?_
  refine lv_iload_n hx hb d_La_seek_1 rfl (lv_at hl 1 rfl) ?_
  refine lv_lload_n hx hb d_La_seek_2 rfl (lv_at hl 2 rfl) ?_
  have he1 := zr_R0 hSh
  refine vx_callv (vx_runV (As := [.int c0, .long b]) (rest := []) ⟨hx, hb, hml, hown, hG⟩ (k_Ru_seekXcV l hst D g ad N0 zG zO zX zY zA zB zM zI zL zK zN zF zQ c0 b hc) (aw_wV 2 hG gw_8_30 gw_8_27 gw_0_1 gw_8_28 gw_8_29 rfl rfl hd_Ru_seek ⟨Nat.le_of_ble_eq_true rfl, Nat.le_of_ble_eq_true rfl⟩) (ag_qV (va_recv hK hP rfl he1) hP hD hSh hU hS) rfl rfl hl.1 rfl (lv_room (Nat.le_of_ble_eq_true rfl)) d_La_seek_3 ⟨Nat.le_of_ble_eq_true rfl, Nat.le_of_ble_eq_true rfl⟩) hS (fun _ _ h => h) (fun _ h => h) (fun _ _ h => h) (fun E ce q9 u t H locs ht _ _ hBX _ _ hS hce hcv hcl => ?_) (fun u t H locs _ _ hF _ _ _ _ => hF.elim)
  obtain ⟨rfl, L, hP, hD, hSh⟩ := hBX
  rw [ht] at hP
  refine vx_catch hown [] ⟨0, 6, 9, 13⟩ [⟨0, 6, 13, 17⟩] htab aw_ps0 (by decide) (by decide) (hG _ gw_2_38) (va_Nw.use rfl (hN _ nw_2)) hce hcv hcl ?_
  refine W.eq (g2 := F0 m 9 ls [.ref q9]) rfl ?_
  refine lv_astore hx hb d_La_seek_9 hl (by decide) rfl (fun ls hl => ?_)
  have hl : lv_has ls 5 [(4, .ref q9), (0, .ref (aw_r ad 0)), (1, .int c0), (2, .long b)] := hl
  refine lv_iconst (v := nI 1) hx hb d_La_seek_11 (by decide +kernel) ?_
  exact W.iret hx hb hr (fun t ht hW => ⟨⟨_, (), rfl, rfl, ag_Hr ht hP hD hSh⟩, hS.F ht⟩) hS.2.2 d_La_seek_12
abbrev ws_La_seekXsV : List Cond := Cond.codeWith y_La_seek b_La_seek 5 (some .int) [((0 : Nat), (6 : Nat), (9 : Nat), (13 : Nat)), ((0 : Nat), (6 : Nat), (13 : Nat), (17 : Nat))] :: aw_G
abbrev rm_La_seekXsV : Room := { frames := 8, cells := 1, slots := 6, locals := 135 }
set_option maxHeartbeats 4000000 in
set_option maxRecDepth 100000 in
theorem k_La_seekXsV (l : Launch) (hst : l.stackTraces = false) (D : va_G) (g : Nat → ClassId) (ad : Nat → Nat) (N0 : Nat) (zG : Nat → Nat × Nat) (zO : Nat → Nat) (zX : Nat → Nat → Int64) (zY : Nat → Nat → Int32) (zA : Nat → Nat → Nat → Int32) (zB : Nat → Int32) (zM : Nat → Nat × Nat) (zI : Nat → Nat → Int32) (zL : Nat → Nat → Int64) (zK : Int32) (zN : Nat) (zF : Int32) (zQ : Int64) (j : Nat) (b : Int64) (hj : j < 4) (hs : (zG j).1 ≤ 2 ∨ ((zG j).1 = 3 ∧ (zG j).2 ≠ 4)) : Met l y_La_seek ws_La_seekXsV rm_La_seekXsV (va_Pc ([.ref (aw_r ad 0), .int (nI j), .long b] : List Value) (ag_B D g N0 (az_Sh g ad zG zO zX zY zA zB zM zI zL zK zN zF zQ))) (va_Qi (fun r (_ : Unit) => r = nI 2) (fun (_ : Unit) t => ag_H D N0 (az_Sh g ad zG zO zX zY zA zB zM zI zL zK zN zF zQ) t.heap) (aw_Z N0)) 1 6 (aw_Z N0) := by
  refine va_MetW (cc := b_La_seek) (maxL := 5) (ret := (some .int)) (hh := [((0 : Nat), (6 : Nat), (9 : Nat), (13 : Nat)), ((0 : Nat), (6 : Nat), (13 : Nat), (17 : Nat))]) (by decide) rfl ?_
  intro p e s m args below meth c s₁ B hml hv
  obtain ⟨rfl, ⟨L, hP, hD, hSh⟩, hU⟩ := hv
  have hx := B.exec
  have hb := B.bytes
  have hr := B.returns
  have hG : ∀ w ∈ aw_G, w.before _ s = true := fun w h => atoms_spec (ws := ws_La_seekXsV) B.pre w (List.mem_cons_of_mem _ h)
  have htab : c.exceptionTable.toList = tableOf [((0 : Nat), (6 : Nat), (9 : Nat), (13 : Nat)), ((0 : Nat), (6 : Nat), (13 : Nat), (17 : Nat))] := vx_table (x := y_La_seek) B (atoms_spec (ws := ws_La_seekXsV) B.pre _ List.mem_cons_self)
  have hown : s.vm.findClass "RuleCiphersLaw" = some m.cls := findClass_of_methodNamed B.named
  have hlocks := B.notSynchronized
  have hE := hU.1
  have hK := hE.1
  have hN := hE.2.1
  have hS : va_S (aw_Z N0) s.heap s.heap [] := va_S.rf
  have hl := lv_entry ([.ref (aw_r ad 0), .int (nI j), .long b] : List Value) (n := 5) (Nat.le_of_ble_eq_true rfl)
  rw [lg_entry_eq]
  generalize (lg_sl ([.ref (aw_r ad 0), .int (nI j), .long b] : List Value) ++ List.replicate (5 - (lg_sl ([.ref (aw_r ad 0), .int (nI j), .long b] : List Value)).length) Slot.unset).toArray = ls at hl ⊢
  have hl : lv_has ls 5 [(0, .ref (aw_r ad 0)), (1, .int (nI j)), (2, .long b)] := hl
  refine lv_aload_n hx hb d_La_seek_0 rfl (lv_at hl 0 rfl) ?_
  refine lv_iload_n hx hb d_La_seek_1 rfl (lv_at hl 1 rfl) ?_
  refine lv_lload_n hx hb d_La_seek_2 rfl (lv_at hl 2 rfl) ?_
  have he1 := zr_R0 hSh
  refine vx_callv (vx_runV (As := [.int (nI j), .long b]) (rest := []) ⟨hx, hb, hml, hown, hG⟩ (k_Ru_seekXsV l hst D g ad N0 zG zO zX zY zA zB zM zI zL zK zN zF zQ j b hj hs) (aw_wV 2 hG gw_8_30 gw_8_27 gw_0_1 gw_8_28 gw_8_29 rfl rfl hd_Ru_seek ⟨Nat.le_of_ble_eq_true rfl, Nat.le_of_ble_eq_true rfl⟩) (ag_qV (va_recv hK hP rfl he1) hP hD hSh hU hS) rfl rfl hl.1 rfl (lv_room (Nat.le_of_ble_eq_true rfl)) d_La_seek_3 ⟨Nat.le_of_ble_eq_true rfl, Nat.le_of_ble_eq_true rfl⟩) hS (fun _ _ h => h) (fun _ h => h) (fun _ _ h => h) (fun E ce q9 u t H locs ht _ _ hBX _ _ hS hce hcv hcl => ?_) (fun u t H locs _ _ hF _ _ _ _ => hF.elim)
  obtain ⟨rfl, L, hP, hD, hSh⟩ := hBX
  rw [ht] at hP
  refine vx_catch hown [⟨0, 6, 9, 13⟩] ⟨0, 6, 13, 17⟩ [] htab (aw_psc (Or.inr ⟨by decide, "java/lang/IndexOutOfBoundsException", hG _ gw_2_38, aw_nc_S_I hE⟩) aw_ps0) (by decide) (by decide) (hG _ gw_2_40) (va_Nw.use rfl (hN _ nw_10)) hce hcv hcl ?_
  refine W.eq (g2 := F0 m 13 ls [.ref q9]) rfl ?_
  refine lv_astore hx hb d_La_seek_13 hl (by decide) rfl (fun ls hl => ?_)
  have hl : lv_has ls 5 [(4, .ref q9), (0, .ref (aw_r ad 0)), (1, .int (nI j)), (2, .long b)] := hl
  refine lv_iconst (v := nI 2) hx hb d_La_seek_15 (by decide +kernel) ?_
  exact W.iret hx hb hr (fun t ht hW => ⟨⟨_, (), rfl, rfl, ag_Hr ht hP hD hSh⟩, hS.F ht⟩) hS.2.2 d_La_seek_16
