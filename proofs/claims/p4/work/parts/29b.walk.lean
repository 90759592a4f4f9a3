noncomputable def v_La_block1V_zQ (zO : Nat → Nat) (zA : Nat → Nat → Nat → Int32) (j : Nat) (bk : Int32) (b : Int64) : Int64 := v_Ru_block1V zO zA j bk b
abbrev ws_La_block1V : List Cond := Cond.codeWith y_La_block b_La_block 7 (some .int) [((0 : Nat), (11 : Nat), (14 : Nat), (13 : Nat)), ((0 : Nat), (11 : Nat), (18 : Nat), (17 : Nat))] :: aw_G
abbrev rm_La_block1V : Room := { frames := 5, cells := 1, slots := 6, locals := 127 }
set_option maxHeartbeats 4000000 in
set_option maxRecDepth 100000 in
theorem k_La_block1V (l : Launch) (hst : l.stackTraces = false) (D : va_G) (g : Nat → ClassId) (ad : Nat → Nat) (N0 : Nat) (zG : Nat → Nat × Nat) (zO : Nat → Nat) (zX : Nat → Nat → Int64) (zY : Nat → Nat → Int32) (zA : Nat → Nat → Nat → Int32) (zB : Nat → Int32) (zM : Nat → Nat × Nat) (zI : Nat → Nat → Int32) (zL : Nat → Nat → Int64) (zK : Int32) (zN : Nat) (zF : Int32) (zQ : Int64) (j : Nat) (bk : Int32) (b : Int64) (hj : j < 4) (hs : 2 ≤ (zG j).1) : Met l y_La_block ws_La_block1V rm_La_block1V (va_Pc ([.ref (aw_r ad 0), .int (nI j), .int bk, .long b, .ref (aw_o ad)] : List Value) (ag_B D g N0 (az_Sh g ad zG zO zX zY zA zB zM zI zL zK zN zF zQ))) (va_Qi (fun r (_ : Unit) => r = nI 0) (fun (_ : Unit) t => ag_H D N0 (az_Sh g ad zG zO zX zY zA zB zM zI zL zK zN zF (v_La_block1V_zQ zO zA j bk b)) t.heap) (aw_Z N0)) 1 6 (aw_Z N0) := by
  refine va_MetW (cc := b_La_block) (maxL := 7) (ret := (some .int)) (hh := [((0 : Nat), (11 : Nat), (14 : Nat), (13 : Nat)), ((0 : Nat), (11 : Nat), (18 : Nat), (17 : Nat))]) (by decide) rfl ?_
  intro p e s m args below meth c s₁ B hml hv
  obtain ⟨rfl, ⟨L, hP, hD, hSh⟩, hU⟩ := hv
  have hx := B.exec
  have hb := B.bytes
  have hr := B.returns
  have hG : ∀ w ∈ aw_G, w.before _ s = true := fun w h => atoms_spec (ws := ws_La_block1V) B.pre w (List.mem_cons_of_mem _ h)
  have htab : c.exceptionTable.toList = tableOf [((0 : Nat), (11 : Nat), (14 : Nat), (13 : Nat)), ((0 : Nat), (11 : Nat), (18 : Nat), (17 : Nat))] := vx_table (x := y_La_block) B (atoms_spec (ws := ws_La_block1V) B.pre _ List.mem_cons_self)
  have hown : s.vm.findClass "RuleCiphersLaw" = some m.cls := findClass_of_methodNamed B.named
  have hlocks := B.notSynchronized
  have hE := hU.1
  have hK := hE.1
  have hN := hE.2.1
  have hS : va_S (aw_Z N0) s.heap s.heap [] := va_S.rf
  have hl := lv_entry ([.ref (aw_r ad 0), .int (nI j), .int bk, .long b, .ref (aw_o ad)] : List Value) (n := 7) (Nat.le_of_ble_eq_true rfl)
  rw [lg_entry_eq]
  generalize (lg_sl ([.ref (aw_r ad 0), .int (nI j), .int bk, .long b, .ref (aw_o ad)] : List Value) ++ List.replicate (7 - (lg_sl ([.ref (aw_r ad 0), .int (nI j), .int bk, .long b, .ref (aw_o ad)] : List Value)).length) Slot.unset).toArray = ls at hl ⊢
  have hl : lv_has ls 7 [(0, .ref (aw_r ad 0)), (1, .int (nI j)), (2, .int bk), (3, .long b), (5, .ref (aw_o ad))] := hl
  refine lv_aload hx hb d_La_block_0 (lv_at hl 4 rfl) ?_
  refine lv_iconst (v := nI 0) hx hb d_La_block_2 (by decide +kernel) ?_
  refine lv_aload_n hx hb d_La_block_3 rfl (lv_at hl 0 rfl) ?_
  refine lv_iload_n hx hb d_La_block_4 rfl (lv_at hl 1 rfl) ?_
  refine lv_iload_n hx hb d_La_block_5 rfl (lv_at hl 2 rfl) ?_
  refine lv_lload_n hx hb d_La_block_6 rfl (lv_at hl 3 rfl) ?_
  have he1 := zr_R0 hSh
  refine va_calll (va_runV (As := [.int (nI j), .int bk, .long b]) (rest := [.int (nI 0), .ref (aw_o ad)]) ⟨hx, hb, hml, hown, hG⟩ (k_Ru_block1V l D g ad N0 zG zO zX zY zA zB zM zI zL zK zN zF zQ j bk b hj hs) (aw_wV 3 hG gw_5_59 gw_5_56 gw_0_1 gw_5_57 gw_5_58 rfl rfl hd_Ru_block ⟨Nat.le_of_ble_eq_true rfl, Nat.le_of_ble_eq_true rfl⟩) (ag_qV (va_recv hK hP rfl he1) hP hD hSh hU hS) rfl rfl hl.1 rfl (lv_room (Nat.le_of_ble_eq_true rfl)) d_La_block_7 ⟨Nat.le_of_ble_eq_true rfl, Nat.le_of_ble_eq_true rfl⟩) hS (fun _ _ h => h) (fun _ h => h) ?_
  clear hP hD hSh hS he1
  intro y2 u8 t8 H locs ht _ ey2 hB _ _ hS
  obtain ⟨L, hP, hD, hSh⟩ := hB
  rw [ht] at hP
  clear ht
  have ey2 := ey2.symm
  obtain ⟨f4, hc5, he3⟩ := zr_O0 hSh
  refine ag_lst hx hb hK hP hD hS 84 1 he3 rfl (k := 0) (by omega) (by decide) d_La_block_10 (zw_Q hSh f4 y2) ?_
  clear hP hD hSh hS he3
  intro H locs L hP hD hSh hS
  obtain ⟨zQ6, ezQ6⟩ : ∃ z : Int64, y2 = z := ⟨_, rfl⟩
  rw [ezQ6] at hSh
  refine lv_goto (tgt := 22) hx hb d_La_block_11 (by decide) ?_
  refine lv_iconst (v := nI 0) hx hb d_La_block_22 (by decide +kernel) ?_
  refine W.widen (k := 1) (n := 6) (Nat.le_of_ble_eq_true rfl) (Nat.le_of_ble_eq_true rfl) ?_
  have gzQ : zQ6 = v_La_block1V_zQ zO zA j bk b := by subst ezQ6 ey2; rfl
  have hSh : az_Sh g ad zG zO zX zY zA zB zM zI zL zK zN zF (v_La_block1V_zQ zO zA j bk b) L := by rw [← gzQ]; exact hSh
  exact W.iret hx hb hr (fun t ht hW => ⟨⟨_, (), rfl, rfl, ag_Hr ht hP hD hSh⟩, hS.F ht⟩) hS.2.2 d_La_block_23
abbrev ws_La_blockXcV : List Cond := Cond.codeWith y_La_block b_La_block 7 (some .int) [((0 : Nat), (11 : Nat), (14 : Nat), (13 : Nat)), ((0 : Nat), (11 : Nat), (18 : Nat), (17 : Nat))] :: aw_G
abbrev rm_La_blockXcV : Room := { frames := 8, cells := 1, slots := 6, locals := 136 }
set_option maxHeartbeats 4000000 in
set_option maxRecDepth 100000 in
theorem k_La_blockXcV (l : Launch) (hst : l.stackTraces = false) (D : va_G) (g : Nat → ClassId) (ad : Nat → Nat) (N0 : Nat) (zG : Nat → Nat × Nat) (zO : Nat → Nat) (zX : Nat → Nat → Int64) (zY : Nat → Nat → Int32) (zA : Nat → Nat → Nat → Int32) (zB : Nat → Int32) (zM : Nat → Nat × Nat) (zI : Nat → Nat → Int32) (zL : Nat → Nat → Int64) (zK : Int32) (zN : Nat) (zF : Int32) (zQ : Int64) (c0 : Int32) (bk : Int32) (b : Int64) (hc : c0 < 0 ∨ (¬ c0 < 0 ∧ ¬ c0 < nI 4)) : Met l y_La_block ws_La_blockXcV rm_La_blockXcV (va_Pc ([.ref (aw_r ad 0), .int c0, .int bk, .long b, .ref (aw_o ad)] : List Value) (ag_B D g N0 (az_Sh g ad zG zO zX zY zA zB zM zI zL zK zN zF zQ))) (va_Qi (fun r (_ : Unit) => r = nI 1) (fun (_ : Unit) t => ag_H D N0 (az_Sh g ad zG zO zX zY zA zB zM zI zL zK zN zF zQ) t.heap) (aw_Z N0)) 1 6 (aw_Z N0) := by
  refine va_MetW (cc := b_La_block) (maxL := 7) (ret := (some .int)) (hh := [((0 : Nat), (11 : Nat), (14 : Nat), (13 : Nat)), ((0 : Nat), (11 : Nat), (18 : Nat), (17 : Nat))]) (by decide) rfl ?_
  intro p e s m args below meth c s₁ B hml hv
  obtain ⟨rfl, ⟨L, hP, hD, hSh⟩, hU⟩ := hv
  have hx := B.exec
  have hb := B.bytes
  have hr := B.returns
  have hG : ∀ w ∈ aw_G, w.before _ s = true := fun w h => atoms_spec (ws := ws_La_blockXcV) B.pre w (List.mem_cons_of_mem _ h)
  have htab : c.exceptionTable.toList = tableOf [((0 : Nat), (11 : Nat), (14 : Nat), (13 : Nat)), ((0 : Nat), (11 : Nat), (18 : Nat), (17 : Nat))] := vx_table (x := y_La_block) B (atoms_spec (ws := ws_La_blockXcV) B.pre _ List.mem_cons_self)
  have hown : s.vm.findClass "RuleCiphersLaw" = some m.cls := findClass_of_methodNamed B.named
  have hlocks := B.notSynchronized
  have hE := hU.1
  have hK := hE.1
  have hN := hE.2.1
  have hS : va_S (aw_Z N0) s.heap s.heap [] := va_S.rf
  have hl := lv_entry ([.ref (aw_r ad 0), .int c0, .int bk, .long b, .ref (aw_o ad)] : List Value) (n := 7) (Nat.le_of_ble_eq_true rfl)
  rw [lg_entry_eq]
  generalize (lg_sl ([.ref (aw_r ad 0), .int c0, .int bk, .long b, .ref (aw_o ad)] : List Value) ++ List.replicate (7 - (lg_sl ([.ref (aw_r ad 0), .int c0, .int bk, .long b, .ref (aw_o ad)] : List Value)).length) Slot.unset).toArray = ls at hl ⊢
  have hl : lv_has ls 7 [(0, .ref (aw_r ad 0)), (1, .int c0), (2, .int bk), (3, .long b), (5, .ref (aw_o ad))] := hl
  refine lv_aload hx hb d_La_block_0 (lv_at hl 4 rfl) ?_
  refine lv_iconst (v := nI 0) hx hb d_La_block_2 (by decide +kernel) ?_
  refine lv_aload_n hx hb d_La_block_3 rfl (lv_at hl 0 rfl) ?_
  refine lv_iload_n hx hb d_La_block_4 rfl (lv_at hl 1 rfl) ?_
  refine lv_iload_n hx hb d_La_block_5 rfl (lv_at hl 2 rfl) ?_
  refine lv_lload_n hx hb d_La_block_6 rfl (lv_at hl 3 rfl) ?_
  have he1 := zr_R0 hSh
  refine vx_callv (vx_runV (As := [.int c0, .int bk, .long b]) (rest := [.int (nI 0), .ref (aw_o ad)]) ⟨hx, hb, hml, hown, hG⟩ (k_Ru_blockXcV l hst D g ad N0 zG zO zX zY zA zB zM zI zL zK zN zF zQ c0 bk b hc) (aw_wV 3 hG gw_5_59 gw_5_56 gw_0_1 gw_5_57 gw_5_58 rfl rfl hd_Ru_block ⟨Nat.le_of_ble_eq_true rfl, Nat.le_of_ble_eq_true rfl⟩) (ag_qV (va_recv hK hP rfl he1) hP hD hSh hU hS) rfl rfl hl.1 rfl (lv_room (Nat.le_of_ble_eq_true rfl)) d_La_block_7 ⟨Nat.le_of_ble_eq_true rfl, Nat.le_of_ble_eq_true rfl⟩) hS (fun _ _ h => h) (fun _ h => h) (fun _ _ h => h) (fun E ce q9 u t H locs ht _ _ hBX _ _ hS hce hcv hcl => ?_) (fun u t H locs _ _ hF _ _ _ _ => hF.elim)
  obtain ⟨rfl, L, hP, hD, hSh⟩ := hBX
  rw [ht] at hP
  refine vx_catch hown [] ⟨0, 11, 14, 13⟩ [⟨0, 11, 18, 17⟩] htab aw_ps0 (by decide) (by decide) (hG _ gw_2_38) (va_Nw.use rfl (hN _ nw_2)) hce hcv hcl ?_
  refine W.eq (g2 := F0 m 14 ls [.ref q9]) rfl ?_
  refine lv_astore hx hb d_La_block_14 hl (by decide) rfl (fun ls hl => ?_)
  have hl : lv_has ls 7 [(6, .ref q9), (0, .ref (aw_r ad 0)), (1, .int c0), (2, .int bk), (3, .long b), (5, .ref (aw_o ad))] := hl
  refine lv_iconst (v := nI 1) hx hb d_La_block_16 (by decide +kernel) ?_
  exact W.iret hx hb hr (fun t ht hW => ⟨⟨_, (), rfl, rfl, ag_Hr ht hP hD hSh⟩, hS.F ht⟩) hS.2.2 d_La_block_17
abbrev ws_La_blockXsV : List Cond := Cond.codeWith y_La_block b_La_block 7 (some .int) [((0 : Nat), (11 : Nat), (14 : Nat), (13 : Nat)), ((0 : Nat), (11 : Nat), (18 : Nat), (17 : Nat))] :: aw_G
abbrev rm_La_blockXsV : Room := { frames := 8, cells := 1, slots := 6, locals := 135 }
set_option maxHeartbeats 4000000 in
set_option maxRecDepth 100000 in
theorem k_La_blockXsV (l : Launch) (hst : l.stackTraces = false) (D : va_G) (g : Nat → ClassId) (ad : Nat → Nat) (N0 : Nat) (zG : Nat → Nat × Nat) (zO : Nat → Nat) (zX : Nat → Nat → Int64) (zY : Nat → Nat → Int32) (zA : Nat → Nat → Nat → Int32) (zB : Nat → Int32) (zM : Nat → Nat × Nat) (zI : Nat → Nat → Int32) (zL : Nat → Nat → Int64) (zK : Int32) (zN : Nat) (zF : Int32) (zQ : Int64) (j : Nat) (bk : Int32) (b : Int64) (hj : j < 4) (hs : (zG j).1 ≤ 1) : Met l y_La_block ws_La_blockXsV rm_La_blockXsV (va_Pc ([.ref (aw_r ad 0), .int (nI j), .int bk, .long b, .ref (aw_o ad)] : List Value) (ag_B D g N0 (az_Sh g ad zG zO zX zY zA zB zM zI zL zK zN zF zQ))) (va_Qi (fun r (_ : Unit) => r = nI 2) (fun (_ : Unit) t => ag_H D N0 (az_Sh g ad zG zO zX zY zA zB zM zI zL zK zN zF zQ) t.heap) (aw_Z N0)) 1 6 (aw_Z N0) := by
  refine va_MetW (cc := b_La_block) (maxL := 7) (ret := (some .int)) (hh := [((0 : Nat), (11 : Nat), (14 : Nat), (13 : Nat)), ((0 : Nat), (11 : Nat), (18 : Nat), (17 : Nat))]) (by decide) rfl ?_
  intro p e s m args below meth c s₁ B hml hv
  obtain ⟨rfl, ⟨L, hP, hD, hSh⟩, hU⟩ := hv
  have hx := B.exec
  have hb := B.bytes
  have hr := B.returns
  have hG : ∀ w ∈ aw_G, w.before _ s = true := fun w h => atoms_spec (ws := ws_La_blockXsV) B.pre w (List.mem_cons_of_mem _ h)
  have htab : c.exceptionTable.toList = tableOf [((0 : Nat), (11 : Nat), (14 : Nat), (13 : Nat)), ((0 : Nat), (11 : Nat), (18 : Nat), (17 : Nat))] := vx_table (x := y_La_block) B (atoms_spec (ws := ws_La_blockXsV) B.pre _ List.mem_cons_self)
  have hown : s.vm.findClass "RuleCiphersLaw" = some m.cls := findClass_of_methodNamed B.named
  have hlocks := B.notSynchronized
  have hE := hU.1
  have hK := hE.1
  have hN := hE.2.1
  have hS : va_S (aw_Z N0) s.heap s.heap [] := va_S.rf
  have hl := lv_entry ([.ref (aw_r ad 0), .int (nI j), .int bk, .long b, .ref (aw_o ad)] : List Value) (n := 7) (Nat.le_of_ble_eq_true rfl)
  rw [lg_entry_eq]
  generalize (lg_sl ([.ref (aw_r ad 0), .int (nI j), .int bk, .long b, .ref (aw_o ad)] : List Value) ++ List.replicate (7 - (lg_sl ([.ref (aw_r ad 0), .int (nI j), .int bk, .long b, .ref (aw_o ad)] : List Value)).length) Slot.unset).toArray = ls at hl ⊢
  have hl : lv_has ls 7 [(0, .ref (aw_r ad 0)), (1, .int (nI j)), (2, .int bk), (3, .long b), (5, .ref (aw_o ad))] := hl
  refine lv_aload hx hb d_La_block_0 (lv_at hl 4 rfl) ?_
  refine lv_iconst (v := nI 0) hx hb d_La_block_2 (by decide +kernel) ?_
  refine lv_aload_n hx hb d_La_block_3 rfl (lv_at hl 0 rfl) ?_
  refine lv_iload_n hx hb d_La_block_4 rfl (lv_at hl 1 rfl) ?_
  refine lv_iload_n hx hb d_La_block_5 rfl (lv_at hl 2 rfl) ?_
  refine lv_lload_n hx hb d_La_block_6 rfl (lv_at hl 3 rfl) ?_
  have he1 := zr_R0 hSh
  refine vx_callv (vx_runV (As := [.int (nI j), .int bk, .long b]) (rest := [.int (nI 0), .ref (aw_o ad)]) ⟨hx, hb, hml, hown, hG⟩ (k_Ru_blockXsV l hst D g ad N0 zG zO zX zY zA zB zM zI zL zK zN zF zQ j bk b hj hs) (aw_wV 3 hG gw_5_59 gw_5_56 gw_0_1 gw_5_57 gw_5_58 rfl rfl hd_Ru_block ⟨Nat.le_of_ble_eq_true rfl, Nat.le_of_ble_eq_true rfl⟩) (ag_qV (va_recv hK hP rfl he1) hP hD hSh hU hS) rfl rfl hl.1 rfl (lv_room (Nat.le_of_ble_eq_true rfl)) d_La_block_7 ⟨Nat.le_of_ble_eq_true rfl, Nat.le_of_ble_eq_true rfl⟩) hS (fun _ _ h => h) (fun _ h => h) (fun _ _ h => h) (fun E ce q9 u t H locs ht _ _ hBX _ _ hS hce hcv hcl => ?_) (fun u t H locs _ _ hF _ _ _ _ => hF.elim)
  obtain ⟨rfl, L, hP, hD, hSh⟩ := hBX
  rw [ht] at hP
  refine vx_catch hown [⟨0, 11, 14, 13⟩] ⟨0, 11, 18, 17⟩ [] htab (aw_psc (Or.inr ⟨by decide, "java/lang/IndexOutOfBoundsException", hG _ gw_2_38, aw_nc_S_I hE⟩) aw_ps0) (by decide) (by decide) (hG _ gw_2_40) (va_Nw.use rfl (hN _ nw_10)) hce hcv hcl ?_
  refine W.eq (g2 := F0 m 18 ls [.ref q9]) rfl ?_
  refine lv_astore hx hb d_La_block_18 hl (by decide) rfl (fun ls hl => ?_)
  have hl : lv_has ls 7 [(6, .ref q9), (0, .ref (aw_r ad 0)), (1, .int (nI j)), (2, .int bk), (3, .long b), (5, .ref (aw_o ad))] := hl
  refine lv_iconst (v := nI 2) hx hb d_La_block_20 (by decide +kernel) ?_
  exact W.iret hx hb hr (fun t ht hW => ⟨⟨_, (), rfl, rfl, ag_Hr ht hP hD hSh⟩, hS.F ht⟩) hS.2.2 d_La_block_21
noncomputable def v_La_word1V_zQ (zO : Nat → Nat) (zA : Nat → Nat → Nat → Int32) (j : Nat) (i : Int32) : Int64 := (Int32.toInt64 (v_Ru_word1V zO zA j i))
abbrev ws_La_word1V : List Cond := Cond.codeWith y_La_word b_La_word 5 (some .int) [((0 : Nat), (10 : Nat), (13 : Nat), (13 : Nat)), ((0 : Nat), (10 : Nat), (17 : Nat), (17 : Nat))] :: aw_G
abbrev rm_La_word1V : Room := { frames := 2, cells := 1, slots := 6, locals := 44 }
set_option maxHeartbeats 4000000 in
set_option maxRecDepth 100000 in
theorem k_La_word1V (l : Launch) (hst : l.stackTraces = false) (D : va_G) (g : Nat → ClassId) (ad : Nat → Nat) (N0 : Nat) (zG : Nat → Nat × Nat) (zO : Nat → Nat) (zX : Nat → Nat → Int64) (zY : Nat → Nat → Int32) (zA : Nat → Nat → Nat → Int32) (zB : Nat → Int32) (zM : Nat → Nat × Nat) (zI : Nat → Nat → Int32) (zL : Nat → Nat → Int64) (zK : Int32) (zN : Nat) (zF : Int32) (zQ : Int64) (j : Nat) (i : Int32) (hj : j < 4) (hs : 2 ≤ (zG j).1) : Met l y_La_word ws_La_word1V rm_La_word1V (va_Pc ([.ref (aw_r ad 0), .int (nI j), .int i, .ref (aw_o ad)] : List Value) (ag_B D g N0 (az_Sh g ad zG zO zX zY zA zB zM zI zL zK zN zF zQ))) (va_Qi (fun r (_ : Unit) => r = nI 0) (fun (_ : Unit) t => ag_H D N0 (az_Sh g ad zG zO zX zY zA zB zM zI zL zK zN zF (v_La_word1V_zQ zO zA j i)) t.heap) (aw_Z N0)) 1 6 (aw_Z N0) := by
  refine va_MetW (cc := b_La_word) (maxL := 5) (ret := (some .int)) (hh := [((0 : Nat), (10 : Nat), (13 : Nat), (13 : Nat)), ((0 : Nat), (10 : Nat), (17 : Nat), (17 : Nat))]) (by decide) rfl ?_
  intro p e s m args below meth c s₁ B hml hv
  obtain ⟨rfl, ⟨L, hP, hD, hSh⟩, hU⟩ := hv
  have hx := B.exec
  have hb := B.bytes
  have hr := B.returns
  have hG : ∀ w ∈ aw_G, w.before _ s = true := fun w h => atoms_spec (ws := ws_La_word1V) B.pre w (List.mem_cons_of_mem _ h)
  have htab : c.exceptionTable.toList = tableOf [((0 : Nat), (10 : Nat), (13 : Nat), (13 : Nat)), ((0 : Nat), (10 : Nat), (17 : Nat), (17 : Nat))] := vx_table (x := y_La_word) B (atoms_spec (ws := ws_La_word1V) B.pre _ List.mem_cons_self)
  have hown : s.vm.findClass "RuleCiphersLaw" = some m.cls := findClass_of_methodNamed B.named
  have hlocks := B.notSynchronized
  have hE := hU.1
  have hK := hE.1
  have hN := hE.2.1
  have hS : va_S (aw_Z N0) s.heap s.heap [] := va_S.rf
  have hl := lv_entry ([.ref (aw_r ad 0), .int (nI j), .int i, .ref (aw_o ad)] : List Value) (n := 5) (Nat.le_of_ble_eq_true rfl)
  rw [lg_entry_eq]
  generalize (lg_sl ([.ref (aw_r ad 0), .int (nI j), .int i, .ref (aw_o ad)] : List Value) ++ List.replicate (5 - (lg_sl ([.ref (aw_r ad 0), .int (nI j), .int i, .ref (aw_o ad)] : List Value)).length) Slot.unset).toArray = ls at hl ⊢
  have hl : lv_has ls 5 [(0, .ref (aw_r ad 0)), (1, .int (nI j)), (2, .int i), (3, .ref (aw_o ad))] := hl
  refine lv_aload_n hx hb d_La_word_0 rfl (lv_at hl 3 rfl) ?_
  refine lv_iconst (v := nI 0) hx hb d_La_word_1 (by decide +kernel) ?_
  refine lv_aload_n hx hb d_La_word_2 rfl (lv_at hl 0 rfl) ?_
  refine lv_iload_n hx hb d_La_word_3 rfl (lv_at hl 1 rfl) ?_
  refine lv_iload_n hx hb d_La_word_4 rfl (lv_at hl 2 rfl) ?_
  have he1 := zr_R0 hSh
  refine va_calli (va_runV (As := [.int (nI j), .int i]) (rest := [.int (nI 0), .ref (aw_o ad)]) ⟨hx, hb, hml, hown, hG⟩ (k_Ru_word1V l D g ad N0 zG zO zX zY zA zB zM zI zL zK zN zF zQ j i hj hs) (aw_wV 2 hG gw_7_13 gw_7_10 gw_0_1 gw_7_11 gw_7_12 rfl rfl hd_Ru_word ⟨Nat.le_of_ble_eq_true rfl, Nat.le_of_ble_eq_true rfl⟩) (ag_qV (va_recv hK hP rfl he1) hP hD hSh hU hS) rfl rfl hl.1 rfl (lv_room (Nat.le_of_ble_eq_true rfl)) d_La_word_5 ⟨Nat.le_of_ble_eq_true rfl, Nat.le_of_ble_eq_true rfl⟩) hS (fun _ _ h => h) (fun _ h => h) ?_
  clear hP hD hSh hS he1
  intro x2 u8 t8 H locs ht _ ex2 hB _ _ hS
  obtain ⟨L, hP, hD, hSh⟩ := hB
  rw [ht] at hP
  clear ht
  have ex2 := ex2.symm
  refine lv_i2l hx hb d_La_word_8 rfl ?_
  refine ag_topl (fun y3 ey3 => ?_)
  obtain ⟨f5, hc6, he4⟩ := zr_O0 hSh
  refine ag_lst hx hb hK hP hD hS 84 1 he4 rfl (k := 0) (by omega) (by decide) d_La_word_9 (zw_Q hSh f5 y3) ?_
  clear hP hD hSh hS he4
  intro H locs L hP hD hSh hS
  obtain ⟨zQ7, ezQ7⟩ : ∃ z : Int64, y3 = z := ⟨_, rfl⟩
  rw [ezQ7] at hSh
  refine lv_goto (tgt := 21) hx hb d_La_word_10 (by decide) ?_
  refine lv_iconst (v := nI 0) hx hb d_La_word_21 (by decide +kernel) ?_
  refine W.widen (k := 1) (n := 6) (Nat.le_of_ble_eq_true rfl) (Nat.le_of_ble_eq_true rfl) ?_
  have gzQ : zQ7 = v_La_word1V_zQ zO zA j i := by subst ezQ7 ey3 ex2; rfl
  have hSh : az_Sh g ad zG zO zX zY zA zB zM zI zL zK zN zF (v_La_word1V_zQ zO zA j i) L := by rw [← gzQ]; exact hSh
  exact W.iret hx hb hr (fun t ht hW => ⟨⟨_, (), rfl, rfl, ag_Hr ht hP hD hSh⟩, hS.F ht⟩) hS.2.2 d_La_word_22
abbrev ws_La_wordXcV : List Cond := Cond.codeWith y_La_word b_La_word 5 (some .int) [((0 : Nat), (10 : Nat), (13 : Nat), (13 : Nat)), ((0 : Nat), (10 : Nat), (17 : Nat), (17 : Nat))] :: aw_G
abbrev rm_La_wordXcV : Room := { frames := 8, cells := 1, slots := 6, locals := 134 }
set_option maxHeartbeats 4000000 in
set_option maxRecDepth 100000 in
theorem k_La_wordXcV (l : Launch) (hst : l.stackTraces = false) (D : va_G) (g : Nat → ClassId) (ad : Nat → Nat) (N0 : Nat) (zG : Nat → Nat × Nat) (zO : Nat → Nat) (zX : Nat → Nat → Int64) (zY : Nat → Nat → Int32) (zA : Nat → Nat → Nat → Int32) (zB : Nat → Int32) (zM : Nat → Nat × Nat) (zI : Nat → Nat → Int32) (zL : Nat → Nat → Int64) (zK : Int32) (zN : Nat) (zF : Int32) (zQ : Int64) (c0 : Int32) (i : Int32) (hc : c0 < 0 ∨ (¬ c0 < 0 ∧ ¬ c0 < nI 4)) : Met l y_La_word ws_La_wordXcV rm_La_wordXcV (va_Pc ([.ref (aw_r ad 0), .int c0, .int i, .ref (aw_o ad)] : List Value) (ag_B D g N0 (az_Sh g ad zG zO zX zY zA zB zM zI zL zK zN zF zQ))) (va_Qi (fun r (_ : Unit) => r = nI 1) (fun (_ : Unit) t => ag_H D N0 (az_Sh g ad zG zO zX zY zA zB zM zI zL zK zN zF zQ) t.heap) (aw_Z N0)) 1 6 (aw_Z N0) := by
  refine va_MetW (cc := b_La_word) (maxL := 5) (ret := (some .int)) (hh := [((0 : Nat), (10 : Nat), (13 : Nat), (13 : Nat)), ((0 : Nat), (10 : Nat), (17 : Nat), (17 : Nat))]) (by decide) rfl ?_
  intro p e s m args below meth c s₁ B hml hv
  obtain ⟨rfl, ⟨L, hP, hD, hSh⟩, hU⟩ := hv
  have hx := B.exec
  have hb := B.bytes
  have hr := B.returns
  have hG : ∀ w ∈ aw_G, w.before _ s = true := fun w h => atoms_spec (ws := ws_La_wordXcV) B.pre w (List.mem_cons_of_mem _ h)
  have htab : c.exceptionTable.toList = tableOf [((0 : Nat), (10 : Nat), (13 : Nat), (13 : Nat)), ((0 : Nat), (10 : Nat), (17 : Nat), (17 : Nat))] := vx_table (x := y_La_word) B (atoms_spec (ws := ws_La_wordXcV) B.pre _ List.mem_cons_self)
  have hown : s.vm.findClass "RuleCiphersLaw" = some m.cls := findClass_of_methodNamed B.named
  have hlocks := B.notSynchronized
  have hE := hU.1
  have hK := hE.1
  have hN := hE.2.1
  have hS : va_S (aw_Z N0) s.heap s.heap [] := va_S.rf
  have hl := lv_entry ([.ref (aw_r ad 0), .int c0, .int i, .ref (aw_o ad)] : List Value) (n := 5) (Nat.le_of_ble_eq_true rfl)
  rw [lg_entry_eq]
  generalize (lg_sl ([.ref (aw_r ad 0), .int c0, .int i, .ref (aw_o ad)] : List Value) ++ List.replicate (5 - (lg_sl ([.ref (aw_r ad 0), .int c0, .int i, .ref (aw_o ad)] : List Value)).length) Slot.unset).toArray = ls at hl ⊢
  have hl : lv_has ls 5 [(0, .ref (aw_r ad 0)), (1, .int c0), (2, .int i), (3, .ref (aw_o ad))] := hl
  refine lv_aload_n hx hb d_La_word_0 rfl (lv_at hl 3 rfl) ?_
  refine lv_iconst (v := nI 0) hx hb d_La_word_1 (by decide +kernel) ?_
  refine lv_aload_n hx hb d_La_word_2 rfl (lv_at hl 0 rfl) ?_
  refine lv_iload_n hx hb d_La_word_3 rfl (lv_at hl 1 rfl) ?_
  refine lv_iload_n hx hb d_La_word_4 rfl (lv_at hl 2 rfl) ?_
  have he1 := zr_R0 hSh
  refine vx_callv (vx_runV (As := [.int c0, .int i]) (rest := [.int (nI 0), .ref (aw_o ad)]) ⟨hx, hb, hml, hown, hG⟩ (k_Ru_wordXcV l hst D g ad N0 zG zO zX zY zA zB zM zI zL zK zN zF zQ c0 i hc) (aw_wV 2 hG gw_7_13 gw_7_10 gw_0_1 gw_7_11 gw_7_12 rfl rfl hd_Ru_word ⟨Nat.le_of_ble_eq_true rfl, Nat.le_of_ble_eq_true rfl⟩) (ag_qV (va_recv hK hP rfl he1) hP hD hSh hU hS) rfl rfl hl.1 rfl (lv_room (Nat.le_of_ble_eq_true rfl)) d_La_word_5 ⟨Nat.le_of_ble_eq_true rfl, Nat.le_of_ble_eq_true rfl⟩) hS (fun _ _ h => h) (fun _ h => h) (fun _ _ h => h) (fun E ce q9 u t H locs ht _ _ hBX _ _ hS hce hcv hcl => ?_) (fun u t H locs _ _ hF _ _ _ _ => hF.elim)
  obtain ⟨rfl, L, hP, hD, hSh⟩ := hBX
  rw [ht] at hP
  refine vx_catch hown [] ⟨0, 10, 13, 13⟩ [⟨0, 10, 17, 17⟩] htab aw_ps0 (by decide) (by decide) (hG _ gw_2_38) (va_Nw.use rfl (hN _ nw_2)) hce hcv hcl ?_
  refine W.eq (g2 := F0 m 13 ls [.ref q9]) rfl ?_
  refine lv_astore hx hb d_La_word_13 hl (by decide) rfl (fun ls hl => ?_)
  have hl : lv_has ls 5 [(4, .ref q9), (0, .ref (aw_r ad 0)), (1, .int c0), (2, .int i), (3, .ref (aw_o ad))] := hl
  refine lv_iconst (v := nI 1) hx hb d_La_word_15 (by decide +kernel) ?_
  exact W.iret hx hb hr (fun t ht hW => ⟨⟨_, (), rfl, rfl, ag_Hr ht hP hD hSh⟩, hS.F ht⟩) hS.2.2 d_La_word_16
abbrev ws_La_wordXsV : List Cond := Cond.codeWith y_La_word b_La_word 5 (some .int) [((0 : Nat), (10 : Nat), (13 : Nat), (13 : Nat)), ((0 : Nat), (10 : Nat), (17 : Nat), (17 : Nat))] :: aw_G
abbrev rm_La_wordXsV : Room := { frames := 8, cells := 1, slots := 6, locals := 133 }
set_option maxHeartbeats 4000000 in
set_option maxRecDepth 100000 in
theorem k_La_wordXsV (l : Launch) (hst : l.stackTraces = false) (D : va_G) (g : Nat → ClassId) (ad : Nat → Nat) (N0 : Nat) (zG : Nat → Nat × Nat) (zO : Nat → Nat) (zX : Nat → Nat → Int64) (zY : Nat → Nat → Int32) (zA : Nat → Nat → Nat → Int32) (zB : Nat → Int32) (zM : Nat → Nat × Nat) (zI : Nat → Nat → Int32) (zL : Nat → Nat → Int64) (zK : Int32) (zN : Nat) (zF : Int32) (zQ : Int64) (j : Nat) (i : Int32) (hj : j < 4) (hs : (zG j).1 ≤ 1) : Met l y_La_word ws_La_wordXsV rm_La_wordXsV (va_Pc ([.ref (aw_r ad 0), .int (nI j), .int i, .ref (aw_o ad)] : List Value) (ag_B D g N0 (az_Sh g ad zG zO zX zY zA zB zM zI zL zK zN zF zQ))) (va_Qi (fun r (_ : Unit) => r = nI 2) (fun (_ : Unit) t => ag_H D N0 (az_Sh g ad zG zO zX zY zA zB zM zI zL zK zN zF zQ) t.heap) (aw_Z N0)) 1 6 (aw_Z N0) := by
  refine va_MetW (cc := b_La_word) (maxL := 5) (ret := (some .int)) (hh := [((0 : Nat), (10 : Nat), (13 : Nat), (13 : Nat)), ((0 : Nat), (10 : Nat), (17 : Nat), (17 : Nat))]) (by decide) rfl ?_
  intro p e s m args below meth c s₁ B hml hv
  obtain ⟨rfl, ⟨L, hP, hD, hSh⟩, hU⟩ := hv
  have hx := B.exec
  have hb := B.bytes
  have hr := B.returns
  have hG : ∀ w ∈ aw_G, w.before _ s = true := fun w h => atoms_spec (ws := ws_La_wordXsV) B.pre w (List.mem_cons_of_mem _ h)
  have htab : c.exceptionTable.toList = tableOf [((0 : Nat), (10 : Nat), (13 : Nat), (13 : Nat)), ((0 : Nat), (10 : Nat), (17 : Nat), (17 : Nat))] := vx_table (x := y_La_word) B (atoms_spec (ws := ws_La_wordXsV) B.pre _ List.mem_cons_self)
  have hown : s.vm.findClass "RuleCiphersLaw" = some m.cls := findClass_of_methodNamed B.named
  have hlocks := B.notSynchronized
  have hE := hU.1
  have hK := hE.1
  have hN := hE.2.1
  have hS : va_S (aw_Z N0) s.heap s.heap [] := va_S.rf
  have hl := lv_entry ([.ref (aw_r ad 0), .int (nI j), .int i, .ref (aw_o ad)] : List Value) (n := 5) (Nat.le_of_ble_eq_true rfl)
  rw [lg_entry_eq]
  generalize (lg_sl ([.ref (aw_r ad 0), .int (nI j), .int i, .ref (aw_o ad)] : List Value) ++ List.replicate (5 - (lg_sl ([.ref (aw_r ad 0), .int (nI j), .int i, .ref (aw_o ad)] : List Value)).length) Slot.unset).toArray = ls at hl ⊢
  have hl : lv_has ls 5 [(0, .ref (aw_r ad 0)), (1, .int (nI j)), (2, .int i), (3, .ref (aw_o ad))] := hl
  refine lv_aload_n hx hb d_La_word_0 rfl (lv_at hl 3 rfl) ?_
  refine lv_iconst (v := nI 0) hx hb d_La_word_1 (by decide +kernel) ?_
  refine lv_aload_n hx hb d_La_word_2 rfl (lv_at hl 0 rfl) ?_
  refine lv_iload_n hx hb d_La_word_3 rfl (lv_at hl 1 rfl) ?_
  refine lv_iload_n hx hb d_La_word_4 rfl (lv_at hl 2 rfl) ?_
  have he1 := zr_R0 hSh
  refine vx_callv (vx_runV (As := [.int (nI j), .int i]) (rest := [.int (nI 0), .ref (aw_o ad)]) ⟨hx, hb, hml, hown, hG⟩ (k_Ru_wordXsV l hst D g ad N0 zG zO zX zY zA zB zM zI zL zK zN zF zQ j i hj hs) (aw_wV 2 hG gw_7_13 gw_7_10 gw_0_1 gw_7_11 gw_7_12 rfl rfl hd_Ru_word ⟨Nat.le_of_ble_eq_true rfl, Nat.le_of_ble_eq_true rfl⟩) (ag_qV (va_recv hK hP rfl he1) hP hD hSh hU hS) rfl rfl hl.1 rfl (lv_room (Nat.le_of_ble_eq_true rfl)) d_La_word_5 ⟨Nat.le_of_ble_eq_true rfl, Nat.le_of_ble_eq_true rfl⟩) hS (fun _ _ h => h) (fun _ h => h) (fun _ _ h => h) (fun E ce q9 u t H locs ht _ _ hBX _ _ hS hce hcv hcl => ?_) (fun u t H locs _ _ hF _ _ _ _ => hF.elim)
  obtain ⟨rfl, L, hP, hD, hSh⟩ := hBX
  rw [ht] at hP
  refine vx_catch hown [⟨0, 10, 13, 13⟩] ⟨0, 10, 17, 17⟩ [] htab (aw_psc (Or.inr ⟨by decide, "java/lang/IndexOutOfBoundsException", hG _ gw_2_38, aw_nc_S_I hE⟩) aw_ps0) (by decide) (by decide) (hG _ gw_2_40) (va_Nw.use rfl (hN _ nw_10)) hce hcv hcl ?_
  refine W.eq (g2 := F0 m 17 ls [.ref q9]) rfl ?_
  refine lv_astore hx hb d_La_word_17 hl (by decide) rfl (fun ls hl => ?_)
  have hl : lv_has ls 5 [(4, .ref q9), (0, .ref (aw_r ad 0)), (1, .int (nI j)), (2, .int i), (3, .ref (aw_o ad))] := hl
  refine lv_iconst (v := nI 2) hx hb d_La_word_19 (by decide +kernel) ?_
  exact W.iret hx hb hr (fun t ht hW => ⟨⟨_, (), rfl, rfl, ag_Hr ht hP hD hSh⟩, hS.F ht⟩) hS.2.2 d_La_word_20
noncomputable def v_La_get1V_zQ (zB : Nat → Int32) (k : Nat) : Int64 := (Int32.toInt64 (v_Ru_get1V zB k))
abbrev ws_La_get1V : List Cond := Cond.codeWith y_La_get b_La_get 4 (some .int) [((0 : Nat), (9 : Nat), (12 : Nat), (13 : Nat))] :: aw_G
abbrev rm_La_get1V : Room := { frames := 2, cells := 1, slots := 6, locals := 41 }
set_option maxHeartbeats 4000000 in
set_option maxRecDepth 100000 in
theorem k_La_get1V (l : Launch) (hst : l.stackTraces = false) (D : va_G) (g : Nat → ClassId) (ad : Nat → Nat) (N0 : Nat) (zG : Nat → Nat × Nat) (zO : Nat → Nat) (zX : Nat → Nat → Int64) (zY : Nat → Nat → Int32) (zA : Nat → Nat → Nat → Int32) (zB : Nat → Int32) (zM : Nat → Nat × Nat) (zI : Nat → Nat → Int32) (zL : Nat → Nat → Int64) (zK : Int32) (zN : Nat) (zF : Int32) (zQ : Int64) (k : Nat) (hk : k < 64) : Met l y_La_get ws_La_get1V rm_La_get1V (va_Pc ([.ref (aw_r ad 0), .int (nI k), .ref (aw_o ad)] : List Value) (ag_B D g N0 (az_Sh g ad zG zO zX zY zA zB zM zI zL zK zN zF zQ))) (va_Qi (fun r (_ : Unit) => r = nI 0) (fun (_ : Unit) t => ag_H D N0 (az_Sh g ad zG zO zX zY zA zB zM zI zL zK zN zF (v_La_get1V_zQ zB k)) t.heap) (aw_Z N0)) 1 6 (aw_Z N0) := by
  refine va_MetW (cc := b_La_get) (maxL := 4) (ret := (some .int)) (hh := [((0 : Nat), (9 : Nat), (12 : Nat), (13 : Nat))]) (by decide) rfl ?_
  intro p e s m args below meth c s₁ B hml hv
  obtain ⟨rfl, ⟨L, hP, hD, hSh⟩, hU⟩ := hv
  have hx := B.exec
  have hb := B.bytes
  have hr := B.returns
  have hG : ∀ w ∈ aw_G, w.before _ s = true := fun w h => atoms_spec (ws := ws_La_get1V) B.pre w (List.mem_cons_of_mem _ h)
  have htab : c.exceptionTable.toList = tableOf [((0 : Nat), (9 : Nat), (12 : Nat), (13 : Nat))] := vx_table (x := y_La_get) B (atoms_spec (ws := ws_La_get1V) B.pre _ List.mem_cons_self)
  have hown : s.vm.findClass "RuleCiphersLaw" = some m.cls := findClass_of_methodNamed B.named
  have hlocks := B.notSynchronized
  have hE := hU.1
  have hK := hE.1
  have hN := hE.2.1
  have hS : va_S (aw_Z N0) s.heap s.heap [] := va_S.rf
  have hl := lv_entry ([.ref (aw_r ad 0), .int (nI k), .ref (aw_o ad)] : List Value) (n := 4) (Nat.le_of_ble_eq_true rfl)
  rw [lg_entry_eq]
  generalize (lg_sl ([.ref (aw_r ad 0), .int (nI k), .ref (aw_o ad)] : List Value) ++ List.replicate (4 - (lg_sl ([.ref (aw_r ad 0), .int (nI k), .ref (aw_o ad)] : List Value)).length) Slot.unset).toArray = ls at hl ⊢
  have hl : lv_has ls 4 [(0, .ref (aw_r ad 0)), (1, .int (nI k)), (2, .ref (aw_o ad))] := hl
  refine lv_aload_n hx hb d_La_get_0 rfl (lv_at hl 2 rfl) ?_
  refine lv_iconst (v := nI 0) hx hb d_La_get_1 (by decide +kernel) ?_
  refine lv_aload_n hx hb d_La_get_2 rfl (lv_at hl 0 rfl) ?_
  refine lv_iload_n hx hb d_La_get_3 rfl (lv_at hl 1 rfl) ?_
  have he1 := zr_R0 hSh
  refine va_calli (va_runV (As := [.int (nI k)]) (rest := [.int (nI 0), .ref (aw_o ad)]) ⟨hx, hb, hml, hown, hG⟩ (k_Ru_get1V l D g ad N0 zG zO zX zY zA zB zM zI zL zK zN zF zQ k hk) (aw_wV 1 hG gw_7_39 gw_7_36 gw_0_1 gw_7_37 gw_7_38 rfl rfl hd_Ru_get ⟨Nat.le_of_ble_eq_true rfl, Nat.le_of_ble_eq_true rfl⟩) (ag_qV (va_recv hK hP rfl he1) hP hD hSh hU hS) rfl rfl hl.1 rfl (lv_room (Nat.le_of_ble_eq_true rfl)) d_La_get_4 ⟨Nat.le_of_ble_eq_true rfl, Nat.le_of_ble_eq_true rfl⟩) hS (fun _ _ h => h) (fun _ h => h) ?_
  clear hP hD hSh hS he1
  intro x2 u8 t8 H locs ht _ ex2 hB _ _ hS
  obtain ⟨L, hP, hD, hSh⟩ := hB
  rw [ht] at hP
  clear ht
  have ex2 := ex2.symm
  refine lv_i2l hx hb d_La_get_7 rfl ?_
  refine ag_topl (fun y3 ey3 => ?_)
  obtain ⟨f5, hc6, he4⟩ := zr_O0 hSh
  refine ag_lst hx hb hK hP hD hS 84 1 he4 rfl (k := 0) (by omega) (by decide) d_La_get_8 (zw_Q hSh f5 y3) ?_
  clear hP hD hSh hS he4
  intro H locs L hP hD hSh hS
  obtain ⟨zQ7, ezQ7⟩ : ∃ z : Int64, y3 = z := ⟨_, rfl⟩
  rw [ezQ7] at hSh
  refine lv_goto (tgt := 15) hx hb d_La_get_9 (by decide) ?_
  refine lv_iconst (v := nI 0) hx hb d_La_get_15 (by decide +kernel) ?_
  refine W.widen (k := 1) (n := 6) (Nat.le_of_ble_eq_true rfl) (Nat.le_of_ble_eq_true rfl) ?_
  have gzQ : zQ7 = v_La_get1V_zQ zB k := by subst ezQ7 ey3 ex2; rfl
  have hSh : az_Sh g ad zG zO zX zY zA zB zM zI zL zK zN zF (v_La_get1V_zQ zB k) L := by rw [← gzQ]; exact hSh
  exact W.iret hx hb hr (fun t ht hW => ⟨⟨_, (), rfl, rfl, ag_Hr ht hP hD hSh⟩, hS.F ht⟩) hS.2.2 d_La_get_16
abbrev ws_La_getXV : List Cond := Cond.codeWith y_La_get b_La_get 4 (some .int) [((0 : Nat), (9 : Nat), (12 : Nat), (13 : Nat))] :: aw_G
abbrev rm_La_getXV : Room := { frames := 8, cells := 1, slots := 6, locals := 131 }
set_option maxHeartbeats 4000000 in
set_option maxRecDepth 100000 in
theorem k_La_getXV (l : Launch) (hst : l.stackTraces = false) (D : va_G) (g : Nat → ClassId) (ad : Nat → Nat) (N0 : Nat) (zG : Nat → Nat × Nat) (zO : Nat → Nat) (zX : Nat → Nat → Int64) (zY : Nat → Nat → Int32) (zA : Nat → Nat → Nat → Int32) (zB : Nat → Int32) (zM : Nat → Nat × Nat) (zI : Nat → Nat → Int32) (zL : Nat → Nat → Int64) (zK : Int32) (zN : Nat) (zF : Int32) (zQ : Int64) (p0 : Int32) (hc : p0 < 0 ∨ (¬ p0 < 0 ∧ ¬ p0 < nI 64)) : Met l y_La_get ws_La_getXV rm_La_getXV (va_Pc ([.ref (aw_r ad 0), .int p0, .ref (aw_o ad)] : List Value) (ag_B D g N0 (az_Sh g ad zG zO zX zY zA zB zM zI zL zK zN zF zQ))) (va_Qi (fun r (_ : Unit) => r = nI 1) (fun (_ : Unit) t => ag_H D N0 (az_Sh g ad zG zO zX zY zA zB zM zI zL zK zN zF zQ) t.heap) (aw_Z N0)) 1 6 (aw_Z N0) := by
  refine va_MetW (cc := b_La_get) (maxL := 4) (ret := (some .int)) (hh := [((0 : Nat), (9 : Nat), (12 : Nat), (13 : Nat))]) (by decide) rfl ?_
  intro p e s m args below meth c s₁ B hml hv
  obtain ⟨rfl, ⟨L, hP, hD, hSh⟩, hU⟩ := hv
  have hx := B.exec
  have hb := B.bytes
  have hr := B.returns
  have hG : ∀ w ∈ aw_G, w.before _ s = true := fun w h => atoms_spec (ws := ws_La_getXV) B.pre w (List.mem_cons_of_mem _ h)
  have htab : c.exceptionTable.toList = tableOf [((0 : Nat), (9 : Nat), (12 : Nat), (13 : Nat))] := vx_table (x := y_La_get) B (atoms_spec (ws := ws_La_getXV) B.pre _ List.mem_cons_self)
  have hown : s.vm.findClass "RuleCiphersLaw" = some m.cls := findClass_of_methodNamed B.named
  have hlocks := B.notSynchronized
  have hE := hU.1
  have hK := hE.1
  have hN := hE.2.1
  have hS : va_S (aw_Z N0) s.heap s.heap [] := va_S.rf
  have hl := lv_entry ([.ref (aw_r ad 0), .int p0, .ref (aw_o ad)] : List Value) (n := 4) (Nat.le_of_ble_eq_true rfl)
  rw [lg_entry_eq]
  generalize (lg_sl ([.ref (aw_r ad 0), .int p0, .ref (aw_o ad)] : List Value) ++ List.replicate (4 - (lg_sl ([.ref (aw_r ad 0), .int p0, .ref (aw_o ad)] : List Value)).length) Slot.unset).toArray = ls at hl ⊢
  have hl : lv_has ls 4 [(0, .ref (aw_r ad 0)), (1, .int p0), (2, .ref (aw_o ad))] := hl
  refine lv_aload_n hx hb d_La_get_0 rfl (lv_at hl 2 rfl) ?_
  refine lv_iconst (v := nI 0) hx hb d_La_get_1 (by decide +kernel) ?_
  refine lv_aload_n hx hb d_La_get_2 rfl (lv_at hl 0 rfl) ?_
  refine lv_iload_n hx hb d_La_get_3 rfl (lv_at hl 1 rfl) ?_
  have he1 := zr_R0 hSh
  refine vx_callv (vx_runV (As := [.int p0]) (rest := [.int (nI 0), .ref (aw_o ad)]) ⟨hx, hb, hml, hown, hG⟩ (k_Ru_getXV l hst D g ad N0 zG zO zX zY zA zB zM zI zL zK zN zF zQ p0 hc) (aw_wV 1 hG gw_7_39 gw_7_36 gw_0_1 gw_7_37 gw_7_38 rfl rfl hd_Ru_get ⟨Nat.le_of_ble_eq_true rfl, Nat.le_of_ble_eq_true rfl⟩) (ag_qV (va_recv hK hP rfl he1) hP hD hSh hU hS) rfl rfl hl.1 rfl (lv_room (Nat.le_of_ble_eq_true rfl)) d_La_get_4 ⟨Nat.le_of_ble_eq_true rfl, Nat.le_of_ble_eq_true rfl⟩) hS (fun _ _ h => h) (fun _ h => h) (fun _ _ h => h) (fun E ce q9 u t H locs ht _ _ hBX _ _ hS hce hcv hcl => ?_) (fun u t H locs _ _ hF _ _ _ _ => hF.elim)
  obtain ⟨rfl, L, hP, hD, hSh⟩ := hBX
  rw [ht] at hP
  refine vx_catch hown [] ⟨0, 9, 12, 13⟩ [] htab aw_ps0 (by decide) (by decide) (hG _ gw_2_38) (va_Nw.use rfl (hN _ nw_2)) hce hcv hcl ?_
  refine W.eq (g2 := F0 m 12 ls [.ref q9]) rfl ?_
  refine lv_astore_n hx hb d_La_get_12 rfl hl (by decide) rfl (fun ls hl => ?_)
  have hl : lv_has ls 4 [(3, .ref q9), (0, .ref (aw_r ad 0)), (1, .int p0), (2, .ref (aw_o ad))] := hl
  refine lv_iconst (v := nI 1) hx hb d_La_get_13 (by decide +kernel) ?_
  exact W.iret hx hb hr (fun t ht hW => ⟨⟨_, (), rfl, rfl, ag_Hr ht hP hD hSh⟩, hS.F ht⟩) hS.2.2 d_La_get_14
abbrev ws_La_feedXcV : List Cond := Cond.codeWith y_La_feed b_La_feed 7 (some .int) [((0 : Nat), (14 : Nat), (17 : Nat), (13 : Nat)), ((0 : Nat), (14 : Nat), (21 : Nat), (17 : Nat)), ((0 : Nat), (14 : Nat), (25 : Nat), (15 : Nat))] :: aw_G
abbrev rm_La_feedXcV : Room := { frames := 8, cells := 1, slots := 6, locals := 136 }
set_option maxHeartbeats 4000000 in
set_option maxRecDepth 100000 in
theorem k_La_feedXcV (l : Launch) (hst : l.stackTraces = false) (D : va_G) (g : Nat → ClassId) (ad : Nat → Nat) (N0 : Nat) (zG : Nat → Nat × Nat) (zO : Nat → Nat) (zX : Nat → Nat → Int64) (zY : Nat → Nat → Int32) (zA : Nat → Nat → Nat → Int32) (zB : Nat → Int32) (zM : Nat → Nat × Nat) (zI : Nat → Nat → Int32) (zL : Nat → Nat → Int64) (zK : Int32) (zN : Nat) (zF : Int32) (zQ : Int64) (c0 : Int32) (bk : Int32) (fr : Int32) (m0 : Int32) (hc : c0 < 0 ∨ (¬ c0 < 0 ∧ ¬ c0 < nI 4)) : Met l y_La_feed ws_La_feedXcV rm_La_feedXcV (va_Pc ([.ref (aw_r ad 0), .int c0, .int bk, .int fr, .int m0, .ref (aw_o ad)] : List Value) (ag_B D g N0 (az_Sh g ad zG zO zX zY zA zB zM zI zL zK zN zF zQ))) (va_Qi (fun r (_ : Unit) => r = nI 1) (fun (_ : Unit) t => ag_H D N0 (az_Sh g ad zG zO zX zY zA zB zM zI zL zK zN zF zQ) t.heap) (aw_Z N0)) 1 6 (aw_Z N0) := by
  refine va_MetW (cc := b_La_feed) (maxL := 7) (ret := (some .int)) (hh := [((0 : Nat), (14 : Nat), (17 : Nat), (13 : Nat)), ((0 : Nat), (14 : Nat), (21 : Nat), (17 : Nat)), ((0 : Nat), (14 : Nat), (25 : Nat), (15 : Nat))]) (by decide) rfl ?_
  intro p e s m args below meth c s₁ B hml hv
  obtain ⟨rfl, ⟨L, hP, hD, hSh⟩, hU⟩ := hv
  have hx := B.exec
  have hb := B.bytes
  have hr := B.returns
  have hG : ∀ w ∈ aw_G, w.before _ s = true := fun w h => atoms_spec (ws := ws_La_feedXcV) B.pre w (List.mem_cons_of_mem _ h)
  have htab : c.exceptionTable.toList = tableOf [((0 : Nat), (14 : Nat), (17 : Nat), (13 : Nat)), ((0 : Nat), (14 : Nat), (21 : Nat), (17 : Nat)), ((0 : Nat), (14 : Nat), (25 : Nat), (15 : Nat))] := vx_table (x := y_La_feed) B (atoms_spec (ws := ws_La_feedXcV) B.pre _ List.mem_cons_self)
  have hown : s.vm.findClass "RuleCiphersLaw" = some m.cls := findClass_of_methodNamed B.named
  have hlocks := B.notSynchronized
  have hE := hU.1
  have hK := hE.1
  have hN := hE.2.1
  have hS : va_S (aw_Z N0) s.heap s.heap [] := va_S.rf
  have hl := lv_entry ([.ref (aw_r ad 0), .int c0, .int bk, .int fr, .int m0, .ref (aw_o ad)] : List Value) (n := 7) (Nat.le_of_ble_eq_true rfl)
  rw [lg_entry_eq]
  generalize (lg_sl ([.ref (aw_r ad 0), .int c0, .int bk, .int fr, .int m0, .ref (aw_o ad)] : List Value) ++ List.replicate (7 - (lg_sl ([.ref (aw_r ad 0), .int c0, .int bk, .int fr, .int m0, .ref (aw_o ad)] : List Value)).length) Slot.unset).toArray = ls at hl ⊢
  have hl : lv_has ls 7 [(0, .ref (aw_r ad 0)), (1, .int c0), (2, .int bk), (3, .int fr), (4, .int m0), (5, .ref (aw_o ad))] := hl
  refine lv_aload hx hb d_La_feed_0 (lv_at hl 5 rfl) ?_
  refine lv_iconst (v := nI 0) hx hb d_La_feed_2 (by decide +kernel) ?_
  refine lv_aload_n hx hb d_La_feed_3 rfl (lv_at hl 0 rfl) ?_
  refine lv_iload_n hx hb d_La_feed_4 rfl (lv_at hl 1 rfl) ?_
  refine lv_iload_n hx hb d_La_feed_5 rfl (lv_at hl 2 rfl) ?_
  refine lv_iload_n hx hb d_La_feed_6 rfl (lv_at hl 3 rfl) ?_
  refine lv_iload hx hb d_La_feed_7 (lv_at hl 4 rfl) ?_
  have he1 := zr_R0 hSh
  refine vx_callv (vx_runV (As := [.int c0, .int bk, .int fr, .int m0]) (rest := [.int (nI 0), .ref (aw_o ad)]) ⟨hx, hb, hml, hown, hG⟩ (k_Ru_feedXcV l hst D g ad N0 zG zO zX zY zA zB zM zI zL zK zN zF zQ c0 bk fr m0 hc) (aw_wV 4 hG gw_7_46 gw_7_43 gw_0_1 gw_7_44 gw_7_45 rfl rfl hd_Ru_feed ⟨Nat.le_of_ble_eq_true rfl, Nat.le_of_ble_eq_true rfl⟩) (ag_qV (va_recv hK hP rfl he1) hP hD hSh hU hS) rfl rfl hl.1 rfl (lv_room (Nat.le_of_ble_eq_true rfl)) d_La_feed_9 ⟨Nat.le_of_ble_eq_true rfl, Nat.le_of_ble_eq_true rfl⟩) hS (fun _ _ h => h) (fun _ h => h) (fun _ _ h => h) (fun E ce q9 u t H locs ht _ _ hBX _ _ hS hce hcv hcl => ?_) (fun u t H locs _ _ hF _ _ _ _ => hF.elim)
  obtain ⟨rfl, L, hP, hD, hSh⟩ := hBX
  rw [ht] at hP
  refine vx_catch hown [] ⟨0, 14, 17, 13⟩ [⟨0, 14, 21, 17⟩, ⟨0, 14, 25, 15⟩] htab aw_ps0 (by decide) (by decide) (hG _ gw_2_38) (va_Nw.use rfl (hN _ nw_2)) hce hcv hcl ?_
  refine W.eq (g2 := F0 m 17 ls [.ref q9]) rfl ?_
  refine lv_astore hx hb d_La_feed_17 hl (by decide) rfl (fun ls hl => ?_)
  have hl : lv_has ls 7 [(6, .ref q9), (0, .ref (aw_r ad 0)), (1, .int c0), (2, .int bk), (3, .int fr), (4, .int m0), (5, .ref (aw_o ad))] := hl
  refine lv_iconst (v := nI 1) hx hb d_La_feed_19 (by decide +kernel) ?_
  exact W.iret hx hb hr (fun t ht hW => ⟨⟨_, (), rfl, rfl, ag_Hr ht hP hD hSh⟩, hS.F ht⟩) hS.2.2 d_La_feed_20
abbrev ws_La_feedXbV : List Cond := Cond.codeWith y_La_feed b_La_feed 7 (some .int) [((0 : Nat), (14 : Nat), (17 : Nat), (13 : Nat)), ((0 : Nat), (14 : Nat), (21 : Nat), (17 : Nat)), ((0 : Nat), (14 : Nat), (25 : Nat), (15 : Nat))] :: aw_G
abbrev rm_La_feedXbV : Room := { frames := 8, cells := 1, slots := 6, locals := 137 }
set_option maxHeartbeats 4000000 in
set_option maxRecDepth 100000 in
theorem k_La_feedXbV (l : Launch) (hst : l.stackTraces = false) (D : va_G) (g : Nat → ClassId) (ad : Nat → Nat) (N0 : Nat) (zG : Nat → Nat × Nat) (zO : Nat → Nat) (zX : Nat → Nat → Int64) (zY : Nat → Nat → Int32) (zA : Nat → Nat → Nat → Int32) (zB : Nat → Int32) (zM : Nat → Nat × Nat) (zI : Nat → Nat → Int32) (zL : Nat → Nat → Int64) (zK : Int32) (zN : Nat) (zF : Int32) (zQ : Int64) (j : Nat) (bk : Int32) (fr : Int32) (m0 : Int32) (hj : j < 4) (hi : m0 < 0 ∨ (0 < m0 ∧ fr < 0) ∨ (0 < m0 ∧ ¬ fr < 0 ∧ nI 64 - fr < m0)) : Met l y_La_feed ws_La_feedXbV rm_La_feedXbV (va_Pc ([.ref (aw_r ad 0), .int (nI j), .int bk, .int fr, .int m0, .ref (aw_o ad)] : List Value) (ag_B D g N0 (az_Sh g ad zG zO zX zY zA zB zM zI zL zK zN zF zQ))) (va_Qi (fun r (_ : Unit) => r = nI 1) (fun (_ : Unit) t => ag_H D N0 (az_Sh g ad zG zO zX zY zA zB zM zI zL zK zN zF zQ) t.heap) (aw_Z N0)) 1 6 (aw_Z N0) := by
  refine va_MetW (cc := b_La_feed) (maxL := 7) (ret := (some .int)) (hh := [((0 : Nat), (14 : Nat), (17 : Nat), (13 : Nat)), ((0 : Nat), (14 : Nat), (21 : Nat), (17 : Nat)), ((0 : Nat), (14 : Nat), (25 : Nat), (15 : Nat))]) (by decide) rfl ?_
  intro p e s m args below meth c s₁ B hml hv
  obtain ⟨rfl, ⟨L, hP, hD, hSh⟩, hU⟩ := hv
  have hx := B.exec
  have hb := B.bytes
  have hr := B.returns
  have hG : ∀ w ∈ aw_G, w.before _ s = true := fun w h => atoms_spec (ws := ws_La_feedXbV) B.pre w (List.mem_cons_of_mem _ h)
  have htab : c.exceptionTable.toList = tableOf [((0 : Nat), (14 : Nat), (17 : Nat), (13 : Nat)), ((0 : Nat), (14 : Nat), (21 : Nat), (17 : Nat)), ((0 : Nat), (14 : Nat), (25 : Nat), (15 : Nat))] := vx_table (x := y_La_feed) B (atoms_spec (ws := ws_La_feedXbV) B.pre _ List.mem_cons_self)
  have hown : s.vm.findClass "RuleCiphersLaw" = some m.cls := findClass_of_methodNamed B.named
  have hlocks := B.notSynchronized
  have hE := hU.1
  have hK := hE.1
  have hN := hE.2.1
  have hS : va_S (aw_Z N0) s.heap s.heap [] := va_S.rf
  have hl := lv_entry ([.ref (aw_r ad 0), .int (nI j), .int bk, .int fr, .int m0, .ref (aw_o ad)] : List Value) (n := 7) (Nat.le_of_ble_eq_true rfl)
  rw [lg_entry_eq]
  generalize (lg_sl ([.ref (aw_r ad 0), .int (nI j), .int bk, .int fr, .int m0, .ref (aw_o ad)] : List Value) ++ List.replicate (7 - (lg_sl ([.ref (aw_r ad 0), .int (nI j), .int bk, .int fr, .int m0, .ref (aw_o ad)] : List Value)).length) Slot.unset).toArray = ls at hl ⊢
  have hl : lv_has ls 7 [(0, .ref (aw_r ad 0)), (1, .int (nI j)), (2, .int bk), (3, .int fr), (4, .int m0), (5, .ref (aw_o ad))] := hl
  refine lv_aload hx hb d_La_feed_0 (lv_at hl 5 rfl) ?_
  refine lv_iconst (v := nI 0) hx hb d_La_feed_2 (by decide +kernel) ?_
  refine lv_aload_n hx hb d_La_feed_3 rfl (lv_at hl 0 rfl) ?_
  refine lv_iload_n hx hb d_La_feed_4 rfl (lv_at hl 1 rfl) ?_
  refine lv_iload_n hx hb d_La_feed_5 rfl (lv_at hl 2 rfl) ?_
  refine lv_iload_n hx hb d_La_feed_6 rfl (lv_at hl 3 rfl) ?_
  refine lv_iload hx hb d_La_feed_7 (lv_at hl 4 rfl) ?_
  have he1 := zr_R0 hSh
  refine vx_callv (vx_runV (As := [.int (nI j), .int bk, .int fr, .int m0]) (rest := [.int (nI 0), .ref (aw_o ad)]) ⟨hx, hb, hml, hown, hG⟩ (k_Ru_feedXbV l hst D g ad N0 zG zO zX zY zA zB zM zI zL zK zN zF zQ j bk fr m0 hj hi) (aw_wV 4 hG gw_7_46 gw_7_43 gw_0_1 gw_7_44 gw_7_45 rfl rfl hd_Ru_feed ⟨Nat.le_of_ble_eq_true rfl, Nat.le_of_ble_eq_true rfl⟩) (ag_qV (va_recv hK hP rfl he1) hP hD hSh hU hS) rfl rfl hl.1 rfl (lv_room (Nat.le_of_ble_eq_true rfl)) d_La_feed_9 ⟨Nat.le_of_ble_eq_true rfl, Nat.le_of_ble_eq_true rfl⟩) hS (fun _ _ h => h) (fun _ h => h) (fun _ _ h => h) (fun E ce q9 u t H locs ht _ _ hBX _ _ hS hce hcv hcl => ?_) (fun u t H locs _ _ hF _ _ _ _ => hF.elim)
  obtain ⟨rfl, L, hP, hD, hSh⟩ := hBX
  rw [ht] at hP
  refine vx_catch hown [] ⟨0, 14, 17, 13⟩ [⟨0, 14, 21, 17⟩, ⟨0, 14, 25, 15⟩] htab aw_ps0 (by decide) (by decide) (hG _ gw_2_38) (va_Nw.use rfl (hN _ nw_2)) hce hcv hcl ?_
  refine W.eq (g2 := F0 m 17 ls [.ref q9]) rfl ?_
  refine lv_astore hx hb d_La_feed_17 hl (by decide) rfl (fun ls hl => ?_)
  have hl : lv_has ls 7 [(6, .ref q9), (0, .ref (aw_r ad 0)), (1, .int (nI j)), (2, .int bk), (3, .int fr), (4, .int m0), (5, .ref (aw_o ad))] := hl
  refine lv_iconst (v := nI 1) hx hb d_La_feed_19 (by decide +kernel) ?_
  exact W.iret hx hb hr (fun t ht hW => ⟨⟨_, (), rfl, rfl, ag_Hr ht hP hD hSh⟩, hS.F ht⟩) hS.2.2 d_La_feed_20
abbrev ws_La_feedXs0V : List Cond := Cond.codeWith y_La_feed b_La_feed 7 (some .int) [((0 : Nat), (14 : Nat), (17 : Nat), (13 : Nat)), ((0 : Nat), (14 : Nat), (21 : Nat), (17 : Nat)), ((0 : Nat), (14 : Nat), (25 : Nat), (15 : Nat))] :: aw_G
abbrev rm_La_feedXs0V : Room := { frames := 7, cells := 1, slots := 6, locals := 115 }
set_option maxHeartbeats 4000000 in
set_option maxRecDepth 100000 in
theorem k_La_feedXs0V (l : Launch) (hst : l.stackTraces = false) (D : va_G) (g : Nat → ClassId) (ad : Nat → Nat) (N0 : Nat) (zG : Nat → Nat × Nat) (zO : Nat → Nat) (zX : Nat → Nat → Int64) (zY : Nat → Nat → Int32) (zA : Nat → Nat → Nat → Int32) (zB : Nat → Int32) (zM : Nat → Nat × Nat) (zI : Nat → Nat → Int32) (zL : Nat → Nat → Int64) (zK : Int32) (zN : Nat) (zF : Int32) (zQ : Int64) (j : Nat) (bk : Int32) (fr : Int32) (hj : j < 4) (hs : (zG j).1 ≤ 2 ∨ ((zG j).1 = 3 ∧ (zG j).2 = 5)) : Met l y_La_feed ws_La_feedXs0V rm_La_feedXs0V (va_Pc ([.ref (aw_r ad 0), .int (nI j), .int bk, .int fr, .int (nI 0), .ref (aw_o ad)] : List Value) (ag_B D g N0 (az_Sh g ad zG zO zX zY zA zB zM zI zL zK zN zF zQ))) (va_Qi (fun r (_ : Unit) => r = nI 2) (fun (_ : Unit) t => ag_H D N0 (az_Sh g ad zG zO zX zY zA zB zM zI zL zK zN zF zQ) t.heap) (aw_Z N0)) 1 6 (aw_Z N0) := by
  refine va_MetW (cc := b_La_feed) (maxL := 7) (ret := (some .int)) (hh := [((0 : Nat), (14 : Nat), (17 : Nat), (13 : Nat)), ((0 : Nat), (14 : Nat), (21 : Nat), (17 : Nat)), ((0 : Nat), (14 : Nat), (25 : Nat), (15 : Nat))]) (by decide) rfl ?_
  intro p e s m args below meth c s₁ B hml hv
  obtain ⟨rfl, ⟨L, hP, hD, hSh⟩, hU⟩ := hv
  have hx := B.exec
  have hb := B.bytes
  have hr := B.returns
  have hG : ∀ w ∈ aw_G, w.before _ s = true := fun w h => atoms_spec (ws := ws_La_feedXs0V) B.pre w (List.mem_cons_of_mem _ h)
  have htab : c.exceptionTable.toList = tableOf [((0 : Nat), (14 : Nat), (17 : Nat), (13 : Nat)), ((0 : Nat), (14 : Nat), (21 : Nat), (17 : Nat)), ((0 : Nat), (14 : Nat), (25 : Nat), (15 : Nat))] := vx_table (x := y_La_feed) B (atoms_spec (ws := ws_La_feedXs0V) B.pre _ List.mem_cons_self)
  have hown : s.vm.findClass "RuleCiphersLaw" = some m.cls := findClass_of_methodNamed B.named
  have hlocks := B.notSynchronized
  have hE := hU.1
  have hK := hE.1
  have hN := hE.2.1
  have hS : va_S (aw_Z N0) s.heap s.heap [] := va_S.rf
  have hl := lv_entry ([.ref (aw_r ad 0), .int (nI j), .int bk, .int fr, .int (nI 0), .ref (aw_o ad)] : List Value) (n := 7) (Nat.le_of_ble_eq_true rfl)
  rw [lg_entry_eq]
  generalize (lg_sl ([.ref (aw_r ad 0), .int (nI j), .int bk, .int fr, .int (nI 0), .ref (aw_o ad)] : List Value) ++ List.replicate (7 - (lg_sl ([.ref (aw_r ad 0), .int (nI j), .int bk, .int fr, .int (nI 0), .ref (aw_o ad)] : List Value)).length) Slot.unset).toArray = ls at hl ⊢
  have hl : lv_has ls 7 [(0, .ref (aw_r ad 0)), (1, .int (nI j)), (2, .int bk), (3, .int fr), (4, .int (nI 0)), (5, .ref (aw_o ad))] := hl
  refine lv_aload hx hb d_La_feed_0 (lv_at hl 5 rfl) ?_
  refine lv_iconst (v := nI 0) hx hb d_La_feed_2 (by decide +kernel) ?_
  refine lv_aload_n hx hb d_La_feed_3 rfl (lv_at hl 0 rfl) ?_
  refine lv_iload_n hx hb d_La_feed_4 rfl (lv_at hl 1 rfl) ?_
  refine lv_iload_n hx hb d_La_feed_5 rfl (lv_at hl 2 rfl) ?_
  refine lv_iload_n hx hb d_La_feed_6 rfl (lv_at hl 3 rfl) ?_
  refine lv_iload hx hb d_La_feed_7 (lv_at hl 4 rfl) ?_
  have he1 := zr_R0 hSh
  refine vx_callv (vx_runV (As := [.int (nI j), .int bk, .int fr, .int (nI 0)]) (rest := [.int (nI 0), .ref (aw_o ad)]) ⟨hx, hb, hml, hown, hG⟩ (k_Ru_feedXs0V l hst D g ad N0 zG zO zX zY zA zB zM zI zL zK zN zF zQ j bk fr hj hs) (aw_wV 4 hG gw_7_46 gw_7_43 gw_0_1 gw_7_44 gw_7_45 rfl rfl hd_Ru_feed ⟨Nat.le_of_ble_eq_true rfl, Nat.le_of_ble_eq_true rfl⟩) (ag_qV (va_recv hK hP rfl he1) hP hD hSh hU hS) rfl rfl hl.1 rfl (lv_room (Nat.le_of_ble_eq_true rfl)) d_La_feed_9 ⟨Nat.le_of_ble_eq_true rfl, Nat.le_of_ble_eq_true rfl⟩) hS (fun _ _ h => h) (fun _ h => h) (fun _ _ h => h) (fun E ce q9 u t H locs ht _ _ hBX _ _ hS hce hcv hcl => ?_) (fun u t H locs _ _ hF _ _ _ _ => hF.elim)
  obtain ⟨rfl, L, hP, hD, hSh⟩ := hBX
  rw [ht] at hP
  refine vx_catch hown [⟨0, 14, 17, 13⟩] ⟨0, 14, 21, 17⟩ [⟨0, 14, 25, 15⟩] htab (aw_psc (Or.inr ⟨by decide, "java/lang/IndexOutOfBoundsException", hG _ gw_2_38, aw_nc_S_I hE⟩) aw_ps0) (by decide) (by decide) (hG _ gw_2_40) (va_Nw.use rfl (hN _ nw_10)) hce hcv hcl ?_
  refine W.eq (g2 := F0 m 21 ls [.ref q9]) rfl ?_
  refine lv_astore hx hb d_La_feed_21 hl (by decide) rfl (fun ls hl => ?_)
  have hl : lv_has ls 7 [(6, .ref q9), (0, .ref (aw_r ad 0)), (1, .int (nI j)), (2, .int bk), (3, .int fr), (4, .int (nI 0)), (5, .ref (aw_o ad))] := hl
  refine lv_iconst (v := nI 2) hx hb d_La_feed_23 (by decide +kernel) ?_
  exact W.iret hx hb hr (fun t ht hW => ⟨⟨_, (), rfl, rfl, ag_Hr ht hP hD hSh⟩, hS.F ht⟩) hS.2.2 d_La_feed_24
abbrev ws_La_feedXs1V : List Cond := Cond.codeWith y_La_feed b_La_feed 7 (some .int) [((0 : Nat), (14 : Nat), (17 : Nat), (13 : Nat)), ((0 : Nat), (14 : Nat), (21 : Nat), (17 : Nat)), ((0 : Nat), (14 : Nat), (25 : Nat), (15 : Nat))] :: aw_G
abbrev rm_La_feedXs1V : Room := { frames := 7, cells := 1, slots := 6, locals := 115 }
set_option maxHeartbeats 4000000 in
set_option maxRecDepth 100000 in
theorem k_La_feedXs1V (l : Launch) (hst : l.stackTraces = false) (D : va_G) (g : Nat → ClassId) (ad : Nat → Nat) (N0 : Nat) (zG : Nat → Nat × Nat) (zO : Nat → Nat) (zX : Nat → Nat → Int64) (zY : Nat → Nat → Int32) (zA : Nat → Nat → Nat → Int32) (zB : Nat → Int32) (zM : Nat → Nat × Nat) (zI : Nat → Nat → Int32) (zL : Nat → Nat → Int64) (zK : Int32) (zN : Nat) (zF : Int32) (zQ : Int64) (j : Nat) (bk : Int32) (k : Nat) (mm : Nat) (hj : j < 4) (h0 : 0 < mm) (hk : k + mm ≤ 64) (hs : (zG j).1 ≤ 2 ∨ ((zG j).1 = 3 ∧ (zG j).2 = 5)) : Met l y_La_feed ws_La_feedXs1V rm_La_feedXs1V (va_Pc ([.ref (aw_r ad 0), .int (nI j), .int bk, .int (nI k), .int (nI mm), .ref (aw_o ad)] : List Value) (ag_B D g N0 (az_Sh g ad zG zO zX zY zA zB zM zI zL zK zN zF zQ))) (va_Qi (fun r (_ : Unit) => r = nI 2) (fun (_ : Unit) t => ag_H D N0 (az_Sh g ad zG zO zX zY zA zB zM zI zL zK zN zF zQ) t.heap) (aw_Z N0)) 1 6 (aw_Z N0) := by
  refine va_MetW (cc := b_La_feed) (maxL := 7) (ret := (some .int)) (hh := [((0 : Nat), (14 : Nat), (17 : Nat), (13 : Nat)), ((0 : Nat), (14 : Nat), (21 : Nat), (17 : Nat)), ((0 : Nat), (14 : Nat), (25 : Nat), (15 : Nat))]) (by decide) rfl ?_
  intro p e s m args below meth c s₁ B hml hv
  obtain ⟨rfl, ⟨L, hP, hD, hSh⟩, hU⟩ := hv
  have hx := B.exec
  have hb := B.bytes
  have hr := B.returns
  have hG : ∀ w ∈ aw_G, w.before _ s = true := fun w h => atoms_spec (ws := ws_La_feedXs1V) B.pre w (List.mem_cons_of_mem _ h)
  have htab : c.exceptionTable.toList = tableOf [((0 : Nat), (14 : Nat), (17 : Nat), (13 : Nat)), ((0 : Nat), (14 : Nat), (21 : Nat), (17 : Nat)), ((0 : Nat), (14 : Nat), (25 : Nat), (15 : Nat))] := vx_table (x := y_La_feed) B (atoms_spec (ws := ws_La_feedXs1V) B.pre _ List.mem_cons_self)
  have hown : s.vm.findClass "RuleCiphersLaw" = some m.cls := findClass_of_methodNamed B.named
  have hlocks := B.notSynchronized
  have hE := hU.1
  have hK := hE.1
  have hN := hE.2.1
  have hS : va_S (aw_Z N0) s.heap s.heap [] := va_S.rf
  have hl := lv_entry ([.ref (aw_r ad 0), .int (nI j), .int bk, .int (nI k), .int (nI mm), .ref (aw_o ad)] : List Value) (n := 7) (Nat.le_of_ble_eq_true rfl)
  rw [lg_entry_eq]
  generalize (lg_sl ([.ref (aw_r ad 0), .int (nI j), .int bk, .int (nI k), .int (nI mm), .ref (aw_o ad)] : List Value) ++ List.replicate (7 - (lg_sl ([.ref (aw_r ad 0), .int (nI j), .int bk, .int (nI k), .int (nI mm), .ref (aw_o ad)] : List Value)).length) Slot.unset).toArray = ls at hl ⊢
  have hl : lv_has ls 7 [(0, .ref (aw_r ad 0)), (1, .int (nI j)), (2, .int bk), (3, .int (nI k)), (4, .int (nI mm)), (5, .ref (aw_o ad))] := hl
  refine lv_aload hx hb d_La_feed_0 (lv_at hl 5 rfl) ?_
  refine lv_iconst (v := nI 0) hx hb d_La_feed_2 (by decide +kernel) ?_
  refine lv_aload_n hx hb d_La_feed_3 rfl (lv_at hl 0 rfl) ?_
  refine lv_iload_n hx hb d_La_feed_4 rfl (lv_at hl 1 rfl) ?_
  refine lv_iload_n hx hb d_La_feed_5 rfl (lv_at hl 2 rfl) ?_
  refine lv_iload_n hx hb d_La_feed_6 rfl (lv_at hl 3 rfl) ?_
  refine lv_iload hx hb d_La_feed_7 (lv_at hl 4 rfl) ?_
  have he1 := zr_R0 hSh
  refine vx_callv (vx_runV (As := [.int (nI j), .int bk, .int (nI k), .int (nI mm)]) (rest := [.int (nI 0), .ref (aw_o ad)]) ⟨hx, hb, hml, hown, hG⟩ (k_Ru_feedXs1V l hst D g ad N0 zG zO zX zY zA zB zM zI zL zK zN zF zQ j bk k mm hj h0 hk hs) (aw_wV 4 hG gw_7_46 gw_7_43 gw_0_1 gw_7_44 gw_7_45 rfl rfl hd_Ru_feed ⟨Nat.le_of_ble_eq_true rfl, Nat.le_of_ble_eq_true rfl⟩) (ag_qV (va_recv hK hP rfl he1) hP hD hSh hU hS) rfl rfl hl.1 rfl (lv_room (Nat.le_of_ble_eq_true rfl)) d_La_feed_9 ⟨Nat.le_of_ble_eq_true rfl, Nat.le_of_ble_eq_true rfl⟩) hS (fun _ _ h => h) (fun _ h => h) (fun _ _ h => h) (fun E ce q9 u t H locs ht _ _ hBX _ _ hS hce hcv hcl => ?_) (fun u t H locs _ _ hF _ _ _ _ => hF.elim)
  obtain ⟨rfl, L, hP, hD, hSh⟩ := hBX
  rw [ht] at hP
  refine vx_catch hown [⟨0, 14, 17, 13⟩] ⟨0, 14, 21, 17⟩ [⟨0, 14, 25, 15⟩] htab (aw_psc (Or.inr ⟨by decide, "java/lang/IndexOutOfBoundsException", hG _ gw_2_38, aw_nc_S_I hE⟩) aw_ps0) (by decide) (by decide) (hG _ gw_2_40) (va_Nw.use rfl (hN _ nw_10)) hce hcv hcl ?_
  refine W.eq (g2 := F0 m 21 ls [.ref q9]) rfl ?_
  refine lv_astore hx hb d_La_feed_21 hl (by decide) rfl (fun ls hl => ?_)
  have hl : lv_has ls 7 [(6, .ref q9), (0, .ref (aw_r ad 0)), (1, .int (nI j)), (2, .int bk), (3, .int (nI k)), (4, .int (nI mm)), (5, .ref (aw_o ad))] := hl
  refine lv_iconst (v := nI 2) hx hb d_La_feed_23 (by decide +kernel) ?_
  exact W.iret hx hb hr (fun t ht hW => ⟨⟨_, (), rfl, rfl, ag_Hr ht hP hD hSh⟩, hS.F ht⟩) hS.2.2 d_La_feed_24
abbrev ws_La_feedXaV : List Cond := Cond.codeWith y_La_feed b_La_feed 7 (some .int) [((0 : Nat), (14 : Nat), (17 : Nat), (13 : Nat)), ((0 : Nat), (14 : Nat), (21 : Nat), (17 : Nat)), ((0 : Nat), (14 : Nat), (25 : Nat), (15 : Nat))] :: aw_G
abbrev rm_La_feedXaV : Room := { frames := 7, cells := 1, slots := 6, locals := 115 }
set_option maxHeartbeats 4000000 in
set_option maxRecDepth 100000 in
theorem k_La_feedXaV (l : Launch) (hst : l.stackTraces = false) (D : va_G) (g : Nat → ClassId) (ad : Nat → Nat) (N0 : Nat) (zG : Nat → Nat × Nat) (zO : Nat → Nat) (zX : Nat → Nat → Int64) (zY : Nat → Nat → Int32) (zA : Nat → Nat → Nat → Int32) (zB : Nat → Int32) (zM : Nat → Nat × Nat) (zI : Nat → Nat → Int32) (zL : Nat → Nat → Int64) (zK : Int32) (zN : Nat) (zF : Int32) (zQ : Int64) (j : Nat) (bk : Int32) (k : Nat) (mm : Nat) (hj : j < 4) (h0 : 0 < mm) (hk : k + mm ≤ 64) (hs : (zG j).1 = 3) (hm : (zG j).2 ≤ 1) (hr8 : mm % 8 ≠ 0) : Met l y_La_feed ws_La_feedXaV rm_La_feedXaV (va_Pc ([.ref (aw_r ad 0), .int (nI j), .int bk, .int (nI k), .int (nI mm), .ref (aw_o ad)] : List Value) (ag_B D g N0 (az_Sh g ad zG zO zX zY zA zB zM zI zL zK zN zF zQ))) (va_Qi (fun r (_ : Unit) => r = nI 3) (fun (_ : Unit) t => ag_H D N0 (az_Sh g ad zG zO zX zY zA zB zM zI zL zK zN zF zQ) t.heap) (aw_Z N0)) 1 6 (aw_Z N0) := by
  refine va_MetW (cc := b_La_feed) (maxL := 7) (ret := (some .int)) (hh := [((0 : Nat), (14 : Nat), (17 : Nat), (13 : Nat)), ((0 : Nat), (14 : Nat), (21 : Nat), (17 : Nat)), ((0 : Nat), (14 : Nat), (25 : Nat), (15 : Nat))]) (by decide) rfl ?_
  intro p e s m args below meth c s₁ B hml hv
  obtain ⟨rfl, ⟨L, hP, hD, hSh⟩, hU⟩ := hv
  have hx := B.exec
  have hb := B.bytes
  have hr := B.returns
  have hG : ∀ w ∈ aw_G, w.before _ s = true := fun w h => atoms_spec (ws := ws_La_feedXaV) B.pre w (List.mem_cons_of_mem _ h)
  have htab : c.exceptionTable.toList = tableOf [((0 : Nat), (14 : Nat), (17 : Nat), (13 : Nat)), ((0 : Nat), (14 : Nat), (21 : Nat), (17 : Nat)), ((0 : Nat), (14 : Nat), (25 : Nat), (15 : Nat))] := vx_table (x := y_La_feed) B (atoms_spec (ws := ws_La_feedXaV) B.pre _ List.mem_cons_self)
  have hown : s.vm.findClass "RuleCiphersLaw" = some m.cls := findClass_of_methodNamed B.named
  have hlocks := B.notSynchronized
  have hE := hU.1
  have hK := hE.1
  have hN := hE.2.1
  have hS : va_S (aw_Z N0) s.heap s.heap [] := va_S.rf
  have hl := lv_entry ([.ref (aw_r ad 0), .int (nI j), .int bk, .int (nI k), .int (nI mm), .ref (aw_o ad)] : List Value) (n := 7) (Nat.le_of_ble_eq_true rfl)
  rw [lg_entry_eq]
  generalize (lg_sl ([.ref (aw_r ad 0), .int (nI j), .int bk, .int (nI k), .int (nI mm), .ref (aw_o ad)] : List Value) ++ List.replicate (7 - (lg_sl ([.ref (aw_r ad 0), .int (nI j), .int bk, .int (nI k), .int (nI mm), .ref (aw_o ad)] : List Value)).length) Slot.unset).toArray = ls at hl ⊢
  have hl : lv_has ls 7 [(0, .ref (aw_r ad 0)), (1, .int (nI j)), (2, .int bk), (3, .int (nI k)), (4, .int (nI mm)), (5, .ref (aw_o ad))] := hl
  refine lv_aload hx hb d_La_feed_0 (lv_at hl 5 rfl) ?_
  refine lv_iconst (v := nI 0) hx hb d_La_feed_2 (by decide +kernel) ?_
  refine lv_aload_n hx hb d_La_feed_3 rfl (lv_at hl 0 rfl) ?_
  refine lv_iload_n hx hb d_La_feed_4 rfl (lv_at hl 1 rfl) ?_
  refine lv_iload_n hx hb d_La_feed_5 rfl (lv_at hl 2 rfl) ?_
  refine lv_iload_n hx hb d_La_feed_6 rfl (lv_at hl 3 rfl) ?_
  refine lv_iload hx hb d_La_feed_7 (lv_at hl 4 rfl) ?_
  have he1 := zr_R0 hSh
  refine vx_callv (vx_runV (As := [.int (nI j), .int bk, .int (nI k), .int (nI mm)]) (rest := [.int (nI 0), .ref (aw_o ad)]) ⟨hx, hb, hml, hown, hG⟩ (k_Ru_feedXaV l hst D g ad N0 zG zO zX zY zA zB zM zI zL zK zN zF zQ j bk k mm hj h0 hk hs hm hr8) (aw_wV 4 hG gw_7_46 gw_7_43 gw_0_1 gw_7_44 gw_7_45 rfl rfl hd_Ru_feed ⟨Nat.le_of_ble_eq_true rfl, Nat.le_of_ble_eq_true rfl⟩) (ag_qV (va_recv hK hP rfl he1) hP hD hSh hU hS) rfl rfl hl.1 rfl (lv_room (Nat.le_of_ble_eq_true rfl)) d_La_feed_9 ⟨Nat.le_of_ble_eq_true rfl, Nat.le_of_ble_eq_true rfl⟩) hS (fun _ _ h => h) (fun _ h => h) (fun _ _ h => h) (fun E ce q9 u t H locs ht _ _ hBX _ _ hS hce hcv hcl => ?_) (fun u t H locs _ _ hF _ _ _ _ => hF.elim)
  obtain ⟨rfl, L, hP, hD, hSh⟩ := hBX
  rw [ht] at hP
  refine vx_catch hown [⟨0, 14, 17, 13⟩, ⟨0, 14, 21, 17⟩] ⟨0, 14, 25, 15⟩ [] htab (aw_psc (Or.inr ⟨by decide, "java/lang/IndexOutOfBoundsException", hG _ gw_2_38, aw_nc_A_I hE⟩) (aw_psc (Or.inr ⟨by decide, "java/lang/IllegalStateException", hG _ gw_2_40, aw_nc_A_S hE⟩) aw_ps0)) (by decide) (by decide) (hG _ gw_2_39) (va_Nw.use rfl (hN _ nw_9)) hce hcv hcl ?_
  refine W.eq (g2 := F0 m 25 ls [.ref q9]) rfl ?_
  refine lv_astore hx hb d_La_feed_25 hl (by decide) rfl (fun ls hl => ?_)
  have hl : lv_has ls 7 [(6, .ref q9), (0, .ref (aw_r ad 0)), (1, .int (nI j)), (2, .int bk), (3, .int (nI k)), (4, .int (nI mm)), (5, .ref (aw_o ad))] := hl
  refine lv_iconst (v := nI 3) hx hb d_La_feed_27 (by decide +kernel) ?_
  exact W.iret hx hb hr (fun t ht hW => ⟨⟨_, (), rfl, rfl, ag_Hr ht hP hD hSh⟩, hS.F ht⟩) hS.2.2 d_La_feed_28
noncomputable def v_La_feed10bV_zY (zY : Nat → Nat → Int32) (j : Nat) : Nat → Nat → Int32 := v_Ru_feed10bV_zY zY j
noncomputable def v_La_feed10bV_zQ (zY : Nat → Nat → Int32) (j : Nat) : Int64 := (Int32.toInt64 (v_Ru_feed10bV zY j))
abbrev ws_La_feed10bV : List Cond := Cond.codeWith y_La_feed b_La_feed 7 (some .int) [((0 : Nat), (14 : Nat), (17 : Nat), (13 : Nat)), ((0 : Nat), (14 : Nat), (21 : Nat), (17 : Nat)), ((0 : Nat), (14 : Nat), (25 : Nat), (15 : Nat))] :: aw_G
abbrev rm_La_feed10bV : Room := { frames := 3, cells := 1, slots := 6, locals := 71 }
set_option maxHeartbeats 4000000 in
set_option maxRecDepth 100000 in
theorem k_La_feed10bV (l : Launch) (hst : l.stackTraces = false) (D : va_G) (g : Nat → ClassId) (ad : Nat → Nat) (N0 : Nat) (zG : Nat → Nat × Nat) (zO : Nat → Nat) (zX : Nat → Nat → Int64) (zY : Nat → Nat → Int32) (zA : Nat → Nat → Nat → Int32) (zB : Nat → Int32) (zM : Nat → Nat × Nat) (zI : Nat → Nat → Int32) (zL : Nat → Nat → Int64) (zK : Int32) (zN : Nat) (zF : Int32) (zQ : Int64) (j : Nat) (bk : Int32) (fr : Int32) (hj : j < 4) (hs : (zG j).1 = 3) (hm : (zG j).2 ≤ 1) : Met l y_La_feed ws_La_feed10bV rm_La_feed10bV (va_Pc ([.ref (aw_r ad 0), .int (nI j), .int bk, .int fr, .int (nI 0), .ref (aw_o ad)] : List Value) (ag_B D g N0 (az_Sh g ad zG zO zX zY zA zB zM zI zL zK zN zF zQ))) (va_Qi (fun r (_ : Unit) => r = nI 0) (fun (_ : Unit) t => ag_H D N0 (az_Sh g ad zG zO zX (v_La_feed10bV_zY zY j) zA zB zM zI zL zK zN zF (v_La_feed10bV_zQ zY j)) t.heap) (aw_Z N0)) 1 6 (aw_Z N0) := by
  refine va_MetW (cc := b_La_feed) (maxL := 7) (ret := (some .int)) (hh := [((0 : Nat), (14 : Nat), (17 : Nat), (13 : Nat)), ((0 : Nat), (14 : Nat), (21 : Nat), (17 : Nat)), ((0 : Nat), (14 : Nat), (25 : Nat), (15 : Nat))]) (by decide) rfl ?_
  intro p e s m args below meth c s₁ B hml hv
  obtain ⟨rfl, ⟨L, hP, hD, hSh⟩, hU⟩ := hv
  have hx := B.exec
  have hb := B.bytes
  have hr := B.returns
  have hG : ∀ w ∈ aw_G, w.before _ s = true := fun w h => atoms_spec (ws := ws_La_feed10bV) B.pre w (List.mem_cons_of_mem _ h)
  have htab : c.exceptionTable.toList = tableOf [((0 : Nat), (14 : Nat), (17 : Nat), (13 : Nat)), ((0 : Nat), (14 : Nat), (21 : Nat), (17 : Nat)), ((0 : Nat), (14 : Nat), (25 : Nat), (15 : Nat))] := vx_table (x := y_La_feed) B (atoms_spec (ws := ws_La_feed10bV) B.pre _ List.mem_cons_self)
  have hown : s.vm.findClass "RuleCiphersLaw" = some m.cls := findClass_of_methodNamed B.named
  have hlocks := B.notSynchronized
  have hE := hU.1
  have hK := hE.1
  have hN := hE.2.1
  have hS : va_S (aw_Z N0) s.heap s.heap [] := va_S.rf
  have hl := lv_entry ([.ref (aw_r ad 0), .int (nI j), .int bk, .int fr, .int (nI 0), .ref (aw_o ad)] : List Value) (n := 7) (Nat.le_of_ble_eq_true rfl)
  rw [lg_entry_eq]
  generalize (lg_sl ([.ref (aw_r ad 0), .int (nI j), .int bk, .int fr, .int (nI 0), .ref (aw_o ad)] : List Value) ++ List.replicate (7 - (lg_sl ([.ref (aw_r ad 0), .int (nI j), .int bk, .int fr, .int (nI 0), .ref (aw_o ad)] : List Value)).length) Slot.unset).toArray = ls at hl ⊢
  have hl : lv_has ls 7 [(0, .ref (aw_r ad 0)), (1, .int (nI j)), (2, .int bk), (3, .int fr), (4, .int (nI 0)), (5, .ref (aw_o ad))] := hl
  refine lv_aload hx hb d_La_feed_0 (lv_at hl 5 rfl) ?_
  refine lv_iconst (v := nI 0) hx hb d_La_feed_2 (by decide +kernel) ?_
  refine lv_aload_n hx hb d_La_feed_3 rfl (lv_at hl 0 rfl) ?_
  refine lv_iload_n hx hb d_La_feed_4 rfl (lv_at hl 1 rfl) ?_
  refine lv_iload_n hx hb d_La_feed_5 rfl (lv_at hl 2 rfl) ?_
  refine lv_iload_n hx hb d_La_feed_6 rfl (lv_at hl 3 rfl) ?_
  refine lv_iload hx hb d_La_feed_7 (lv_at hl 4 rfl) ?_
  have he1 := zr_R0 hSh
  refine va_calli (va_runV (As := [.int (nI j), .int bk, .int fr, .int (nI 0)]) (rest := [.int (nI 0), .ref (aw_o ad)]) ⟨hx, hb, hml, hown, hG⟩ (k_Ru_feed10bV l D g ad N0 zG zO zX zY zA zB zM zI zL zK zN zF zQ j bk fr hj hs hm) (aw_wV 4 hG gw_7_46 gw_7_43 gw_0_1 gw_7_44 gw_7_45 rfl rfl hd_Ru_feed ⟨Nat.le_of_ble_eq_true rfl, Nat.le_of_ble_eq_true rfl⟩) (ag_qV (va_recv hK hP rfl he1) hP hD hSh hU hS) rfl rfl hl.1 rfl (lv_room (Nat.le_of_ble_eq_true rfl)) d_La_feed_9 ⟨Nat.le_of_ble_eq_true rfl, Nat.le_of_ble_eq_true rfl⟩) hS (fun _ _ h => h) (fun _ h => h) ?_
  clear hP hD hSh hS he1
  intro x2 u8 t8 H locs ht _ ex2 hB _ _ hS
  obtain ⟨L, hP, hD, hSh⟩ := hB
  rw [ht] at hP
  clear ht
  obtain ⟨zY3, ezY3⟩ : ∃ z : Nat → Nat → Int32, v_Ru_feed10bV_zY zY j = z := ⟨_, rfl⟩
  rw [ezY3] at hSh
  have ex2 := ex2.symm
  refine lv_i2l hx hb d_La_feed_12 rfl ?_
  refine ag_topl (fun y4 ey4 => ?_)
  obtain ⟨f6, hc7, he5⟩ := zr_O0 hSh
  refine ag_lst hx hb hK hP hD hS 84 1 he5 rfl (k := 0) (by omega) (by decide) d_La_feed_13 (zw_Q hSh f6 y4) ?_
  clear hP hD hSh hS he5
  intro H locs L hP hD hSh hS
  obtain ⟨zQ8, ezQ8⟩ : ∃ z : Int64, y4 = z := ⟨_, rfl⟩
  rw [ezQ8] at hSh
  refine lv_goto (tgt := 29) hx hb d_La_feed_14 (by decide) ?_
  refine lv_iconst (v := nI 0) hx hb d_La_feed_29 (by decide +kernel) ?_
  refine W.widen (k := 1) (n := 6) (Nat.le_of_ble_eq_true rfl) (Nat.le_of_ble_eq_true rfl) ?_
  have gzY : zY3 = v_La_feed10bV_zY zY j := by subst ezQ8 ey4 ex2 ezY3; rfl
  have gzQ : zQ8 = v_La_feed10bV_zQ zY j := by subst ezQ8 ey4 ex2 ezY3; rfl
  have hSh : az_Sh g ad zG zO zX (v_La_feed10bV_zY zY j) zA zB zM zI zL zK zN zF (v_La_feed10bV_zQ zY j) L := by rw [← gzY, ← gzQ]; exact hSh
  exact W.iret hx hb hr (fun t ht hW => ⟨⟨_, (), rfl, rfl, ag_Hr ht hP hD hSh⟩, hS.F ht⟩) hS.2.2 d_La_feed_30
noncomputable def v_La_feed10V_zY (zY : Nat → Nat → Int32) (j : Nat) : Nat → Nat → Int32 := v_Ru_feed10V_zY zY j
noncomputable def v_La_feed10V_zQ (zY : Nat → Nat → Int32) (j : Nat) : Int64 := (Int32.toInt64 (v_Ru_feed10V zY j))
abbrev ws_La_feed10V : List Cond := Cond.codeWith y_La_feed b_La_feed 7 (some .int) [((0 : Nat), (14 : Nat), (17 : Nat), (13 : Nat)), ((0 : Nat), (14 : Nat), (21 : Nat), (17 : Nat)), ((0 : Nat), (14 : Nat), (25 : Nat), (15 : Nat))] :: aw_G
abbrev rm_La_feed10V : Room := { frames := 3, cells := 1, slots := 6, locals := 71 }
set_option maxHeartbeats 4000000 in
set_option maxRecDepth 100000 in
theorem k_La_feed10V (l : Launch) (hst : l.stackTraces = false) (D : va_G) (g : Nat → ClassId) (ad : Nat → Nat) (N0 : Nat) (zG : Nat → Nat × Nat) (zO : Nat → Nat) (zX : Nat → Nat → Int64) (zY : Nat → Nat → Int32) (zA : Nat → Nat → Nat → Int32) (zB : Nat → Int32) (zM : Nat → Nat × Nat) (zI : Nat → Nat → Int32) (zL : Nat → Nat → Int64) (zK : Int32) (zN : Nat) (zF : Int32) (zQ : Int64) (j : Nat) (bk : Int32) (fr : Int32) (hj : j < 4) (hs : (zG j).1 = 3) (hm : 2 ≤ (zG j).2) (hm5 : (zG j).2 ≤ 4) : Met l y_La_feed ws_La_feed10V rm_La_feed10V (va_Pc ([.ref (aw_r ad 0), .int (nI j), .int bk, .int fr, .int (nI 0), .ref (aw_o ad)] : List Value) (ag_B D g N0 (az_Sh g ad zG zO zX zY zA zB zM zI zL zK zN zF zQ))) (va_Qi (fun r (_ : Unit) => r = nI 0) (fun (_ : Unit) t => ag_H D N0 (az_Sh g ad zG zO zX (v_La_feed10V_zY zY j) zA zB zM zI zL zK zN zF (v_La_feed10V_zQ zY j)) t.heap) (aw_Z N0)) 1 6 (aw_Z N0) := by
  refine va_MetW (cc := b_La_feed) (maxL := 7) (ret := (some .int)) (hh := [((0 : Nat), (14 : Nat), (17 : Nat), (13 : Nat)), ((0 : Nat), (14 : Nat), (21 : Nat), (17 : Nat)), ((0 : Nat), (14 : Nat), (25 : Nat), (15 : Nat))]) (by decide) rfl ?_
  intro p e s m args below meth c s₁ B hml hv
  obtain ⟨rfl, ⟨L, hP, hD, hSh⟩, hU⟩ := hv
  have hx := B.exec
  have hb := B.bytes
  have hr := B.returns
  have hG : ∀ w ∈ aw_G, w.before _ s = true := fun w h => atoms_spec (ws := ws_La_feed10V) B.pre w (List.mem_cons_of_mem _ h)
  have htab : c.exceptionTable.toList = tableOf [((0 : Nat), (14 : Nat), (17 : Nat), (13 : Nat)), ((0 : Nat), (14 : Nat), (21 : Nat), (17 : Nat)), ((0 : Nat), (14 : Nat), (25 : Nat), (15 : Nat))] := vx_table (x := y_La_feed) B (atoms_spec (ws := ws_La_feed10V) B.pre _ List.mem_cons_self)
  have hown : s.vm.findClass "RuleCiphersLaw" = some m.cls := findClass_of_methodNamed B.named
  have hlocks := B.notSynchronized
  have hE := hU.1
  have hK := hE.1
  have hN := hE.2.1
  have hS : va_S (aw_Z N0) s.heap s.heap [] := va_S.rf
  have hl := lv_entry ([.ref (aw_r ad 0), .int (nI j), .int bk, .int fr, .int (nI 0), .ref (aw_o ad)] : List Value) (n := 7) (Nat.le_of_ble_eq_true rfl)
  rw [lg_entry_eq]
  generalize (lg_sl ([.ref (aw_r ad 0), .int (nI j), .int bk, .int fr, .int (nI 0), .ref (aw_o ad)] : List Value) ++ List.replicate (7 - (lg_sl ([.ref (aw_r ad 0), .int (nI j), .int bk, .int fr, .int (nI 0), .ref (aw_o ad)] : List Value)).length) Slot.unset).toArray = ls at hl ⊢
  have hl : lv_has ls 7 [(0, .ref (aw_r ad 0)), (1, .int (nI j)), (2, .int bk), (3, .int fr), (4, .int (nI 0)), (5, .ref (aw_o ad))] := hl
  refine lv_aload hx hb d_La_feed_0 (lv_at hl 5 rfl) ?_
  refine lv_iconst (v := nI 0) hx hb d_La_feed_2 (by decide +kernel) ?_
  refine lv_aload_n hx hb d_La_feed_3 rfl (lv_at hl 0 rfl) ?_
  refine lv_iload_n hx hb d_La_feed_4 rfl (lv_at hl 1 rfl) ?_
  refine lv_iload_n hx hb d_La_feed_5 rfl (lv_at hl 2 rfl) ?_
  refine lv_iload_n hx hb d_La_feed_6 rfl (lv_at hl 3 rfl) ?_
  refine lv_iload hx hb d_La_feed_7 (lv_at hl 4 rfl) ?_
  have he1 := zr_R0 hSh
  refine va_calli (va_runV (As := [.int (nI j), .int bk, .int fr, .int (nI 0)]) (rest := [.int (nI 0), .ref (aw_o ad)]) ⟨hx, hb, hml, hown, hG⟩ (k_Ru_feed10V l D g ad N0 zG zO zX zY zA zB zM zI zL zK zN zF zQ j bk fr hj hs hm hm5) (aw_wV 4 hG gw_7_46 gw_7_43 gw_0_1 gw_7_44 gw_7_45 rfl rfl hd_Ru_feed ⟨Nat.le_of_ble_eq_true rfl, Nat.le_of_ble_eq_true rfl⟩) (ag_qV (va_recv hK hP rfl he1) hP hD hSh hU hS) rfl rfl hl.1 rfl (lv_room (Nat.le_of_ble_eq_true rfl)) d_La_feed_9 ⟨Nat.le_of_ble_eq_true rfl, Nat.le_of_ble_eq_true rfl⟩) hS (fun _ _ h => h) (fun _ h => h) ?_
  clear hP hD hSh hS he1
  intro x2 u8 t8 H locs ht _ ex2 hB _ _ hS
  obtain ⟨L, hP, hD, hSh⟩ := hB
  rw [ht] at hP
  clear ht
  obtain ⟨zY3, ezY3⟩ : ∃ z : Nat → Nat → Int32, v_Ru_feed10V_zY zY j = z := ⟨_, rfl⟩
  rw [ezY3] at hSh
  have ex2 := ex2.symm
  refine lv_i2l hx hb d_La_feed_12 rfl ?_
  refine ag_topl (fun y4 ey4 => ?_)
  obtain ⟨f6, hc7, he5⟩ := zr_O0 hSh
  refine ag_lst hx hb hK hP hD hS 84 1 he5 rfl (k := 0) (by omega) (by decide) d_La_feed_13 (zw_Q hSh f6 y4) ?_
  clear hP hD hSh hS he5
  intro H locs L hP hD hSh hS
  obtain ⟨zQ8, ezQ8⟩ : ∃ z : Int64, y4 = z := ⟨_, rfl⟩
  rw [ezQ8] at hSh
  refine lv_goto (tgt := 29) hx hb d_La_feed_14 (by decide) ?_
  refine lv_iconst (v := nI 0) hx hb d_La_feed_29 (by decide +kernel) ?_
  refine W.widen (k := 1) (n := 6) (Nat.le_of_ble_eq_true rfl) (Nat.le_of_ble_eq_true rfl) ?_
  have gzY : zY3 = v_La_feed10V_zY zY j := by subst ezQ8 ey4 ex2 ezY3; rfl
  have gzQ : zQ8 = v_La_feed10V_zQ zY j := by subst ezQ8 ey4 ex2 ezY3; rfl
  have hSh : az_Sh g ad zG zO zX (v_La_feed10V_zY zY j) zA zB zM zI zL zK zN zF (v_La_feed10V_zQ zY j) L := by rw [← gzY, ← gzQ]; exact hSh
  exact W.iret hx hb hr (fun t ht hW => ⟨⟨_, (), rfl, rfl, ag_Hr ht hP hD hSh⟩, hS.F ht⟩) hS.2.2 d_La_feed_30
noncomputable def v_La_feed11V_zX (zG : Nat → Nat × Nat) (zO : Nat → Nat) (zX : Nat → Nat → Int64) (zY : Nat → Nat → Int32) (zA : Nat → Nat → Nat → Int32) (zB : Nat → Int32) (j : Nat) (bk : Int32) (k : Nat) (mm : Nat) : Nat → Nat → Int64 := v_Ru_feed11V_zX zG zO zX zY zA zB j bk k mm
noncomputable def v_La_feed11V_zY (zG : Nat → Nat × Nat) (zO : Nat → Nat) (zX : Nat → Nat → Int64) (zY : Nat → Nat → Int32) (zA : Nat → Nat → Nat → Int32) (zB : Nat → Int32) (j : Nat) (bk : Int32) (k : Nat) (mm : Nat) : Nat → Nat → Int32 := v_Ru_feed11V_zY zG zO zX zY zA zB j bk k mm
noncomputable def v_La_feed11V_zB (zG : Nat → Nat × Nat) (zO : Nat → Nat) (zX : Nat → Nat → Int64) (zY : Nat → Nat → Int32) (zA : Nat → Nat → Nat → Int32) (zB : Nat → Int32) (j : Nat) (bk : Int32) (k : Nat) (mm : Nat) : Nat → Int32 := v_Ru_feed11V_zB zG zO zX zY zA zB j bk k mm
noncomputable def v_La_feed11V_zQ (zG : Nat → Nat × Nat) (zO : Nat → Nat) (zX : Nat → Nat → Int64) (zY : Nat → Nat → Int32) (zA : Nat → Nat → Nat → Int32) (zB : Nat → Int32) (j : Nat) (bk : Int32) (k : Nat) (mm : Nat) : Int64 := (Int32.toInt64 (v_Ru_feed11V zG zO zX zY zA zB j bk k mm))
abbrev ws_La_feed11V : List Cond := Cond.codeWith y_La_feed b_La_feed 7 (some .int) [((0 : Nat), (14 : Nat), (17 : Nat), (13 : Nat)), ((0 : Nat), (14 : Nat), (21 : Nat), (17 : Nat)), ((0 : Nat), (14 : Nat), (25 : Nat), (15 : Nat))] :: aw_G
abbrev rm_La_feed11V : Room := { frames := 7, cells := 1, slots := 6, locals := 176 }
set_option maxHeartbeats 4000000 in
set_option maxRecDepth 100000 in
theorem k_La_feed11V (l : Launch) (hst : l.stackTraces = false) (D : va_G) (g : Nat → ClassId) (ad : Nat → Nat) (N0 : Nat) (zG : Nat → Nat × Nat) (zO : Nat → Nat) (zX : Nat → Nat → Int64) (zY : Nat → Nat → Int32) (zA : Nat → Nat → Nat → Int32) (zB : Nat → Int32) (zM : Nat → Nat × Nat) (zI : Nat → Nat → Int32) (zL : Nat → Nat → Int64) (zK : Int32) (zN : Nat) (zF : Int32) (zQ : Int64) (j : Nat) (bk : Int32) (k : Nat) (mm : Nat) (hj : j < 4) (h0 : 0 < mm) (hk : k + mm ≤ 64) (hs : (zG j).1 = 3) (hm : 2 ≤ (zG j).2) (hm5 : (zG j).2 ≤ 4) : Met l y_La_feed ws_La_feed11V rm_La_feed11V (va_Pc ([.ref (aw_r ad 0), .int (nI j), .int bk, .int (nI k), .int (nI mm), .ref (aw_o ad)] : List Value) (ag_B D g N0 (az_Sh g ad zG zO zX zY zA zB zM zI zL zK zN zF zQ))) (va_Qi (fun r (_ : Unit) => r = nI 0) (fun (_ : Unit) t => ag_H D N0 (az_Sh g ad zG zO (v_La_feed11V_zX zG zO zX zY zA zB j bk k mm) (v_La_feed11V_zY zG zO zX zY zA zB j bk k mm) zA (v_La_feed11V_zB zG zO zX zY zA zB j bk k mm) zM zI zL zK zN zF (v_La_feed11V_zQ zG zO zX zY zA zB j bk k mm)) t.heap) (aw_Z N0)) 1 6 (aw_Z N0) := by
  refine va_MetW (cc := b_La_feed) (maxL := 7) (ret := (some .int)) (hh := [((0 : Nat), (14 : Nat), (17 : Nat), (13 : Nat)), ((0 : Nat), (14 : Nat), (21 : Nat), (17 : Nat)), ((0 : Nat), (14 : Nat), (25 : Nat), (15 : Nat))]) (by decide) rfl ?_
  intro p e s m args below meth c s₁ B hml hv
  obtain ⟨rfl, ⟨L, hP, hD, hSh⟩, hU⟩ := hv
  have hx := B.exec
  have hb := B.bytes
  have hr := B.returns
  have hG : ∀ w ∈ aw_G, w.before _ s = true := fun w h => atoms_spec (ws := ws_La_feed11V) B.pre w (List.mem_cons_of_mem _ h)
  have htab : c.exceptionTable.toList = tableOf [((0 : Nat), (14 : Nat), (17 : Nat), (13 : Nat)), ((0 : Nat), (14 : Nat), (21 : Nat), (17 : Nat)), ((0 : Nat), (14 : Nat), (25 : Nat), (15 : Nat))] := vx_table (x := y_La_feed) B (atoms_spec (ws := ws_La_feed11V) B.pre _ List.mem_cons_self)
  have hown : s.vm.findClass "RuleCiphersLaw" = some m.cls := findClass_of_methodNamed B.named
  have hlocks := B.notSynchronized
  have hE := hU.1
  have hK := hE.1
  have hN := hE.2.1
  have hS : va_S (aw_Z N0) s.heap s.heap [] := va_S.rf
  have hl := lv_entry ([.ref (aw_r ad 0), .int (nI j), .int bk, .int (nI k), .int (nI mm), .ref (aw_o ad)] : List Value) (n := 7) (Nat.le_of_ble_eq_true rfl)
  rw [lg_entry_eq]
  generalize (lg_sl ([.ref (aw_r ad 0), .int (nI j), .int bk, .int (nI k), .int (nI mm), .ref (aw_o ad)] : List Value) ++ List.replicate (7 - (lg_sl ([.ref (aw_r ad 0), .int (nI j), .int bk, .int (nI k), .int (nI mm), .ref (aw_o ad)] : List Value)).length) Slot.unset).toArray = ls at hl ⊢
  have hl : lv_has ls 7 [(0, .ref (aw_r ad 0)), (1, .int (nI j)), (2, .int bk), (3, .int (nI k)), (4, .int (nI mm)), (5, .ref (aw_o ad))] := hl
  refine lv_aload hx hb d_La_feed_0 (lv_at hl 5 rfl) ?_
  refine lv_iconst (v := nI 0) hx hb d_La_feed_2 (by decide +kernel) ?_
  refine lv_aload_n hx hb d_La_feed_3 rfl (lv_at hl 0 rfl) ?_
  refine lv_iload_n hx hb d_La_feed_4 rfl (lv_at hl 1 rfl) ?_
  refine lv_iload_n hx hb d_La_feed_5 rfl (lv_at hl 2 rfl) ?_
  refine lv_iload_n hx hb d_La_feed_6 rfl (lv_at hl 3 rfl) ?_
  refine lv_iload hx hb d_La_feed_7 (lv_at hl 4 rfl) ?_
  have he1 := zr_R0 hSh
  refine va_calli (va_runV (As := [.int (nI j), .int bk, .int (nI k), .int (nI mm)]) (rest := [.int (nI 0), .ref (aw_o ad)]) ⟨hx, hb, hml, hown, hG⟩ (k_Ru_feed11V l D g ad N0 zG zO zX zY zA zB zM zI zL zK zN zF zQ j bk k mm hj h0 hk hs hm hm5) (aw_wV 4 hG gw_7_46 gw_7_43 gw_0_1 gw_7_44 gw_7_45 rfl rfl hd_Ru_feed ⟨Nat.le_of_ble_eq_true rfl, Nat.le_of_ble_eq_true rfl⟩) (ag_qV (va_recv hK hP rfl he1) hP hD hSh hU hS) rfl rfl hl.1 rfl (lv_room (Nat.le_of_ble_eq_true rfl)) d_La_feed_9 ⟨Nat.le_of_ble_eq_true rfl, Nat.le_of_ble_eq_true rfl⟩) hS (fun _ _ h => h) (fun _ h => h) ?_
  clear hP hD hSh hS he1
  intro x2 u8 t8 H locs ht _ ex2 hB _ _ hS
  obtain ⟨L, hP, hD, hSh⟩ := hB
  rw [ht] at hP
  clear ht
  obtain ⟨zX3, ezX3⟩ : ∃ z : Nat → Nat → Int64, v_Ru_feed11V_zX zG zO zX zY zA zB j bk k mm = z := ⟨_, rfl⟩
  rw [ezX3] at hSh
  obtain ⟨zY4, ezY4⟩ : ∃ z : Nat → Nat → Int32, v_Ru_feed11V_zY zG zO zX zY zA zB j bk k mm = z := ⟨_, rfl⟩
  rw [ezY4] at hSh
  obtain ⟨zB5, ezB5⟩ : ∃ z : Nat → Int32, v_Ru_feed11V_zB zG zO zX zY zA zB j bk k mm = z := ⟨_, rfl⟩
  rw [ezB5] at hSh
  have ex2 := ex2.symm
  refine lv_i2l hx hb d_La_feed_12 rfl ?_
  refine ag_topl (fun y6 ey6 => ?_)
  obtain ⟨f8, hc9, he7⟩ := zr_O0 hSh
  refine ag_lst hx hb hK hP hD hS 84 1 he7 rfl (k := 0) (by omega) (by decide) d_La_feed_13 (zw_Q hSh f8 y6) ?_
  clear hP hD hSh hS he7
  intro H locs L hP hD hSh hS
  obtain ⟨zQ10, ezQ10⟩ : ∃ z : Int64, y6 = z := ⟨_, rfl⟩
  rw [ezQ10] at hSh
  refine lv_goto (tgt := 29) hx hb d_La_feed_14 (by decide) ?_
  refine lv_iconst (v := nI 0) hx hb d_La_feed_29 (by decide +kernel) ?_
  refine W.widen (k := 1) (n := 6) (Nat.le_of_ble_eq_true rfl) (Nat.le_of_ble_eq_true rfl) ?_
  have gzX : zX3 = v_La_feed11V_zX zG zO zX zY zA zB j bk k mm := by subst ezQ10 ey6 ex2 ezB5 ezY4 ezX3; rfl
  have gzY : zY4 = v_La_feed11V_zY zG zO zX zY zA zB j bk k mm := by subst ezQ10 ey6 ex2 ezB5 ezY4 ezX3; rfl
  have gzB : zB5 = v_La_feed11V_zB zG zO zX zY zA zB j bk k mm := by subst ezQ10 ey6 ex2 ezB5 ezY4 ezX3; rfl
  have gzQ : zQ10 = v_La_feed11V_zQ zG zO zX zY zA zB j bk k mm := by subst ezQ10 ey6 ex2 ezB5 ezY4 ezX3; rfl
  have hSh : az_Sh g ad zG zO (v_La_feed11V_zX zG zO zX zY zA zB j bk k mm) (v_La_feed11V_zY zG zO zX zY zA zB j bk k mm) zA (v_La_feed11V_zB zG zO zX zY zA zB j bk k mm) zM zI zL zK zN zF (v_La_feed11V_zQ zG zO zX zY zA zB j bk k mm) L := by rw [← gzX, ← gzY, ← gzB, ← gzQ]; exact hSh
  exact W.iret hx hb hr (fun t ht hW => ⟨⟨_, (), rfl, rfl, ag_Hr ht hP hD hSh⟩, hS.F ht⟩) hS.2.2 d_La_feed_30
noncomputable def v_La_feed18V_zX (zG : Nat → Nat × Nat) (zO : Nat → Nat) (zX : Nat → Nat → Int64) (zY : Nat → Nat → Int32) (zA : Nat → Nat → Nat → Int32) (zB : Nat → Int32) (j : Nat) (bk : Int32) (k : Nat) (mm : Nat) : Nat → Nat → Int64 := v_Ru_feed18V_zX zG zO zX zY zA zB j bk k mm
noncomputable def v_La_feed18V_zY (zG : Nat → Nat × Nat) (zO : Nat → Nat) (zX : Nat → Nat → Int64) (zY : Nat → Nat → Int32) (zA : Nat → Nat → Nat → Int32) (zB : Nat → Int32) (j : Nat) (bk : Int32) (k : Nat) (mm : Nat) : Nat → Nat → Int32 := v_Ru_feed18V_zY zG zO zX zY zA zB j bk k mm
noncomputable def v_La_feed18V_zB (zG : Nat → Nat × Nat) (zO : Nat → Nat) (zX : Nat → Nat → Int64) (zY : Nat → Nat → Int32) (zA : Nat → Nat → Nat → Int32) (zB : Nat → Int32) (j : Nat) (bk : Int32) (k : Nat) (mm : Nat) : Nat → Int32 := v_Ru_feed18V_zB zG zO zX zY zA zB j bk k mm
noncomputable def v_La_feed18V_zQ (zG : Nat → Nat × Nat) (zO : Nat → Nat) (zX : Nat → Nat → Int64) (zY : Nat → Nat → Int32) (zA : Nat → Nat → Nat → Int32) (zB : Nat → Int32) (j : Nat) (bk : Int32) (k : Nat) (mm : Nat) : Int64 := (Int32.toInt64 (v_Ru_feed18V zG zO zX zY zA zB j bk k mm))
abbrev ws_La_feed18V : List Cond := Cond.codeWith y_La_feed b_La_feed 7 (some .int) [((0 : Nat), (14 : Nat), (17 : Nat), (13 : Nat)), ((0 : Nat), (14 : Nat), (21 : Nat), (17 : Nat)), ((0 : Nat), (14 : Nat), (25 : Nat), (15 : Nat))] :: aw_G
abbrev rm_La_feed18V : Room := { frames := 7, cells := 1, slots := 6, locals := 178 }
set_option maxHeartbeats 4000000 in
set_option maxRecDepth 100000 in
theorem k_La_feed18V (l : Launch) (hst : l.stackTraces = false) (D : va_G) (g : Nat → ClassId) (ad : Nat → Nat) (N0 : Nat) (zG : Nat → Nat × Nat) (zO : Nat → Nat) (zX : Nat → Nat → Int64) (zY : Nat → Nat → Int32) (zA : Nat → Nat → Nat → Int32) (zB : Nat → Int32) (zM : Nat → Nat × Nat) (zI : Nat → Nat → Int32) (zL : Nat → Nat → Int64) (zK : Int32) (zN : Nat) (zF : Int32) (zQ : Int64) (j : Nat) (bk : Int32) (k : Nat) (mm : Nat) (hj : j < 4) (h0 : 0 < mm) (hk : k + 8 * mm ≤ 64) (hs : (zG j).1 = 3) (hm : (zG j).2 ≤ 1) : Met l y_La_feed ws_La_feed18V rm_La_feed18V (va_Pc ([.ref (aw_r ad 0), .int (nI j), .int bk, .int (nI k), .int (nI (8 * mm)), .ref (aw_o ad)] : List Value) (ag_B D g N0 (az_Sh g ad zG zO zX zY zA zB zM zI zL zK zN zF zQ))) (va_Qi (fun r (_ : Unit) => r = nI 0) (fun (_ : Unit) t => ag_H D N0 (az_Sh g ad zG zO (v_La_feed18V_zX zG zO zX zY zA zB j bk k mm) (v_La_feed18V_zY zG zO zX zY zA zB j bk k mm) zA (v_La_feed18V_zB zG zO zX zY zA zB j bk k mm) zM zI zL zK zN zF (v_La_feed18V_zQ zG zO zX zY zA zB j bk k mm)) t.heap) (aw_Z N0)) 1 6 (aw_Z N0) := by
  refine va_MetW (cc := b_La_feed) (maxL := 7) (ret := (some .int)) (hh := [((0 : Nat), (14 : Nat), (17 : Nat), (13 : Nat)), ((0 : Nat), (14 : Nat), (21 : Nat), (17 : Nat)), ((0 : Nat), (14 : Nat), (25 : Nat), (15 : Nat))]) (by decide) rfl ?_
  intro p e s m args below meth c s₁ B hml hv
  obtain ⟨rfl, ⟨L, hP, hD, hSh⟩, hU⟩ := hv
  have hx := B.exec
  have hb := B.bytes
  have hr := B.returns
  have hG : ∀ w ∈ aw_G, w.before _ s = true := fun w h => atoms_spec (ws := ws_La_feed18V) B.pre w (List.mem_cons_of_mem _ h)
  have htab : c.exceptionTable.toList = tableOf [((0 : Nat), (14 : Nat), (17 : Nat), (13 : Nat)), ((0 : Nat), (14 : Nat), (21 : Nat), (17 : Nat)), ((0 : Nat), (14 : Nat), (25 : Nat), (15 : Nat))] := vx_table (x := y_La_feed) B (atoms_spec (ws := ws_La_feed18V) B.pre _ List.mem_cons_self)
  have hown : s.vm.findClass "RuleCiphersLaw" = some m.cls := findClass_of_methodNamed B.named
  have hlocks := B.notSynchronized
  have hE := hU.1
  have hK := hE.1
  have hN := hE.2.1
  have hS : va_S (aw_Z N0) s.heap s.heap [] := va_S.rf
  have hl := lv_entry ([.ref (aw_r ad 0), .int (nI j), .int bk, .int (nI k), .int (nI (8 * mm)), .ref (aw_o ad)] : List Value) (n := 7) (Nat.le_of_ble_eq_true rfl)
  rw [lg_entry_eq]
  generalize (lg_sl ([.ref (aw_r ad 0), .int (nI j), .int bk, .int (nI k), .int (nI (8 * mm)), .ref (aw_o ad)] : List Value) ++ List.replicate (7 - (lg_sl ([.ref (aw_r ad 0), .int (nI j), .int bk, .int (nI k), .int (nI (8 * mm)), .ref (aw_o ad)] : List Value)).length) Slot.unset).toArray = ls at hl ⊢
  have hl : lv_has ls 7 [(0, .ref (aw_r ad 0)), (1, .int (nI j)), (2, .int bk), (3, .int (nI k)), (4, .int (nI (8 * mm))), (5, .ref (aw_o ad))] := hl
  refine lv_aload hx hb d_La_feed_0 (lv_at hl 5 rfl) ?_
  refine lv_iconst (v := nI 0) hx hb d_La_feed_2 (by decide +kernel) ?_
  refine lv_aload_n hx hb d_La_feed_3 rfl (lv_at hl 0 rfl) ?_
  refine lv_iload_n hx hb d_La_feed_4 rfl (lv_at hl 1 rfl) ?_
  refine lv_iload_n hx hb d_La_feed_5 rfl (lv_at hl 2 rfl) ?_
  refine lv_iload_n hx hb d_La_feed_6 rfl (lv_at hl 3 rfl) ?_
  refine lv_iload hx hb d_La_feed_7 (lv_at hl 4 rfl) ?_
  have he1 := zr_R0 hSh
  refine va_calli (va_runV (As := [.int (nI j), .int bk, .int (nI k), .int (nI (8 * mm))]) (rest := [.int (nI 0), .ref (aw_o ad)]) ⟨hx, hb, hml, hown, hG⟩ (k_Ru_feed18V l D g ad N0 zG zO zX zY zA zB zM zI zL zK zN zF zQ j bk k mm hj h0 hk hs hm) (aw_wV 4 hG gw_7_46 gw_7_43 gw_0_1 gw_7_44 gw_7_45 rfl rfl hd_Ru_feed ⟨Nat.le_of_ble_eq_true rfl, Nat.le_of_ble_eq_true rfl⟩) (ag_qV (va_recv hK hP rfl he1) hP hD hSh hU hS) rfl rfl hl.1 rfl (lv_room (Nat.le_of_ble_eq_true rfl)) d_La_feed_9 ⟨Nat.le_of_ble_eq_true rfl, Nat.le_of_ble_eq_true rfl⟩) hS (fun _ _ h => h) (fun _ h => h) ?_
  clear hP hD hSh hS he1
  intro x2 u8 t8 H locs ht _ ex2 hB _ _ hS
  obtain ⟨L, hP, hD, hSh⟩ := hB
  rw [ht] at hP
  clear ht
  obtain ⟨zX3, ezX3⟩ : ∃ z : Nat → Nat → Int64, v_Ru_feed18V_zX zG zO zX zY zA zB j bk k mm = z := ⟨_, rfl⟩
  rw [ezX3] at hSh
  obtain ⟨zY4, ezY4⟩ : ∃ z : Nat → Nat → Int32, v_Ru_feed18V_zY zG zO zX zY zA zB j bk k mm = z := ⟨_, rfl⟩
  rw [ezY4] at hSh
  obtain ⟨zB5, ezB5⟩ : ∃ z : Nat → Int32, v_Ru_feed18V_zB zG zO zX zY zA zB j bk k mm = z := ⟨_, rfl⟩
  rw [ezB5] at hSh
  have ex2 := ex2.symm
  refine lv_i2l hx hb d_La_feed_12 rfl ?_
  refine ag_topl (fun y6 ey6 => ?_)
  obtain ⟨f8, hc9, he7⟩ := zr_O0 hSh
  refine ag_lst hx hb hK hP hD hS 84 1 he7 rfl (k := 0) (by omega) (by decide) d_La_feed_13 (zw_Q hSh f8 y6) ?_
  clear hP hD hSh hS he7
  intro H locs L hP hD hSh hS
  obtain ⟨zQ10, ezQ10⟩ : ∃ z : Int64, y6 = z := ⟨_, rfl⟩
  rw [ezQ10] at hSh
  refine lv_goto (tgt := 29) hx hb d_La_feed_14 (by decide) ?_
  refine lv_iconst (v := nI 0) hx hb d_La_feed_29 (by decide +kernel) ?_
  refine W.widen (k := 1) (n := 6) (Nat.le_of_ble_eq_true rfl) (Nat.le_of_ble_eq_true rfl) ?_
  have gzX : zX3 = v_La_feed18V_zX zG zO zX zY zA zB j bk k mm := by subst ezQ10 ey6 ex2 ezB5 ezY4 ezX3; rfl
  have gzY : zY4 = v_La_feed18V_zY zG zO zX zY zA zB j bk k mm := by subst ezQ10 ey6 ex2 ezB5 ezY4 ezX3; rfl
  have gzB : zB5 = v_La_feed18V_zB zG zO zX zY zA zB j bk k mm := by subst ezQ10 ey6 ex2 ezB5 ezY4 ezX3; rfl
  have gzQ : zQ10 = v_La_feed18V_zQ zG zO zX zY zA zB j bk k mm := by subst ezQ10 ey6 ex2 ezB5 ezY4 ezX3; rfl
  have hSh : az_Sh g ad zG zO (v_La_feed18V_zX zG zO zX zY zA zB j bk k mm) (v_La_feed18V_zY zG zO zX zY zA zB j bk k mm) zA (v_La_feed18V_zB zG zO zX zY zA zB j bk k mm) zM zI zL zK zN zF (v_La_feed18V_zQ zG zO zX zY zA zB j bk k mm) L := by rw [← gzX, ← gzY, ← gzB, ← gzQ]; exact hSh
  exact W.iret hx hb hr (fun t ht hW => ⟨⟨_, (), rfl, rfl, ag_Hr ht hP hD hSh⟩, hS.F ht⟩) hS.2.2 d_La_feed_30
noncomputable def v_La_take10V_zY (zY : Nat → Nat → Int32) (j : Nat) : Nat → Nat → Int32 := v_Ru_take10V_zY zY j
noncomputable def v_La_take10V_zQ (zY : Nat → Nat → Int32) (j : Nat) : Int64 := (Int32.toInt64 (v_Ru_take10V zY j))
abbrev ws_La_take10V : List Cond := Cond.codeWith y_La_take b_La_take 6 (some .int) [((0 : Nat), (12 : Nat), (15 : Nat), (13 : Nat)), ((0 : Nat), (12 : Nat), (19 : Nat), (17 : Nat))] :: aw_G
abbrev rm_La_take10V : Room := { frames := 3, cells := 1, slots := 6, locals := 72 }
set_option maxHeartbeats 4000000 in
set_option maxRecDepth 100000 in
theorem k_La_take10V (l : Launch) (hst : l.stackTraces = false) (D : va_G) (g : Nat → ClassId) (ad : Nat → Nat) (N0 : Nat) (zG : Nat → Nat × Nat) (zO : Nat → Nat) (zX : Nat → Nat → Int64) (zY : Nat → Nat → Int32) (zA : Nat → Nat → Nat → Int32) (zB : Nat → Int32) (zM : Nat → Nat × Nat) (zI : Nat → Nat → Int32) (zL : Nat → Nat → Int64) (zK : Int32) (zN : Nat) (zF : Int32) (zQ : Int64) (j : Nat) (fr : Int32) (hj : j < 4) (hs : (zG j).1 = 3 ∧ (zG j).2 = 5) : Met l y_La_take ws_La_take10V rm_La_take10V (va_Pc ([.ref (aw_r ad 0), .int (nI j), .int fr, .int (nI 0), .ref (aw_o ad)] : List Value) (ag_B D g N0 (az_Sh g ad zG zO zX zY zA zB zM zI zL zK zN zF zQ))) (va_Qi (fun r (_ : Unit) => r = nI 0) (fun (_ : Unit) t => ag_H D N0 (az_Sh g ad zG zO zX (v_La_take10V_zY zY j) zA zB zM zI zL zK zN zF (v_La_take10V_zQ zY j)) t.heap) (aw_Z N0)) 1 6 (aw_Z N0) := by
  refine va_MetW (cc := b_La_take) (maxL := 6) (ret := (some .int)) (hh := [((0 : Nat), (12 : Nat), (15 : Nat), (13 : Nat)), ((0 : Nat), (12 : Nat), (19 : Nat), (17 : Nat))]) (by decide) rfl ?_
  intro p e s m args below meth c s₁ B hml hv
  obtain ⟨rfl, ⟨L, hP, hD, hSh⟩, hU⟩ := hv
  have hx := B.exec
  have hb := B.bytes
  have hr := B.returns
  have hG : ∀ w ∈ aw_G, w.before _ s = true := fun w h => atoms_spec (ws := ws_La_take10V) B.pre w (List.mem_cons_of_mem _ h)
  have htab : c.exceptionTable.toList = tableOf [((0 : Nat), (12 : Nat), (15 : Nat), (13 : Nat)), ((0 : Nat), (12 : Nat), (19 : Nat), (17 : Nat))] := vx_table (x := y_La_take) B (atoms_spec (ws := ws_La_take10V) B.pre _ List.mem_cons_self)
  have hown : s.vm.findClass "RuleCiphersLaw" = some m.cls := findClass_of_methodNamed B.named
  have hlocks := B.notSynchronized
  have hE := hU.1
  have hK := hE.1
  have hN := hE.2.1
  have hS : va_S (aw_Z N0) s.heap s.heap [] := va_S.rf
  have hl := lv_entry ([.ref (aw_r ad 0), .int (nI j), .int fr, .int (nI 0), .ref (aw_o ad)] : List Value) (n := 6) (Nat.le_of_ble_eq_true rfl)
  rw [lg_entry_eq]
  generalize (lg_sl ([.ref (aw_r ad 0), .int (nI j), .int fr, .int (nI 0), .ref (aw_o ad)] : List Value) ++ List.replicate (6 - (lg_sl ([.ref (aw_r ad 0), .int (nI j), .int fr, .int (nI 0), .ref (aw_o ad)] : List Value)).length) Slot.unset).toArray = ls at hl ⊢
  have hl : lv_has ls 6 [(0, .ref (aw_r ad 0)), (1, .int (nI j)), (2, .int fr), (3, .int (nI 0)), (4, .ref (aw_o ad))] := hl
  refine lv_aload hx hb d_La_take_0 (lv_at hl 4 rfl) ?_
  refine lv_iconst (v := nI 0) hx hb d_La_take_2 (by decide +kernel) ?_
  refine lv_aload_n hx hb d_La_take_3 rfl (lv_at hl 0 rfl) ?_
  refine lv_iload_n hx hb d_La_take_4 rfl (lv_at hl 1 rfl) ?_
  refine lv_iload_n hx hb d_La_take_5 rfl (lv_at hl 2 rfl) ?_
  refine lv_iload_n hx hb d_La_take_6 rfl (lv_at hl 3 rfl) ?_
  have he1 := zr_R0 hSh
  refine va_calli (va_runV (As := [.int (nI j), .int fr, .int (nI 0)]) (rest := [.int (nI 0), .ref (aw_o ad)]) ⟨hx, hb, hml, hown, hG⟩ (k_Ru_take10V l D g ad N0 zG zO zX zY zA zB zM zI zL zK zN zF zQ j fr hj hs) (aw_wV 3 hG gw_8_44 gw_8_41 gw_0_1 gw_8_42 gw_8_43 rfl rfl hd_Ru_take ⟨Nat.le_of_ble_eq_true rfl, Nat.le_of_ble_eq_true rfl⟩) (ag_qV (va_recv hK hP rfl he1) hP hD hSh hU hS) rfl rfl hl.1 rfl (lv_room (Nat.le_of_ble_eq_true rfl)) d_La_take_7 ⟨Nat.le_of_ble_eq_true rfl, Nat.le_of_ble_eq_true rfl⟩) hS (fun _ _ h => h) (fun _ h => h) ?_
  clear hP hD hSh hS he1
  intro x2 u8 t8 H locs ht _ ex2 hB _ _ hS
  obtain ⟨L, hP, hD, hSh⟩ := hB
  rw [ht] at hP
  clear ht
  obtain ⟨zY3, ezY3⟩ : ∃ z : Nat → Nat → Int32, v_Ru_take10V_zY zY j = z := ⟨_, rfl⟩
  rw [ezY3] at hSh
  have ex2 := ex2.symm
  refine lv_i2l hx hb d_La_take_10 rfl ?_
  refine ag_topl (fun y4 ey4 => ?_)
  obtain ⟨f6, hc7, he5⟩ := zr_O0 hSh
  refine ag_lst hx hb hK hP hD hS 84 1 he5 rfl (k := 0) (by omega) (by decide) d_La_take_11 (zw_Q hSh f6 y4) ?_
  clear hP hD hSh hS he5
  intro H locs L hP hD hSh hS
  obtain ⟨zQ8, ezQ8⟩ : ∃ z : Int64, y4 = z := ⟨_, rfl⟩
  rw [ezQ8] at hSh
  refine lv_goto (tgt := 23) hx hb d_La_take_12 (by decide) ?_
  refine lv_iconst (v := nI 0) hx hb d_La_take_23 (by decide +kernel) ?_
  refine W.widen (k := 1) (n := 6) (Nat.le_of_ble_eq_true rfl) (Nat.le_of_ble_eq_true rfl) ?_
  have gzY : zY3 = v_La_take10V_zY zY j := by subst ezQ8 ey4 ex2 ezY3; rfl
  have gzQ : zQ8 = v_La_take10V_zQ zY j := by subst ezQ8 ey4 ex2 ezY3; rfl
  have hSh : az_Sh g ad zG zO zX (v_La_take10V_zY zY j) zA zB zM zI zL zK zN zF (v_La_take10V_zQ zY j) L := by rw [← gzY, ← gzQ]; exact hSh
  exact W.iret hx hb hr (fun t ht hW => ⟨⟨_, (), rfl, rfl, ag_Hr ht hP hD hSh⟩, hS.F ht⟩) hS.2.2 d_La_take_24
noncomputable def v_La_take11V_zX (zO : Nat → Nat) (zX : Nat → Nat → Int64) (zY : Nat → Nat → Int32) (zA : Nat → Nat → Nat → Int32) (zB : Nat → Int32) (j : Nat) (k : Nat) (mm : Nat) : Nat → Nat → Int64 := v_Ru_take11V_zX zO zX zY zA zB j k mm
noncomputable def v_La_take11V_zY (zO : Nat → Nat) (zX : Nat → Nat → Int64) (zY : Nat → Nat → Int32) (zA : Nat → Nat → Nat → Int32) (zB : Nat → Int32) (j : Nat) (k : Nat) (mm : Nat) : Nat → Nat → Int32 := v_Ru_take11V_zY zO zX zY zA zB j k mm
noncomputable def v_La_take11V_zQ (zO : Nat → Nat) (zX : Nat → Nat → Int64) (zY : Nat → Nat → Int32) (zA : Nat → Nat → Nat → Int32) (zB : Nat → Int32) (j : Nat) (k : Nat) (mm : Nat) : Int64 := (Int32.toInt64 (v_Ru_take11V zO zX zY zA zB j k mm))
abbrev ws_La_take11V : List Cond := Cond.codeWith y_La_take b_La_take 6 (some .int) [((0 : Nat), (12 : Nat), (15 : Nat), (13 : Nat)), ((0 : Nat), (12 : Nat), (19 : Nat), (17 : Nat))] :: aw_G
abbrev rm_La_take11V : Room := { frames := 7, cells := 1, slots := 6, locals := 173 }
set_option maxHeartbeats 4000000 in
set_option maxRecDepth 100000 in
theorem k_La_take11V (l : Launch) (hst : l.stackTraces = false) (D : va_G) (g : Nat → ClassId) (ad : Nat → Nat) (N0 : Nat) (zG : Nat → Nat × Nat) (zO : Nat → Nat) (zX : Nat → Nat → Int64) (zY : Nat → Nat → Int32) (zA : Nat → Nat → Nat → Int32) (zB : Nat → Int32) (zM : Nat → Nat × Nat) (zI : Nat → Nat → Int32) (zL : Nat → Nat → Int64) (zK : Int32) (zN : Nat) (zF : Int32) (zQ : Int64) (j : Nat) (k : Nat) (mm : Nat) (hj : j < 4) (h0 : 0 < mm) (hk : k + mm ≤ 64) (hs : (zG j).1 = 3 ∧ (zG j).2 = 5) : Met l y_La_take ws_La_take11V rm_La_take11V (va_Pc ([.ref (aw_r ad 0), .int (nI j), .int (nI k), .int (nI mm), .ref (aw_o ad)] : List Value) (ag_B D g N0 (az_Sh g ad zG zO zX zY zA zB zM zI zL zK zN zF zQ))) (va_Qi (fun r (_ : Unit) => r = nI 0) (fun (_ : Unit) t => ag_H D N0 (az_Sh g ad zG zO (v_La_take11V_zX zO zX zY zA zB j k mm) (v_La_take11V_zY zO zX zY zA zB j k mm) zA zB zM zI zL zK zN zF (v_La_take11V_zQ zO zX zY zA zB j k mm)) t.heap) (aw_Z N0)) 1 6 (aw_Z N0) := by
  refine va_MetW (cc := b_La_take) (maxL := 6) (ret := (some .int)) (hh := [((0 : Nat), (12 : Nat), (15 : Nat), (13 : Nat)), ((0 : Nat), (12 : Nat), (19 : Nat), (17 : Nat))]) (by decide) rfl ?_
  intro p e s m args below meth c s₁ B hml hv
  obtain ⟨rfl, ⟨L, hP, hD, hSh⟩, hU⟩ := hv
  have hx := B.exec
  have hb := B.bytes
  have hr := B.returns
  have hG : ∀ w ∈ aw_G, w.before _ s = true := fun w h => atoms_spec (ws := ws_La_take11V) B.pre w (List.mem_cons_of_mem _ h)
  have htab : c.exceptionTable.toList = tableOf [((0 : Nat), (12 : Nat), (15 : Nat), (13 : Nat)), ((0 : Nat), (12 : Nat), (19 : Nat), (17 : Nat))] := vx_table (x := y_La_take) B (atoms_spec (ws := ws_La_take11V) B.pre _ List.mem_cons_self)
  have hown : s.vm.findClass "RuleCiphersLaw" = some m.cls := findClass_of_methodNamed B.named
  have hlocks := B.notSynchronized
  have hE := hU.1
  have hK := hE.1
  have hN := hE.2.1
  have hS : va_S (aw_Z N0) s.heap s.heap [] := va_S.rf
  have hl := lv_entry ([.ref (aw_r ad 0), .int (nI j), .int (nI k), .int (nI mm), .ref (aw_o ad)] : List Value) (n := 6) (Nat.le_of_ble_eq_true rfl)
  rw [lg_entry_eq]
  generalize (lg_sl ([.ref (aw_r ad 0), .int (nI j), .int (nI k), .int (nI mm), .ref (aw_o ad)] : List Value) ++ List.replicate (6 - (lg_sl ([.ref (aw_r ad 0), .int (nI j), .int (nI k), .int (nI mm), .ref (aw_o ad)] : List Value)).length) Slot.unset).toArray = ls at hl ⊢
  have hl : lv_has ls 6 [(0, .ref (aw_r ad 0)), (1, .int (nI j)), (2, .int (nI k)), (3, .int (nI mm)), (4, .ref (aw_o ad))] := hl
  refine lv_aload hx hb d_La_take_0 (lv_at hl 4 rfl) ?_
  refine lv_iconst (v := nI 0) hx hb d_La_take_2 (by decide +kernel) ?_
  refine lv_aload_n hx hb d_La_take_3 rfl (lv_at hl 0 rfl) ?_
  refine lv_iload_n hx hb d_La_take_4 rfl (lv_at hl 1 rfl) ?_
  refine lv_iload_n hx hb d_La_take_5 rfl (lv_at hl 2 rfl) ?_
  refine lv_iload_n hx hb d_La_take_6 rfl (lv_at hl 3 rfl) ?_
  have he1 := zr_R0 hSh
  refine va_calli (va_runV (As := [.int (nI j), .int (nI k), .int (nI mm)]) (rest := [.int (nI 0), .ref (aw_o ad)]) ⟨hx, hb, hml, hown, hG⟩ (k_Ru_take11V l D g ad N0 zG zO zX zY zA zB zM zI zL zK zN zF zQ j k mm hj h0 hk hs) (aw_wV 3 hG gw_8_44 gw_8_41 gw_0_1 gw_8_42 gw_8_43 rfl rfl hd_Ru_take ⟨Nat.le_of_ble_eq_true rfl, Nat.le_of_ble_eq_true rfl⟩) (ag_qV (va_recv hK hP rfl he1) hP hD hSh hU hS) rfl rfl hl.1 rfl (lv_room (Nat.le_of_ble_eq_true rfl)) d_La_take_7 ⟨Nat.le_of_ble_eq_true rfl, Nat.le_of_ble_eq_true rfl⟩) hS (fun _ _ h => h) (fun _ h => h) ?_
  clear hP hD hSh hS he1
  intro x2 u8 t8 H locs ht _ ex2 hB _ _ hS
  obtain ⟨L, hP, hD, hSh⟩ := hB
  rw [ht] at hP
  clear ht
  obtain ⟨zX3, ezX3⟩ : ∃ z : Nat → Nat → Int64, v_Ru_take11V_zX zO zX zY zA zB j k mm = z := ⟨_, rfl⟩
  rw [ezX3] at hSh
  obtain ⟨zY4, ezY4⟩ : ∃ z : Nat → Nat → Int32, v_Ru_take11V_zY zO zX zY zA zB j k mm = z := ⟨_, rfl⟩
  rw [ezY4] at hSh
  have ex2 := ex2.symm
  refine lv_i2l hx hb d_La_take_10 rfl ?_
  refine ag_topl (fun y5 ey5 => ?_)
  obtain ⟨f7, hc8, he6⟩ := zr_O0 hSh
  refine ag_lst hx hb hK hP hD hS 84 1 he6 rfl (k := 0) (by omega) (by decide) d_La_take_11 (zw_Q hSh f7 y5) ?_
  clear hP hD hSh hS he6
  intro H locs L hP hD hSh hS
  obtain ⟨zQ9, ezQ9⟩ : ∃ z : Int64, y5 = z := ⟨_, rfl⟩
  rw [ezQ9] at hSh
  refine lv_goto (tgt := 23) hx hb d_La_take_12 (by decide) ?_
  refine lv_iconst (v := nI 0) hx hb d_La_take_23 (by decide +kernel) ?_
  refine W.widen (k := 1) (n := 6) (Nat.le_of_ble_eq_true rfl) (Nat.le_of_ble_eq_true rfl) ?_
  have gzX : zX3 = v_La_take11V_zX zO zX zY zA zB j k mm := by subst ezQ9 ey5 ex2 ezY4 ezX3; rfl
  have gzY : zY4 = v_La_take11V_zY zO zX zY zA zB j k mm := by subst ezQ9 ey5 ex2 ezY4 ezX3; rfl
  have gzQ : zQ9 = v_La_take11V_zQ zO zX zY zA zB j k mm := by subst ezQ9 ey5 ex2 ezY4 ezX3; rfl
  have hSh : az_Sh g ad zG zO (v_La_take11V_zX zO zX zY zA zB j k mm) (v_La_take11V_zY zO zX zY zA zB j k mm) zA zB zM zI zL zK zN zF (v_La_take11V_zQ zO zX zY zA zB j k mm) L := by rw [← gzX, ← gzY, ← gzQ]; exact hSh
  exact W.iret hx hb hr (fun t ht hW => ⟨⟨_, (), rfl, rfl, ag_Hr ht hP hD hSh⟩, hS.F ht⟩) hS.2.2 d_La_take_24
abbrev ws_La_takeXcV : List Cond := Cond.codeWith y_La_take b_La_take 6 (some .int) [((0 : Nat), (12 : Nat), (15 : Nat), (13 : Nat)), ((0 : Nat), (12 : Nat), (19 : Nat), (17 : Nat))] :: aw_G
abbrev rm_La_takeXcV : Room := { frames := 8, cells := 1, slots := 6, locals := 135 }
set_option maxHeartbeats 4000000 in
set_option maxRecDepth 100000 in
theorem k_La_takeXcV (l : Launch) (hst : l.stackTraces = false) (D : va_G) (g : Nat → ClassId) (ad : Nat → Nat) (N0 : Nat) (zG : Nat → Nat × Nat) (zO : Nat → Nat) (zX : Nat → Nat → Int64) (zY : Nat → Nat → Int32) (zA : Nat → Nat → Nat → Int32) (zB : Nat → Int32) (zM : Nat → Nat × Nat) (zI : Nat → Nat → Int32) (zL : Nat → Nat → Int64) (zK : Int32) (zN : Nat) (zF : Int32) (zQ : Int64) (c0 : Int32) (fr : Int32) (m0 : Int32) (hc : c0 < 0 ∨ (¬ c0 < 0 ∧ ¬ c0 < nI 4)) : Met l y_La_take ws_La_takeXcV rm_La_takeXcV (va_Pc ([.ref (aw_r ad 0), .int c0, .int fr, .int m0, .ref (aw_o ad)] : List Value) (ag_B D g N0 (az_Sh g ad zG zO zX zY zA zB zM zI zL zK zN zF zQ))) (va_Qi (fun r (_ : Unit) => r = nI 1) (fun (_ : Unit) t => ag_H D N0 (az_Sh g ad zG zO zX zY zA zB zM zI zL zK zN zF zQ) t.heap) (aw_Z N0)) 1 6 (aw_Z N0) := by
  refine va_MetW (cc := b_La_take) (maxL := 6) (ret := (some .int)) (hh := [((0 : Nat), (12 : Nat), (15 : Nat), (13 : Nat)), ((0 : Nat), (12 : Nat), (19 : Nat), (17 : Nat))]) (by decide) rfl ?_
  intro p e s m args below meth c s₁ B hml hv
  obtain ⟨rfl, ⟨L, hP, hD, hSh⟩, hU⟩ := hv
  have hx := B.exec
  have hb := B.bytes
  have hr := B.returns
  have hG : ∀ w ∈ aw_G, w.before _ s = true := fun w h => atoms_spec (ws := ws_La_takeXcV) B.pre w (List.mem_cons_of_mem _ h)
  have htab : c.exceptionTable.toList = tableOf [((0 : Nat), (12 : Nat), (15 : Nat), (13 : Nat)), ((0 : Nat), (12 : Nat), (19 : Nat), (17 : Nat))] := vx_table (x := y_La_take) B (atoms_spec (ws := ws_La_takeXcV) B.pre _ List.mem_cons_self)
  have hown : s.vm.findClass "RuleCiphersLaw" = some m.cls := findClass_of_methodNamed B.named
  have hlocks := B.notSynchronized
  have hE := hU.1
  have hK := hE.1
  have hN := hE.2.1
  have hS : va_S (aw_Z N0) s.heap s.heap [] := va_S.rf
  have hl := lv_entry ([.ref (aw_r ad 0), .int c0, .int fr, .int m0, .ref (aw_o ad)] : List Value) (n := 6) (Nat.le_of_ble_eq_true rfl)
  rw [lg_entry_eq]
  generalize (lg_sl ([.ref (aw_r ad 0), .int c0, .int fr, .int m0, .ref (aw_o ad)] : List Value) ++ List.replicate (6 - (lg_sl ([.ref (aw_r ad 0), .int c0, .int fr, .int m0, .ref (aw_o ad)] : List Value)).length) Slot.unset).toArray = ls at hl ⊢
  have hl : lv_has ls 6 [(0, .ref (aw_r ad 0)), (1, .int c0), (2, .int fr), (3, .int m0), (4, .ref (aw_o ad))] := hl
  refine lv_aload hx hb d_La_take_0 (lv_at hl 4 rfl) ?_
  refine lv_iconst (v := nI 0) hx hb d_La_take_2 (by decide +kernel) ?_
  refine lv_aload_n hx hb d_La_take_3 rfl (lv_at hl 0 rfl) ?_
  refine lv_iload_n hx hb d_La_take_4 rfl (lv_at hl 1 rfl) ?_
  refine lv_iload_n hx hb d_La_take_5 rfl (lv_at hl 2 rfl) ?_
  refine lv_iload_n hx hb d_La_take_6 rfl (lv_at hl 3 rfl) ?_
  have he1 := zr_R0 hSh
  refine vx_callv (vx_runV (As := [.int c0, .int fr, .int m0]) (rest := [.int (nI 0), .ref (aw_o ad)]) ⟨hx, hb, hml, hown, hG⟩ (k_Ru_takeXcV l hst D g ad N0 zG zO zX zY zA zB zM zI zL zK zN zF zQ c0 fr m0 hc) (aw_wV 3 hG gw_8_44 gw_8_41 gw_0_1 gw_8_42 gw_8_43 rfl rfl hd_Ru_take ⟨Nat.le_of_ble_eq_true rfl, Nat.le_of_ble_eq_true rfl⟩) (ag_qV (va_recv hK hP rfl he1) hP hD hSh hU hS) rfl rfl hl.1 rfl (lv_room (Nat.le_of_ble_eq_true rfl)) d_La_take_7 ⟨Nat.le_of_ble_eq_true rfl, Nat.le_of_ble_eq_true rfl⟩) hS (fun _ _ h => h) (fun _ h => h) (fun _ _ h => h) (fun E ce q9 u t H locs ht _ _ hBX _ _ hS hce hcv hcl => ?_) (fun u t H locs _ _ hF _ _ _ _ => hF.elim)
  obtain ⟨rfl, L, hP, hD, hSh⟩ := hBX
  rw [ht] at hP
  refine vx_catch hown [] ⟨0, 12, 15, 13⟩ [⟨0, 12, 19, 17⟩] htab aw_ps0 (by decide) (by decide) (hG _ gw_2_38) (va_Nw.use rfl (hN _ nw_2)) hce hcv hcl ?_
  refine W.eq (g2 := F0 m 15 ls [.ref q9]) rfl ?_
  refine lv_astore hx hb d_La_take_15 hl (by decide) rfl (fun ls hl => ?_)
  have hl : lv_has ls 6 [(5, .ref q9), (0, .ref (aw_r ad 0)), (1, .int c0), (2, .int fr), (3, .int m0), (4, .ref (aw_o ad))] := hl
  refine lv_iconst (v := nI 1) hx hb d_La_take_17 (by decide +kernel) ?_
  exact W.iret hx hb hr (fun t ht hW => ⟨⟨_, (), rfl, rfl, ag_Hr ht hP hD hSh⟩, hS.F ht⟩) hS.2.2 d_La_take_18
abbrev ws_La_takeXbV : List Cond := Cond.codeWith y_La_take b_La_take 6 (some .int) [((0 : Nat), (12 : Nat), (15 : Nat), (13 : Nat)), ((0 : Nat), (12 : Nat), (19 : Nat), (17 : Nat))] :: aw_G
abbrev rm_La_takeXbV : Room := { frames := 8, cells := 1, slots := 6, locals := 136 }
set_option maxHeartbeats 4000000 in
set_option maxRecDepth 100000 in
theorem k_La_takeXbV (l : Launch) (hst : l.stackTraces = false) (D : va_G) (g : Nat → ClassId) (ad : Nat → Nat) (N0 : Nat) (zG : Nat → Nat × Nat) (zO : Nat → Nat) (zX : Nat → Nat → Int64) (zY : Nat → Nat → Int32) (zA : Nat → Nat → Nat → Int32) (zB : Nat → Int32) (zM : Nat → Nat × Nat) (zI : Nat → Nat → Int32) (zL : Nat → Nat → Int64) (zK : Int32) (zN : Nat) (zF : Int32) (zQ : Int64) (j : Nat) (fr : Int32) (m0 : Int32) (hj : j < 4) (hi : m0 < 0 ∨ (0 < m0 ∧ fr < 0) ∨ (0 < m0 ∧ ¬ fr < 0 ∧ nI 64 - fr < m0)) : Met l y_La_take ws_La_takeXbV rm_La_takeXbV (va_Pc ([.ref (aw_r ad 0), .int (nI j), .int fr, .int m0, .ref (aw_o ad)] : List Value) (ag_B D g N0 (az_Sh g ad zG zO zX zY zA zB zM zI zL zK zN zF zQ))) (va_Qi (fun r (_ : Unit) => r = nI 1) (fun (_ : Unit) t => ag_H D N0 (az_Sh g ad zG zO zX zY zA zB zM zI zL zK zN zF zQ) t.heap) (aw_Z N0)) 1 6 (aw_Z N0) := by
  refine va_MetW (cc := b_La_take) (maxL := 6) (ret := (some .int)) (hh := [((0 : Nat), (12 : Nat), (15 : Nat), (13 : Nat)), ((0 : Nat), (12 : Nat), (19 : Nat), (17 : Nat))]) (by decide) rfl ?_
  intro p e s m args below meth c s₁ B hml hv
  obtain ⟨rfl, ⟨L, hP, hD, hSh⟩, hU⟩ := hv
  have hx := B.exec
  have hb := B.bytes
  have hr := B.returns
  have hG : ∀ w ∈ aw_G, w.before _ s = true := fun w h => atoms_spec (ws := ws_La_takeXbV) B.pre w (List.mem_cons_of_mem _ h)
  have htab : c.exceptionTable.toList = tableOf [((0 : Nat), (12 : Nat), (15 : Nat), (13 : Nat)), ((0 : Nat), (12 : Nat), (19 : Nat), (17 : Nat))] := vx_table (x := y_La_take) B (atoms_spec (ws := ws_La_takeXbV) B.pre _ List.mem_cons_self)
  have hown : s.vm.findClass "RuleCiphersLaw" = some m.cls := findClass_of_methodNamed B.named
  have hlocks := B.notSynchronized
  have hE := hU.1
  have hK := hE.1
  have hN := hE.2.1
  have hS : va_S (aw_Z N0) s.heap s.heap [] := va_S.rf
  have hl := lv_entry ([.ref (aw_r ad 0), .int (nI j), .int fr, .int m0, .ref (aw_o ad)] : List Value) (n := 6) (Nat.le_of_ble_eq_true rfl)
  rw [lg_entry_eq]
  generalize (lg_sl ([.ref (aw_r ad 0), .int (nI j), .int fr, .int m0, .ref (aw_o ad)] : List Value) ++ List.replicate (6 - (lg_sl ([.ref (aw_r ad 0), .int (nI j), .int fr, .int m0, .ref (aw_o ad)] : List Value)).length) Slot.unset).toArray = ls at hl ⊢
  have hl : lv_has ls 6 [(0, .ref (aw_r ad 0)), (1, .int (nI j)), (2, .int fr), (3, .int m0), (4, .ref (aw_o ad))] := hl
  refine lv_aload hx hb d_La_take_0 (lv_at hl 4 rfl) ?_
  refine lv_iconst (v := nI 0) hx hb d_La_take_2 (by decide +kernel) ?_
  refine lv_aload_n hx hb d_La_take_3 rfl (lv_at hl 0 rfl) ?_
  refine lv_iload_n hx hb d_La_take_4 rfl (lv_at hl 1 rfl) ?_
  refine lv_iload_n hx hb d_La_take_5 rfl (lv_at hl 2 rfl) ?_
  refine lv_iload_n hx hb d_La_take_6 rfl (lv_at hl 3 rfl) ?_
  have he1 := zr_R0 hSh
  refine vx_callv (vx_runV (As := [.int (nI j), .int fr, .int m0]) (rest := [.int (nI 0), .ref (aw_o ad)]) ⟨hx, hb, hml, hown, hG⟩ (k_Ru_takeXbV l hst D g ad N0 zG zO zX zY zA zB zM zI zL zK zN zF zQ j fr m0 hj hi) (aw_wV 3 hG gw_8_44 gw_8_41 gw_0_1 gw_8_42 gw_8_43 rfl rfl hd_Ru_take ⟨Nat.le_of_ble_eq_true rfl, Nat.le_of_ble_eq_true rfl⟩) (ag_qV (va_recv hK hP rfl he1) hP hD hSh hU hS) rfl rfl hl.1 rfl (lv_room (Nat.le_of_ble_eq_true rfl)) d_La_take_7 ⟨Nat.le_of_ble_eq_true rfl, Nat.le_of_ble_eq_true rfl⟩) hS (fun _ _ h => h) (fun _ h => h) (fun _ _ h => h) (fun E ce q9 u t H locs ht _ _ hBX _ _ hS hce hcv hcl => ?_) (fun u t H locs _ _ hF _ _ _ _ => hF.elim)
  obtain ⟨rfl, L, hP, hD, hSh⟩ := hBX
  rw [ht] at hP
  refine vx_catch hown [] ⟨0, 12, 15, 13⟩ [⟨0, 12, 19, 17⟩] htab aw_ps0 (by decide) (by decide) (hG _ gw_2_38) (va_Nw.use rfl (hN _ nw_2)) hce hcv hcl ?_
  refine W.eq (g2 := F0 m 15 ls [.ref q9]) rfl ?_
  refine lv_astore hx hb d_La_take_15 hl (by decide) rfl (fun ls hl => ?_)
  have hl : lv_has ls 6 [(5, .ref q9), (0, .ref (aw_r ad 0)), (1, .int (nI j)), (2, .int fr), (3, .int m0), (4, .ref (aw_o ad))] := hl
  refine lv_iconst (v := nI 1) hx hb d_La_take_17 (by decide +kernel) ?_
  exact W.iret hx hb hr (fun t ht hW => ⟨⟨_, (), rfl, rfl, ag_Hr ht hP hD hSh⟩, hS.F ht⟩) hS.2.2 d_La_take_18
abbrev ws_La_takeXs0V : List Cond := Cond.codeWith y_La_take b_La_take 6 (some .int) [((0 : Nat), (12 : Nat), (15 : Nat), (13 : Nat)), ((0 : Nat), (12 : Nat), (19 : Nat), (17 : Nat))] :: aw_G
abbrev rm_La_takeXs0V : Room := { frames := 8, cells := 1, slots := 6, locals := 135 }
set_option maxHeartbeats 4000000 in
set_option maxRecDepth 100000 in
theorem k_La_takeXs0V (l : Launch) (hst : l.stackTraces = false) (D : va_G) (g : Nat → ClassId) (ad : Nat → Nat) (N0 : Nat) (zG : Nat → Nat × Nat) (zO : Nat → Nat) (zX : Nat → Nat → Int64) (zY : Nat → Nat → Int32) (zA : Nat → Nat → Nat → Int32) (zB : Nat → Int32) (zM : Nat → Nat × Nat) (zI : Nat → Nat → Int32) (zL : Nat → Nat → Int64) (zK : Int32) (zN : Nat) (zF : Int32) (zQ : Int64) (j : Nat) (fr : Int32) (hj : j < 4) (hs : (zG j).1 ≤ 2 ∨ ((zG j).1 = 3 ∧ (zG j).2 ≠ 5)) : Met l y_La_take ws_La_takeXs0V rm_La_takeXs0V (va_Pc ([.ref (aw_r ad 0), .int (nI j), .int fr, .int (nI 0), .ref (aw_o ad)] : List Value) (ag_B D g N0 (az_Sh g ad zG zO zX zY zA zB zM zI zL zK zN zF zQ))) (va_Qi (fun r (_ : Unit) => r = nI 2) (fun (_ : Unit) t => ag_H D N0 (az_Sh g ad zG zO zX zY zA zB zM zI zL zK zN zF zQ) t.heap) (aw_Z N0)) 1 6 (aw_Z N0) := by
  refine va_MetW (cc := b_La_take) (maxL := 6) (ret := (some .int)) (hh := [((0 : Nat), (12 : Nat), (15 : Nat), (13 : Nat)), ((0 : Nat), (12 : Nat), (19 : Nat), (17 : Nat))]) (by decide) rfl ?_
  intro p e s m args below meth c s₁ B hml hv
  obtain ⟨rfl, ⟨L, hP, hD, hSh⟩, hU⟩ := hv
  have hx := B.exec
  have hb := B.bytes
  have hr := B.returns
  have hG : ∀ w ∈ aw_G, w.before _ s = true := fun w h => atoms_spec (ws := ws_La_takeXs0V) B.pre w (List.mem_cons_of_mem _ h)
  have htab : c.exceptionTable.toList = tableOf [((0 : Nat), (12 : Nat), (15 : Nat), (13 : Nat)), ((0 : Nat), (12 : Nat), (19 : Nat), (17 : Nat))] := vx_table (x := y_La_take) B (atoms_spec (ws := ws_La_takeXs0V) B.pre _ List.mem_cons_self)
  have hown : s.vm.findClass "RuleCiphersLaw" = some m.cls := findClass_of_methodNamed B.named
  have hlocks := B.notSynchronized
  have hE := hU.1
  have hK := hE.1
  have hN := hE.2.1
  have hS : va_S (aw_Z N0) s.heap s.heap [] := va_S.rf
  have hl := lv_entry ([.ref (aw_r ad 0), .int (nI j), .int fr, .int (nI 0), .ref (aw_o ad)] : List Value) (n := 6) (Nat.le_of_ble_eq_true rfl)
  rw [lg_entry_eq]
  generalize (lg_sl ([.ref (aw_r ad 0), .int (nI j), .int fr, .int (nI 0), .ref (aw_o ad)] : List Value) ++ List.replicate (6 - (lg_sl ([.ref (aw_r ad 0), .int (nI j), .int fr, .int (nI 0), .ref (aw_o ad)] : List Value)).length) Slot.unset).toArray = ls at hl ⊢
  have hl : lv_has ls 6 [(0, .ref (aw_r ad 0)), (1, .int (nI j)), (2, .int fr), (3, .int (nI 0)), (4, .ref (aw_o ad))] := hl
  refine lv_aload hx hb d_La_take_0 (lv_at hl 4 rfl) ?_
  refine lv_iconst (v := nI 0) hx hb d_La_take_2 (by decide +kernel) ?_
  refine lv_aload_n hx hb d_La_take_3 rfl (lv_at hl 0 rfl) ?_
  refine lv_iload_n hx hb d_La_take_4 rfl (lv_at hl 1 rfl) ?_
  refine lv_iload_n hx hb d_La_take_5 rfl (lv_at hl 2 rfl) ?_
  refine lv_iload_n hx hb d_La_take_6 rfl (lv_at hl 3 rfl) ?_
  have he1 := zr_R0 hSh
  refine vx_callv (vx_runV (As := [.int (nI j), .int fr, .int (nI 0)]) (rest := [.int (nI 0), .ref (aw_o ad)]) ⟨hx, hb, hml, hown, hG⟩ (k_Ru_takeXs0V l hst D g ad N0 zG zO zX zY zA zB zM zI zL zK zN zF zQ j fr hj hs) (aw_wV 3 hG gw_8_44 gw_8_41 gw_0_1 gw_8_42 gw_8_43 rfl rfl hd_Ru_take ⟨Nat.le_of_ble_eq_true rfl, Nat.le_of_ble_eq_true rfl⟩) (ag_qV (va_recv hK hP rfl he1) hP hD hSh hU hS) rfl rfl hl.1 rfl (lv_room (Nat.le_of_ble_eq_true rfl)) d_La_take_7 ⟨Nat.le_of_ble_eq_true rfl, Nat.le_of_ble_eq_true rfl⟩) hS (fun _ _ h => h) (fun _ h => h) (fun _ _ h => h) (fun E ce q9 u t H locs ht _ _ hBX _ _ hS hce hcv hcl => ?_) (fun u t H locs _ _ hF _ _ _ _ => hF.elim)
  obtain ⟨rfl, L, hP, hD, hSh⟩ := hBX
  rw [ht] at hP
  refine vx_catch hown [⟨0, 12, 15, 13⟩] ⟨0, 12, 19, 17⟩ [] htab (aw_psc (Or.inr ⟨by decide, "java/lang/IndexOutOfBoundsException", hG _ gw_2_38, aw_nc_S_I hE⟩) aw_ps0) (by decide) (by decide) (hG _ gw_2_40) (va_Nw.use rfl (hN _ nw_10)) hce hcv hcl ?_
  refine W.eq (g2 := F0 m 19 ls [.ref q9]) rfl ?_
  refine lv_astore hx hb d_La_take_19 hl (by decide) rfl (fun ls hl => ?_)
  have hl : lv_has ls 6 [(5, .ref q9), (0, .ref (aw_r ad 0)), (1, .int (nI j)), (2, .int fr), (3, .int (nI 0)), (4, .ref (aw_o ad))] := hl
  refine lv_iconst (v := nI 2) hx hb d_La_take_21 (by decide +kernel) ?_
  exact W.iret hx hb hr (fun t ht hW => ⟨⟨_, (), rfl, rfl, ag_Hr ht hP hD hSh⟩, hS.F ht⟩) hS.2.2 d_La_take_22
abbrev ws_La_takeXs1V : List Cond := Cond.codeWith y_La_take b_La_take 6 (some .int) [((0 : Nat), (12 : Nat), (15 : Nat), (13 : Nat)), ((0 : Nat), (12 : Nat), (19 : Nat), (17 : Nat))] :: aw_G
abbrev rm_La_takeXs1V : Room := { frames := 8, cells := 1, slots := 6, locals := 135 }
set_option maxHeartbeats 4000000 in
set_option maxRecDepth 100000 in
theorem k_La_takeXs1V (l : Launch) (hst : l.stackTraces = false) (D : va_G) (g : Nat → ClassId) (ad : Nat → Nat) (N0 : Nat) (zG : Nat → Nat × Nat) (zO : Nat → Nat) (zX : Nat → Nat → Int64) (zY : Nat → Nat → Int32) (zA : Nat → Nat → Nat → Int32) (zB : Nat → Int32) (zM : Nat → Nat × Nat) (zI : Nat → Nat → Int32) (zL : Nat → Nat → Int64) (zK : Int32) (zN : Nat) (zF : Int32) (zQ : Int64) (j : Nat) (k : Nat) (mm : Nat) (hj : j < 4) (h0 : 0 < mm) (hk : k + mm ≤ 64) (hs : (zG j).1 ≤ 2 ∨ ((zG j).1 = 3 ∧ (zG j).2 ≠ 5)) : Met l y_La_take ws_La_takeXs1V rm_La_takeXs1V (va_Pc ([.ref (aw_r ad 0), .int (nI j), .int (nI k), .int (nI mm), .ref (aw_o ad)] : List Value) (ag_B D g N0 (az_Sh g ad zG zO zX zY zA zB zM zI zL zK zN zF zQ))) (va_Qi (fun r (_ : Unit) => r = nI 2) (fun (_ : Unit) t => ag_H D N0 (az_Sh g ad zG zO zX zY zA zB zM zI zL zK zN zF zQ) t.heap) (aw_Z N0)) 1 6 (aw_Z N0) := by
  refine va_MetW (cc := b_La_take) (maxL := 6) (ret := (some .int)) (hh := [((0 : Nat), (12 : Nat), (15 : Nat), (13 : Nat)), ((0 : Nat), (12 : Nat), (19 : Nat), (17 : Nat))]) (by decide) rfl ?_
  intro p e s m args below meth c s₁ B hml hv
  obtain ⟨rfl, ⟨L, hP, hD, hSh⟩, hU⟩ := hv
  have hx := B.exec
  have hb := B.bytes
  have hr := B.returns
  have hG : ∀ w ∈ aw_G, w.before _ s = true := fun w h => atoms_spec (ws := ws_La_takeXs1V) B.pre w (List.mem_cons_of_mem _ h)
  have htab : c.exceptionTable.toList = tableOf [((0 : Nat), (12 : Nat), (15 : Nat), (13 : Nat)), ((0 : Nat), (12 : Nat), (19 : Nat), (17 : Nat))] := vx_table (x := y_La_take) B (atoms_spec (ws := ws_La_takeXs1V) B.pre _ List.mem_cons_self)
  have hown : s.vm.findClass "RuleCiphersLaw" = some m.cls := findClass_of_methodNamed B.named
  have hlocks := B.notSynchronized
  have hE := hU.1
  have hK := hE.1
  have hN := hE.2.1
  have hS : va_S (aw_Z N0) s.heap s.heap [] := va_S.rf
  have hl := lv_entry ([.ref (aw_r ad 0), .int (nI j), .int (nI k), .int (nI mm), .ref (aw_o ad)] : List Value) (n := 6) (Nat.le_of_ble_eq_true rfl)
  rw [lg_entry_eq]
  generalize (lg_sl ([.ref (aw_r ad 0), .int (nI j), .int (nI k), .int (nI mm), .ref (aw_o ad)] : List Value) ++ List.replicate (6 - (lg_sl ([.ref (aw_r ad 0), .int (nI j), .int (nI k), .int (nI mm), .ref (aw_o ad)] : List Value)).length) Slot.unset).toArray = ls at hl ⊢
  have hl : lv_has ls 6 [(0, .ref (aw_r ad 0)), (1, .int (nI j)), (2, .int (nI k)), (3, .int (nI mm)), (4, .ref (aw_o ad))] := hl
  refine lv_aload hx hb d_La_take_0 (lv_at hl 4 rfl) ?_
  refine lv_iconst (v := nI 0) hx hb d_La_take_2 (by decide +kernel) ?_
  refine lv_aload_n hx hb d_La_take_3 rfl (lv_at hl 0 rfl) ?_
  refine lv_iload_n hx hb d_La_take_4 rfl (lv_at hl 1 rfl) ?_
  refine lv_iload_n hx hb d_La_take_5 rfl (lv_at hl 2 rfl) ?_
  refine lv_iload_n hx hb d_La_take_6 rfl (lv_at hl 3 rfl) ?_
  have he1 := zr_R0 hSh
  refine vx_callv (vx_runV (As := [.int (nI j), .int (nI k), .int (nI mm)]) (rest := [.int (nI 0), .ref (aw_o ad)]) ⟨hx, hb, hml, hown, hG⟩ (k_Ru_takeXs1V l hst D g ad N0 zG zO zX zY zA zB zM zI zL zK zN zF zQ j k mm hj h0 hk hs) (aw_wV 3 hG gw_8_44 gw_8_41 gw_0_1 gw_8_42 gw_8_43 rfl rfl hd_Ru_take ⟨Nat.le_of_ble_eq_true rfl, Nat.le_of_ble_eq_true rfl⟩) (ag_qV (va_recv hK hP rfl he1) hP hD hSh hU hS) rfl rfl hl.1 rfl (lv_room (Nat.le_of_ble_eq_true rfl)) d_La_take_7 ⟨Nat.le_of_ble_eq_true rfl, Nat.le_of_ble_eq_true rfl⟩) hS (fun _ _ h => h) (fun _ h => h) (fun _ _ h => h) (fun E ce q9 u t H locs ht _ _ hBX _ _ hS hce hcv hcl => ?_) (fun u t H locs _ _ hF _ _ _ _ => hF.elim)
  obtain ⟨rfl, L, hP, hD, hSh⟩ := hBX
  rw [ht] at hP
  refine vx_catch hown [⟨0, 12, 15, 13⟩] ⟨0, 12, 19, 17⟩ [] htab (aw_psc (Or.inr ⟨by decide, "java/lang/IndexOutOfBoundsException", hG _ gw_2_38, aw_nc_S_I hE⟩) aw_ps0) (by decide) (by decide) (hG _ gw_2_40) (va_Nw.use rfl (hN _ nw_10)) hce hcv hcl ?_
  refine W.eq (g2 := F0 m 19 ls [.ref q9]) rfl ?_
  refine lv_astore hx hb d_La_take_19 hl (by decide) rfl (fun ls hl => ?_)
  have hl : lv_has ls 6 [(5, .ref q9), (0, .ref (aw_r ad 0)), (1, .int (nI j)), (2, .int (nI k)), (3, .int (nI mm)), (4, .ref (aw_o ad))] := hl
  refine lv_iconst (v := nI 2) hx hb d_La_take_21 (by decide +kernel) ?_
  exact W.iret hx hb hr (fun t ht hW => ⟨⟨_, (), rfl, rfl, ag_Hr ht hP hD hSh⟩, hS.F ht⟩) hS.2.2 d_La_take_22
noncomputable def v_La_tag1V_zX (zO : Nat → Nat) (zX : Nat → Nat → Int64) (zY : Nat → Nat → Int32) (zA : Nat → Nat → Nat → Int32) (j : Nat) : Nat → Nat → Int64 := v_Ru_tag1V_zX zO zX zY zA j
noncomputable def v_La_tag1V_zY (zO : Nat → Nat) (zX : Nat → Nat → Int64) (zY : Nat → Nat → Int32) (zA : Nat → Nat → Nat → Int32) (j : Nat) : Nat → Nat → Int32 := v_Ru_tag1V_zY zO zX zY zA j
noncomputable def v_La_tag1V_zQ (zO : Nat → Nat) (zX : Nat → Nat → Int64) (zY : Nat → Nat → Int32) (zA : Nat → Nat → Nat → Int32) (j : Nat) : Int64 := v_Ru_tag1V zO zX zY zA j
abbrev ws_La_tag1V : List Cond := Cond.codeWith y_La_tag b_La_tag 4 (some .int) [((0 : Nat), (8 : Nat), (11 : Nat), (13 : Nat)), ((0 : Nat), (8 : Nat), (14 : Nat), (17 : Nat))] :: aw_G
abbrev rm_La_tag1V : Room := { frames := 6, cells := 1, slots := 6, locals := 148 }
set_option maxHeartbeats 4000000 in
set_option maxRecDepth 100000 in
theorem k_La_tag1V (l : Launch) (hst : l.stackTraces = false) (D : va_G) (g : Nat → ClassId) (ad : Nat → Nat) (N0 : Nat) (zG : Nat → Nat × Nat) (zO : Nat → Nat) (zX : Nat → Nat → Int64) (zY : Nat → Nat → Int32) (zA : Nat → Nat → Nat → Int32) (zB : Nat → Int32) (zM : Nat → Nat × Nat) (zI : Nat → Nat → Int32) (zL : Nat → Nat → Int64) (zK : Int32) (zN : Nat) (zF : Int32) (zQ : Int64) (j : Nat) (hj : j < 4) (hs : (zG j).1 = 3 ∧ (zG j).2 = 5) : Met l y_La_tag ws_La_tag1V rm_La_tag1V (va_Pc ([.ref (aw_r ad 0), .int (nI j), .ref (aw_o ad)] : List Value) (ag_B D g N0 (az_Sh g ad zG zO zX zY zA zB zM zI zL zK zN zF zQ))) (va_Qi (fun r (_ : Unit) => r = nI 0) (fun (_ : Unit) t => ag_H D N0 (az_Sh g ad zG zO (v_La_tag1V_zX zO zX zY zA j) (v_La_tag1V_zY zO zX zY zA j) zA zB zM zI zL zK zN zF (v_La_tag1V_zQ zO zX zY zA j)) t.heap) (aw_Z N0)) 1 6 (aw_Z N0) := by
  refine va_MetW (cc := b_La_tag) (maxL := 4) (ret := (some .int)) (hh := [((0 : Nat), (8 : Nat), (11 : Nat), (13 : Nat)), ((0 : Nat), (8 : Nat), (14 : Nat), (17 : Nat))]) (by decide) rfl ?_
  intro p e s m args below meth c s₁ B hml hv
  obtain ⟨rfl, ⟨L, hP, hD, hSh⟩, hU⟩ := hv
  have hx := B.exec
  have hb := B.bytes
  have hr := B.returns
  have hG : ∀ w ∈ aw_G, w.before _ s = true := fun w h => atoms_spec (ws := ws_La_tag1V) B.pre w (List.mem_cons_of_mem _ h)
  have htab : c.exceptionTable.toList = tableOf [((0 : Nat), (8 : Nat), (11 : Nat), (13 : Nat)), ((0 : Nat), (8 : Nat), (14 : Nat), (17 : Nat))] := vx_table (x := y_La_tag) B (atoms_spec (ws := ws_La_tag1V) B.pre _ List.mem_cons_self)
  have hown : s.vm.findClass "RuleCiphersLaw" = some m.cls := findClass_of_methodNamed B.named
  have hlocks := B.notSynchronized
  have hE := hU.1
  have hK := hE.1
  have hN := hE.2.1
  have hS : va_S (aw_Z N0) s.heap s.heap [] := va_S.rf
  have hl := lv_entry ([.ref (aw_r ad 0), .int (nI j), .ref (aw_o ad)] : List Value) (n := 4) (Nat.le_of_ble_eq_true rfl)
  rw [lg_entry_eq]
  generalize (lg_sl ([.ref (aw_r ad 0), .int (nI j), .ref (aw_o ad)] : List Value) ++ List.replicate (4 - (lg_sl ([.ref (aw_r ad 0), .int (nI j), .ref (aw_o ad)] : List Value)).length) Slot.unset).toArray = ls at hl ⊢
  have hl : lv_has ls 4 [(0, .ref (aw_r ad 0)), (1, .int (nI j)), (2, .ref (aw_o ad))] := hl
  refine lv_aload_n hx hb d_La_tag_0 rfl (lv_at hl 2 rfl) ?_
  refine lv_iconst (v := nI 0) hx hb d_La_tag_1 (by decide +kernel) ?_
  refine lv_aload_n hx hb d_La_tag_2 rfl (lv_at hl 0 rfl) ?_
  refine lv_iload_n hx hb d_La_tag_3 rfl (lv_at hl 1 rfl) ?_
  have he1 := zr_R0 hSh
  refine va_calll (va_runV (As := [.int (nI j)]) (rest := [.int (nI 0), .ref (aw_o ad)]) ⟨hx, hb, hml, hown, hG⟩ (k_Ru_tag1V l D g ad N0 zG zO zX zY zA zB zM zI zL zK zN zF zQ j hj hs) (aw_wV 1 hG gw_9_6 gw_9_3 gw_0_1 gw_9_4 gw_9_5 rfl rfl hd_Ru_tag ⟨Nat.le_of_ble_eq_true rfl, Nat.le_of_ble_eq_true rfl⟩) (ag_qV (va_recv hK hP rfl he1) hP hD hSh hU hS) rfl rfl hl.1 rfl (lv_room (Nat.le_of_ble_eq_true rfl)) d_La_tag_4 ⟨Nat.le_of_ble_eq_true rfl, Nat.le_of_ble_eq_true rfl⟩) hS (fun _ _ h => h) (fun _ h => h) ?_
  clear hP hD hSh hS he1
  intro y2 u8 t8 H locs ht _ ey2 hB _ _ hS
  obtain ⟨L, hP, hD, hSh⟩ := hB
  rw [ht] at hP
  clear ht
  obtain ⟨zX3, ezX3⟩ : ∃ z : Nat → Nat → Int64, v_Ru_tag1V_zX zO zX zY zA j = z := ⟨_, rfl⟩
  rw [ezX3] at hSh
  obtain ⟨zY4, ezY4⟩ : ∃ z : Nat → Nat → Int32, v_Ru_tag1V_zY zO zX zY zA j = z := ⟨_, rfl⟩
  rw [ezY4] at hSh
  have ey2 := ey2.symm
  obtain ⟨f6, hc7, he5⟩ := zr_O0 hSh
  refine ag_lst hx hb hK hP hD hS 84 1 he5 rfl (k := 0) (by omega) (by decide) d_La_tag_7 (zw_Q hSh f6 y2) ?_
  clear hP hD hSh hS he5
  intro H locs L hP hD hSh hS
  obtain ⟨zQ8, ezQ8⟩ : ∃ z : Int64, y2 = z := ⟨_, rfl⟩
  rw [ezQ8] at hSh
  refine lv_goto (tgt := 17) hx hb d_La_tag_8 (by decide) ?_
  refine lv_iconst (v := nI 0) hx hb d_La_tag_17 (by decide +kernel) ?_
  refine W.widen (k := 1) (n := 6) (Nat.le_of_ble_eq_true rfl) (Nat.le_of_ble_eq_true rfl) ?_
  have gzX : zX3 = v_La_tag1V_zX zO zX zY zA j := by subst ezQ8 ey2 ezY4 ezX3; rfl
  have gzY : zY4 = v_La_tag1V_zY zO zX zY zA j := by subst ezQ8 ey2 ezY4 ezX3; rfl
  have gzQ : zQ8 = v_La_tag1V_zQ zO zX zY zA j := by subst ezQ8 ey2 ezY4 ezX3; rfl
  have hSh : az_Sh g ad zG zO (v_La_tag1V_zX zO zX zY zA j) (v_La_tag1V_zY zO zX zY zA j) zA zB zM zI zL zK zN zF (v_La_tag1V_zQ zO zX zY zA j) L := by rw [← gzX, ← gzY, ← gzQ]; exact hSh
  exact W.iret hx hb hr (fun t ht hW => ⟨⟨_, (), rfl, rfl, ag_Hr ht hP hD hSh⟩, hS.F ht⟩) hS.2.2 d_La_tag_18
abbrev ws_La_tagXcV : List Cond := Cond.codeWith y_La_tag b_La_tag 4 (some .int) [((0 : Nat), (8 : Nat), (11 : Nat), (13 : Nat)), ((0 : Nat), (8 : Nat), (14 : Nat), (17 : Nat))] :: aw_G
abbrev rm_La_tagXcV : Room := { frames := 8, cells := 1, slots := 6, locals := 133 }
set_option maxHeartbeats 4000000 in
set_option maxRecDepth 100000 in
theorem k_La_tagXcV (l : Launch) (hst : l.stackTraces = false) (D : va_G) (g : Nat → ClassId) (ad : Nat → Nat) (N0 : Nat) (zG : Nat → Nat × Nat) (zO : Nat → Nat) (zX : Nat → Nat → Int64) (zY : Nat → Nat → Int32) (zA : Nat → Nat → Nat → Int32) (zB : Nat → Int32) (zM : Nat → Nat × Nat) (zI : Nat → Nat → Int32) (zL : Nat → Nat → Int64) (zK : Int32) (zN : Nat) (zF : Int32) (zQ : Int64) (c0 : Int32) (hc : c0 < 0 ∨ (¬ c0 < 0 ∧ ¬ c0 < nI 4)) : Met l y_La_tag ws_La_tagXcV rm_La_tagXcV (va_Pc ([.ref (aw_r ad 0), .int c0, .ref (aw_o ad)] : List Value) (ag_B D g N0 (az_Sh g ad zG zO zX zY zA zB zM zI zL zK zN zF zQ))) (va_Qi (fun r (_ : Unit) => r = nI 1) (fun (_ : Unit) t => ag_H D N0 (az_Sh g ad zG zO zX zY zA zB zM zI zL zK zN zF zQ) t.heap) (aw_Z N0)) 1 6 (aw_Z N0) := by
  refine va_MetW (cc := b_La_tag) (maxL := 4) (ret := (some .int)) (hh := [((0 : Nat), (8 : Nat), (11 : Nat), (13 : Nat)), ((0 : Nat), (8 : Nat), (14 : Nat), (17 : Nat))]) (by decide) rfl ?_
  intro p e s m args below meth c s₁ B hml hv
  obtain ⟨rfl, ⟨L, hP, hD, hSh⟩, hU⟩ := hv
  have hx := B.exec
  have hb := B.bytes
  have hr := B.returns
  have hG : ∀ w ∈ aw_G, w.before _ s = true := fun w h => atoms_spec (ws := ws_La_tagXcV) B.pre w (List.mem_cons_of_mem _ h)
  have htab : c.exceptionTable.toList = tableOf [((0 : Nat), (8 : Nat), (11 : Nat), (13 : Nat)), ((0 : Nat), (8 : Nat), (14 : Nat), (17 : Nat))] := vx_table (x := y_La_tag) B (atoms_spec (ws := ws_La_tagXcV) B.pre _ List.mem_cons_self)
  have hown : s.vm.findClass "RuleCiphersLaw" = some m.cls := findClass_of_methodNamed B.named
  have hlocks := B.notSynchronized
  have hE := hU.1
  have hK := hE.1
  have hN := hE.2.1
  have hS : va_S (aw_Z N0) s.heap s.heap [] := va_S.rf
  have hl := lv_entry ([.ref (aw_r ad 0), .int c0, .ref (aw_o ad)] : List Value) (n := 4) (Nat.le_of_ble_eq_true rfl)
  rw [lg_entry_eq]
  generalize (lg_sl ([.ref (aw_r ad 0), .int c0, .ref (aw_o ad)] : List Value) ++ List.replicate (4 - (lg_sl ([.ref (aw_r ad 0), .int c0, .ref (aw_o ad)] : List Value)).length) Slot.unset).toArray = ls at hl ⊢
  have hl : lv_has ls 4 [(0, .ref (aw_r ad 0)), (1, .int c0), (2, .ref (aw_o ad))] := hl
  refine lv_aload_n hx hb d_La_tag_0 rfl (lv_at hl 2 rfl) ?_
  refine lv_iconst (v := nI 0) hx hb d_La_tag_1 (by decide +kernel) ?_
  refine lv_aload_n hx hb d_La_tag_2 rfl (lv_at hl 0 rfl) ?_
  refine lv_iload_n hx hb d_La_tag_3 rfl (lv_at hl 1 rfl) ?_
  have he1 := zr_R0 hSh
  refine vx_callv (vx_runV (As := [.int c0]) (rest := [.int (nI 0), .ref (aw_o ad)]) ⟨hx, hb, hml, hown, hG⟩ (k_Ru_tagXcV l hst D g ad N0 zG zO zX zY zA zB zM zI zL zK zN zF zQ c0 hc) (aw_wV 1 hG gw_9_6 gw_9_3 gw_0_1 gw_9_4 gw_9_5 rfl rfl hd_Ru_tag ⟨Nat.le_of_ble_eq_true rfl, Nat.le_of_ble_eq_true rfl⟩) (ag_qV (va_recv hK hP rfl he1) hP hD hSh hU hS) rfl rfl hl.1 rfl (lv_room (Nat.le_of_ble_eq_true rfl)) d_La_tag_4 ⟨Nat.le_of_ble_eq_true rfl, Nat.le_of_ble_eq_true rfl⟩) hS (fun _ _ h => h) (fun _ h => h) (fun _ _ h => h) (fun E ce q9 u t H locs ht _ _ hBX _ _ hS hce hcv hcl => ?_) (fun u t H locs _ _ hF _ _ _ _ => hF.elim)
  obtain ⟨rfl, L, hP, hD, hSh⟩ := hBX
  rw [ht] at hP
  refine vx_catch hown [] ⟨0, 8, 11, 13⟩ [⟨0, 8, 14, 17⟩] htab aw_ps0 (by decide) (by decide) (hG _ gw_2_38) (va_Nw.use rfl (hN _ nw_2)) hce hcv hcl ?_
  refine W.eq (g2 := F0 m 11 ls [.ref q9]) rfl ?_
  refine lv_astore_n hx hb d_La_tag_11 rfl hl (by decide) rfl (fun ls hl => ?_)
  have hl : lv_has ls 4 [(3, .ref q9), (0, .ref (aw_r ad 0)), (1, .int c0), (2, .ref (aw_o ad))] := hl
  refine lv_iconst (v := nI 1) hx hb d_La_tag_12 (by decide +kernel) ?_
  exact W.iret hx hb hr (fun t ht hW => ⟨⟨_, (), rfl, rfl, ag_Hr ht hP hD hSh⟩, hS.F ht⟩) hS.2.2 d_La_tag_13
abbrev ws_La_tagXsV : List Cond := Cond.codeWith y_La_tag b_La_tag 4 (some .int) [((0 : Nat), (8 : Nat), (11 : Nat), (13 : Nat)), ((0 : Nat), (8 : Nat), (14 : Nat), (17 : Nat))] :: aw_G
abbrev rm_La_tagXsV : Room := { frames := 8, cells := 1, slots := 6, locals := 133 }
set_option maxHeartbeats 4000000 in
set_option maxRecDepth 100000 in
theorem k_La_tagXsV (l : Launch) (hst : l.stackTraces = false) (D : va_G) (g : Nat → ClassId) (ad : Nat → Nat) (N0 : Nat) (zG : Nat → Nat × Nat) (zO : Nat → Nat) (zX : Nat → Nat → Int64) (zY : Nat → Nat → Int32) (zA : Nat → Nat → Nat → Int32) (zB : Nat → Int32) (zM : Nat → Nat × Nat) (zI : Nat → Nat → Int32) (zL : Nat → Nat → Int64) (zK : Int32) (zN : Nat) (zF : Int32) (zQ : Int64) (j : Nat) (hj : j < 4) (hs : (zG j).1 ≤ 2 ∨ ((zG j).1 = 3 ∧ (zG j).2 ≠ 5)) : Met l y_La_tag ws_La_tagXsV rm_La_tagXsV (va_Pc ([.ref (aw_r ad 0), .int (nI j), .ref (aw_o ad)] : List Value) (ag_B D g N0 (az_Sh g ad zG zO zX zY zA zB zM zI zL zK zN zF zQ))) (va_Qi (fun r (_ : Unit) => r = nI 2) (fun (_ : Unit) t => ag_H D N0 (az_Sh g ad zG zO zX zY zA zB zM zI zL zK zN zF zQ) t.heap) (aw_Z N0)) 1 6 (aw_Z N0) := by
  refine va_MetW (cc := b_La_tag) (maxL := 4) (ret := (some .int)) (hh := [((0 : Nat), (8 : Nat), (11 : Nat), (13 : Nat)), ((0 : Nat), (8 : Nat), (14 : Nat), (17 : Nat))]) (by decide) rfl ?_
  intro p e s m args below meth c s₁ B hml hv
  obtain ⟨rfl, ⟨L, hP, hD, hSh⟩, hU⟩ := hv
  have hx := B.exec
  have hb := B.bytes
  have hr := B.returns
  have hG : ∀ w ∈ aw_G, w.before _ s = true := fun w h => atoms_spec (ws := ws_La_tagXsV) B.pre w (List.mem_cons_of_mem _ h)
  have htab : c.exceptionTable.toList = tableOf [((0 : Nat), (8 : Nat), (11 : Nat), (13 : Nat)), ((0 : Nat), (8 : Nat), (14 : Nat), (17 : Nat))] := vx_table (x := y_La_tag) B (atoms_spec (ws := ws_La_tagXsV) B.pre _ List.mem_cons_self)
  have hown : s.vm.findClass "RuleCiphersLaw" = some m.cls := findClass_of_methodNamed B.named
  have hlocks := B.notSynchronized
  have hE := hU.1
  have hK := hE.1
  have hN := hE.2.1
  have hS : va_S (aw_Z N0) s.heap s.heap [] := va_S.rf
  have hl := lv_entry ([.ref (aw_r ad 0), .int (nI j), .ref (aw_o ad)] : List Value) (n := 4) (Nat.le_of_ble_eq_true rfl)
  rw [lg_entry_eq]
  generalize (lg_sl ([.ref (aw_r ad 0), .int (nI j), .ref (aw_o ad)] : List Value) ++ List.replicate (4 - (lg_sl ([.ref (aw_r ad 0), .int (nI j), .ref (aw_o ad)] : List Value)).length) Slot.unset).toArray = ls at hl ⊢
  have hl : lv_has ls 4 [(0, .ref (aw_r ad 0)), (1, .int (nI j)), (2, .ref (aw_o ad))] := hl
  refine lv_aload_n hx hb d_La_tag_0 rfl (lv_at hl 2 rfl) ?_
  refine lv_iconst (v := nI 0) hx hb d_La_tag_1 (by decide +kernel) ?_
  refine lv_aload_n hx hb d_La_tag_2 rfl (lv_at hl 0 rfl) ?_
  refine lv_iload_n hx hb d_La_tag_3 rfl (lv_at hl 1 rfl) ?_
  have he1 := zr_R0 hSh
  refine vx_callv (vx_runV (As := [.int (nI j)]) (rest := [.int (nI 0), .ref (aw_o ad)]) ⟨hx, hb, hml, hown, hG⟩ (k_Ru_tagXsV l hst D g ad N0 zG zO zX zY zA zB zM zI zL zK zN zF zQ j hj hs) (aw_wV 1 hG gw_9_6 gw_9_3 gw_0_1 gw_9_4 gw_9_5 rfl rfl hd_Ru_tag ⟨Nat.le_of_ble_eq_true rfl, Nat.le_of_ble_eq_true rfl⟩) (ag_qV (va_recv hK hP rfl he1) hP hD hSh hU hS) rfl rfl hl.1 rfl (lv_room (Nat.le_of_ble_eq_true rfl)) d_La_tag_4 ⟨Nat.le_of_ble_eq_true rfl, Nat.le_of_ble_eq_true rfl⟩) hS (fun _ _ h => h) (fun _ h => h) (fun _ _ h => h) (fun E ce q9 u t H locs ht _ _ hBX _ _ hS hce hcv hcl => ?_) (fun u t H locs _ _ hF _ _ _ _ => hF.elim)
  obtain ⟨rfl, L, hP, hD, hSh⟩ := hBX
  rw [ht] at hP
  refine vx_catch hown [⟨0, 8, 11, 13⟩] ⟨0, 8, 14, 17⟩ [] htab (aw_psc (Or.inr ⟨by decide, "java/lang/IndexOutOfBoundsException", hG _ gw_2_38, aw_nc_S_I hE⟩) aw_ps0) (by decide) (by decide) (hG _ gw_2_40) (va_Nw.use rfl (hN _ nw_10)) hce hcv hcl ?_
  refine W.eq (g2 := F0 m 14 ls [.ref q9]) rfl ?_
  refine lv_astore_n hx hb d_La_tag_14 rfl hl (by decide) rfl (fun ls hl => ?_)
  have hl : lv_has ls 4 [(3, .ref q9), (0, .ref (aw_r ad 0)), (1, .int (nI j)), (2, .ref (aw_o ad))] := hl
  refine lv_iconst (v := nI 2) hx hb d_La_tag_15 (by decide +kernel) ?_
  exact W.iret hx hb hr (fun t ht hW => ⟨⟨_, (), rfl, rfl, ag_Hr ht hP hD hSh⟩, hS.F ht⟩) hS.2.2 d_La_tag_16
