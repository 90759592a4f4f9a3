abbrev ws_La_choose1 : List Cond := Cond.codeWith y_La_choose b_La_choose 4 (some .int) [((0 : Nat), (6 : Nat), (9 : Nat), (13 : Nat)), ((0 : Nat), (6 : Nat), (12 : Nat), (15 : Nat)), ((0 : Nat), (6 : Nat), (15 : Nat), (17 : Nat))] :: aw_G
abbrev rm_La_choose1 : Room := { frames := 8, cells := 1, slots := 6, locals := 134 }
set_option maxHeartbeats 4000000 in
set_option maxRecDepth 100000 in
theorem k_La_choose1 (l : Launch) (hst : l.stackTraces = false) (D : va_G) (g : Nat → ClassId) (ad : Nat → Nat) (G M : Nat → Nat × Nat) (F : Int32) (N0 : Nat) (j : Nat) (k : Nat) (hj : j < 4) (hk : k < 5) (hs : (G j).1 = 0) : Met l y_La_choose ws_La_choose1 rm_La_choose1 (va_Pc ([.ref (aw_r ad 0), .int (nI j), .int (nI k)] : List Value) (aw_B D g ad G M F N0)) (va_Qi (fun r (_ : Unit) => r = nI 0) (fun (_ : Unit) t => aw_H D g ad (aw_g1 G j 1) M F N0 t.heap) (aw_Z N0)) 1 6 (aw_Z N0) := by
  refine va_MetW (cc := b_La_choose) (maxL := 4) (ret := (some .int)) (hh := [((0 : Nat), (6 : Nat), (9 : Nat), (13 : Nat)), ((0 : Nat), (6 : Nat), (12 : Nat), (15 : Nat)), ((0 : Nat), (6 : Nat), (15 : Nat), (17 : Nat))]) (by decide) rfl ?_
  intro p e s m args below meth c s₁ B hml hv
  obtain ⟨rfl, ⟨L, hP, hD, hSh⟩, hU⟩ := hv
  have hx := B.exec
  have hb := B.bytes
  have hr := B.returns
  have hG : ∀ w ∈ aw_G, w.before _ s = true := fun w h => atoms_spec (ws := ws_La_choose1) B.pre w (List.mem_cons_of_mem _ h)
  have htab : c.exceptionTable.toList = tableOf [((0 : Nat), (6 : Nat), (9 : Nat), (13 : Nat)), ((0 : Nat), (6 : Nat), (12 : Nat), (15 : Nat)), ((0 : Nat), (6 : Nat), (15 : Nat), (17 : Nat))] := vx_table (x := y_La_choose) B (atoms_spec (ws := ws_La_choose1) B.pre _ List.mem_cons_self)
  have hown : s.vm.findClass "RuleCiphersLaw" = some m.cls := findClass_of_methodNamed B.named
  have hlocks := B.notSynchronized
  have hE := hU.1
  have hK := hE.1
  have hN := hE.2.1
  have hS : va_S (aw_Z N0) s.heap s.heap [] := va_S.rf
  have hl := lv_entry ([.ref (aw_r ad 0), .int (nI j), .int (nI k)] : List Value) (n := 4) (Nat.le_of_ble_eq_true rfl)
  rw [lg_entry_eq]
  generalize (lg_sl ([.ref (aw_r ad 0), .int (nI j), .int (nI k)] : List Value) ++ List.replicate (4 - (lg_sl ([.ref (aw_r ad 0), .int (nI j), .int (nI k)] : List Value)).length) Slot.unset).toArray = ls at hl ⊢
  have hl : lv_has ls 4 [(0, .ref (aw_r ad 0)), (1, .int (nI j)), (2, .int (nI k))] := hl
  refine lv_aload_n hx hb d_La_choose_0 rfl (lv_at hl 0 rfl) ?_
  refine lv_iload_n hx hb d_La_choose_1 rfl (lv_at hl 1 rfl) ?_
  refine lv_iload_n hx hb d_La_choose_2 rfl (lv_at hl 2 rfl) ?_
  have he1 := rd_R0 hSh
  refine va_callv (va_runV (As := [.int (nI j), .int (nI k)]) (rest := []) ⟨hx, hb, hml, hown, hG⟩ (k_Ru_choose1 l D g ad G M F N0 j k hj hk hs) (aw_wV 2 hG gw_2_44 gw_2_41 gw_0_1 gw_2_42 gw_2_43 rfl rfl hd_Ru_choose ⟨Nat.le_of_ble_eq_true rfl, Nat.le_of_ble_eq_true rfl⟩) (aw_qV (va_recv hK hP rfl he1) hP hD hSh hU hS) rfl rfl hl.1 rfl (lv_room (Nat.le_of_ble_eq_true rfl)) d_La_choose_3 ⟨Nat.le_of_ble_eq_true rfl, Nat.le_of_ble_eq_true rfl⟩) hS (fun _ _ h => h) (fun _ h => h) (fun u8 t8 H locs ht _ _ hB _ _ hS => ?_)
  obtain ⟨L, hP, hD, hSh⟩ := hB
  rw [ht] at hP
  clear ht
  refine lv_goto (tgt := 18) hx hb d_La_choose_6 (by decide) ?_
  refine lv_iconst (v := nI 0) hx hb d_La_choose_18 (by decide +kernel) ?_
  refine W.widen (k := 1) (n := 6) (Nat.le_of_ble_eq_true rfl) (Nat.le_of_ble_eq_true rfl) ?_
  exact W.iret hx hb hr (fun t ht hW => ⟨⟨_, (), rfl, rfl, aw_Hr ht hP hD hSh⟩, hS.F ht⟩) hS.2.2 d_La_choose_19
abbrev ws_La_chooseXc : List Cond := Cond.codeWith y_La_choose b_La_choose 4 (some .int) [((0 : Nat), (6 : Nat), (9 : Nat), (13 : Nat)), ((0 : Nat), (6 : Nat), (12 : Nat), (15 : Nat)), ((0 : Nat), (6 : Nat), (15 : Nat), (17 : Nat))] :: aw_G
abbrev rm_La_chooseXc : Room := { frames := 8, cells := 1, slots := 6, locals := 134 }
set_option maxHeartbeats 4000000 in
set_option maxRecDepth 100000 in
theorem k_La_chooseXc (l : Launch) (hst : l.stackTraces = false) (D : va_G) (g : Nat → ClassId) (ad : Nat → Nat) (G M : Nat → Nat × Nat) (F : Int32) (N0 : Nat) (c0 : Int32) (k0 : Int32) (hc : c0 < 0 ∨ (¬ c0 < 0 ∧ ¬ c0 < nI 4)) : Met l y_La_choose ws_La_chooseXc rm_La_chooseXc (va_Pc ([.ref (aw_r ad 0), .int c0, .int k0] : List Value) (aw_B D g ad G M F N0)) (va_Qi (fun r (_ : Unit) => r = nI 1) (fun (_ : Unit) t => aw_H D g ad G M F N0 t.heap) (aw_Z N0)) 1 6 (aw_Z N0) := by
  refine va_MetW (cc := b_La_choose) (maxL := 4) (ret := (some .int)) (hh := [((0 : Nat), (6 : Nat), (9 : Nat), (13 : Nat)), ((0 : Nat), (6 : Nat), (12 : Nat), (15 : Nat)), ((0 : Nat), (6 : Nat), (15 : Nat), (17 : Nat))]) (by decide) rfl ?_
  intro p e s m args below meth c s₁ B hml hv
  obtain ⟨rfl, ⟨L, hP, hD, hSh⟩, hU⟩ := hv
  have hx := B.exec
  have hb := B.bytes
  have hr := B.returns
  have hG : ∀ w ∈ aw_G, w.before _ s = true := fun w h => atoms_spec (ws := ws_La_chooseXc) B.pre w (List.mem_cons_of_mem _ h)
  have htab : c.exceptionTable.toList = tableOf [((0 : Nat), (6 : Nat), (9 : Nat), (13 : Nat)), ((0 : Nat), (6 : Nat), (12 : Nat), (15 : Nat)), ((0 : Nat), (6 : Nat), (15 : Nat), (17 : Nat))] := vx_table (x := y_La_choose) B (atoms_spec (ws := ws_La_chooseXc) B.pre _ List.mem_cons_self)
  have hown : s.vm.findClass "RuleCiphersLaw" = some m.cls := findClass_of_methodNamed B.named
  have hlocks := B.notSynchronized
  have hE := hU.1
  have hK := hE.1
  have hN := hE.2.1
  have hS : va_S (aw_Z N0) s.heap s.heap [] := va_S.rf
  have hl := lv_entry ([.ref (aw_r ad 0), .int c0, .int k0] : List Value) (n := 4) (Nat.le_of_ble_eq_true rfl)
  rw [lg_entry_eq]
  generalize (lg_sl ([.ref (aw_r ad 0), .int c0, .int k0] : List Value) ++ List.replicate (4 - (lg_sl ([.ref (aw_r ad 0), .int c0, .int k0] : List Value)).length) Slot.unset).toArray = ls at hl ⊢
  have hl : lv_has ls 4 [(0, .ref (aw_r ad 0)), (1, .int c0), (2, .int k0)] := hl
  refine lv_aload_n hx hb d_La_choose_0 rfl (lv_at hl 0 rfl) ?_
  refine lv_iload_n hx hb d_La_choose_1 rfl (lv_at hl 1 rfl) ?_
  refine lv_iload_n hx hb d_La_choose_2 rfl (lv_at hl 2 rfl) ?_
  have he1 := rd_R0 hSh
  refine vx_callv (vx_runV (As := [.int c0, .int k0]) (rest := []) ⟨hx, hb, hml, hown, hG⟩ (k_Ru_chooseXc l hst D g ad G M F N0 c0 k0 hc) (aw_wV 2 hG gw_2_44 gw_2_41 gw_0_1 gw_2_42 gw_2_43 rfl rfl hd_Ru_choose ⟨Nat.le_of_ble_eq_true rfl, Nat.le_of_ble_eq_true rfl⟩) (aw_qV (va_recv hK hP rfl he1) hP hD hSh hU hS) rfl rfl hl.1 rfl (lv_room (Nat.le_of_ble_eq_true rfl)) d_La_choose_3 ⟨Nat.le_of_ble_eq_true rfl, Nat.le_of_ble_eq_true rfl⟩) hS (fun _ _ h => h) (fun _ h => h) (fun _ _ h => h) (fun E ce q9 u t H locs ht _ _ hBX _ _ hS hce hcv hcl => ?_) (fun u t H locs _ _ hF _ _ _ _ => hF.elim)
  obtain ⟨rfl, L, hP, hD, hSh⟩ := hBX
  rw [ht] at hP
  refine vx_catch hown [] ⟨0, 6, 9, 13⟩ [⟨0, 6, 12, 15⟩, ⟨0, 6, 15, 17⟩] htab aw_ps0 (by decide) (by decide) (hG _ gw_2_38) (va_Nw.use rfl (hN _ nw_2)) hce hcv hcl ?_
  refine W.eq (g2 := F0 m 9 ls [.ref q9]) rfl ?_
  refine lv_astore_n hx hb d_La_choose_9 rfl hl (by decide) rfl (fun ls hl => ?_)
  have hl : lv_has ls 4 [(3, .ref q9), (0, .ref (aw_r ad 0)), (1, .int c0), (2, .int k0)] := hl
  refine lv_iconst (v := nI 1) hx hb d_La_choose_10 (by decide +kernel) ?_
  exact W.iret hx hb hr (fun t ht hW => ⟨⟨_, (), rfl, rfl, aw_Hr ht hP hD hSh⟩, hS.F ht⟩) hS.2.2 d_La_choose_11
abbrev ws_La_chooseXa : List Cond := Cond.codeWith y_La_choose b_La_choose 4 (some .int) [((0 : Nat), (6 : Nat), (9 : Nat), (13 : Nat)), ((0 : Nat), (6 : Nat), (12 : Nat), (15 : Nat)), ((0 : Nat), (6 : Nat), (15 : Nat), (17 : Nat))] :: aw_G
abbrev rm_La_chooseXa : Room := { frames := 8, cells := 1, slots := 6, locals := 134 }
set_option maxHeartbeats 4000000 in
set_option maxRecDepth 100000 in
theorem k_La_chooseXa (l : Launch) (hst : l.stackTraces = false) (D : va_G) (g : Nat → ClassId) (ad : Nat → Nat) (G M : Nat → Nat × Nat) (F : Int32) (N0 : Nat) (j : Nat) (k0 : Int32) (hj : j < 4) (hk : k0 < 0 ∨ (¬ k0 < 0 ∧ ¬ k0 < nI 5)) : Met l y_La_choose ws_La_chooseXa rm_La_chooseXa (va_Pc ([.ref (aw_r ad 0), .int (nI j), .int k0] : List Value) (aw_B D g ad G M F N0)) (va_Qi (fun r (_ : Unit) => r = nI 2) (fun (_ : Unit) t => aw_H D g ad G M F N0 t.heap) (aw_Z N0)) 1 6 (aw_Z N0) := by
  refine va_MetW (cc := b_La_choose) (maxL := 4) (ret := (some .int)) (hh := [((0 : Nat), (6 : Nat), (9 : Nat), (13 : Nat)), ((0 : Nat), (6 : Nat), (12 : Nat), (15 : Nat)), ((0 : Nat), (6 : Nat), (15 : Nat), (17 : Nat))]) (by decide) rfl ?_
  intro p e s m args below meth c s₁ B hml hv
  obtain ⟨rfl, ⟨L, hP, hD, hSh⟩, hU⟩ := hv
  have hx := B.exec
  have hb := B.bytes
  have hr := B.returns
  have hG : ∀ w ∈ aw_G, w.before _ s = true := fun w h => atoms_spec (ws := ws_La_chooseXa) B.pre w (List.mem_cons_of_mem _ h)
  have htab : c.exceptionTable.toList = tableOf [((0 : Nat), (6 : Nat), (9 : Nat), (13 : Nat)), ((0 : Nat), (6 : Nat), (12 : Nat), (15 : Nat)), ((0 : Nat), (6 : Nat), (15 : Nat), (17 : Nat))] := vx_table (x := y_La_choose) B (atoms_spec (ws := ws_La_chooseXa) B.pre _ List.mem_cons_self)
  have hown : s.vm.findClass "RuleCiphersLaw" = some m.cls := findClass_of_methodNamed B.named
  have hlocks := B.notSynchronized
  have hE := hU.1
  have hK := hE.1
  have hN := hE.2.1
  have hS : va_S (aw_Z N0) s.heap s.heap [] := va_S.rf
  have hl := lv_entry ([.ref (aw_r ad 0), .int (nI j), .int k0] : List Value) (n := 4) (Nat.le_of_ble_eq_true rfl)
  rw [lg_entry_eq]
  generalize (lg_sl ([.ref (aw_r ad 0), .int (nI j), .int k0] : List Value) ++ List.replicate (4 - (lg_sl ([.ref (aw_r ad 0), .int (nI j), .int k0] : List Value)).length) Slot.unset).toArray = ls at hl ⊢
  have hl : lv_has ls 4 [(0, .ref (aw_r ad 0)), (1, .int (nI j)), (2, .int k0)] := hl
  refine lv_aload_n hx hb d_La_choose_0 rfl (lv_at hl 0 rfl) ?_
  refine lv_iload_n hx hb d_La_choose_1 rfl (lv_at hl 1 rfl) ?_
  refine lv_iload_n hx hb d_La_choose_2 rfl (lv_at hl 2 rfl) ?_
  have he1 := rd_R0 hSh
  refine vx_callv (vx_runV (As := [.int (nI j), .int k0]) (rest := []) ⟨hx, hb, hml, hown, hG⟩ (k_Ru_chooseXa l hst D g ad G M F N0 j k0 hj hk) (aw_wV 2 hG gw_2_44 gw_2_41 gw_0_1 gw_2_42 gw_2_43 rfl rfl hd_Ru_choose ⟨Nat.le_of_ble_eq_true rfl, Nat.le_of_ble_eq_true rfl⟩) (aw_qV (va_recv hK hP rfl he1) hP hD hSh hU hS) rfl rfl hl.1 rfl (lv_room (Nat.le_of_ble_eq_true rfl)) d_La_choose_3 ⟨Nat.le_of_ble_eq_true rfl, Nat.le_of_ble_eq_true rfl⟩) hS (fun _ _ h => h) (fun _ h => h) (fun _ _ h => h) (fun E ce q9 u t H locs ht _ _ hBX _ _ hS hce hcv hcl => ?_) (fun u t H locs _ _ hF _ _ _ _ => hF.elim)
  obtain ⟨rfl, L, hP, hD, hSh⟩ := hBX
  rw [ht] at hP
  refine vx_catch hown [⟨0, 6, 9, 13⟩] ⟨0, 6, 12, 15⟩ [⟨0, 6, 15, 17⟩] htab (aw_psc (Or.inr ⟨by decide, "java/lang/IndexOutOfBoundsException", hG _ gw_2_38, aw_nc_A_I hE⟩) aw_ps0) (by decide) (by decide) (hG _ gw_2_39) (va_Nw.use rfl (hN _ nw_9)) hce hcv hcl ?_
  refine W.eq (g2 := F0 m 12 ls [.ref q9]) rfl ?_
  refine lv_astore_n hx hb d_La_choose_12 rfl hl (by decide) rfl (fun ls hl => ?_)
  have hl : lv_has ls 4 [(3, .ref q9), (0, .ref (aw_r ad 0)), (1, .int (nI j)), (2, .int k0)] := hl
  refine lv_iconst (v := nI 2) hx hb d_La_choose_13 (by decide +kernel) ?_
  exact W.iret hx hb hr (fun t ht hW => ⟨⟨_, (), rfl, rfl, aw_Hr ht hP hD hSh⟩, hS.F ht⟩) hS.2.2 d_La_choose_14
abbrev ws_La_chooseXs : List Cond := Cond.codeWith y_La_choose b_La_choose 4 (some .int) [((0 : Nat), (6 : Nat), (9 : Nat), (13 : Nat)), ((0 : Nat), (6 : Nat), (12 : Nat), (15 : Nat)), ((0 : Nat), (6 : Nat), (15 : Nat), (17 : Nat))] :: aw_G
abbrev rm_La_chooseXs : Room := { frames := 8, cells := 1, slots := 6, locals := 134 }
set_option maxHeartbeats 4000000 in
set_option maxRecDepth 100000 in
theorem k_La_chooseXs (l : Launch) (hst : l.stackTraces = false) (D : va_G) (g : Nat → ClassId) (ad : Nat → Nat) (G M : Nat → Nat × Nat) (F : Int32) (N0 : Nat) (j : Nat) (k : Nat) (hj : j < 4) (hk : k < 5) (hs : 1 ≤ (G j).1) : Met l y_La_choose ws_La_chooseXs rm_La_chooseXs (va_Pc ([.ref (aw_r ad 0), .int (nI j), .int (nI k)] : List Value) (aw_B D g ad G M F N0)) (va_Qi (fun r (_ : Unit) => r = nI 3) (fun (_ : Unit) t => aw_H D g ad G M F N0 t.heap) (aw_Z N0)) 1 6 (aw_Z N0) := by
  refine va_MetW (cc := b_La_choose) (maxL := 4) (ret := (some .int)) (hh := [((0 : Nat), (6 : Nat), (9 : Nat), (13 : Nat)), ((0 : Nat), (6 : Nat), (12 : Nat), (15 : Nat)), ((0 : Nat), (6 : Nat), (15 : Nat), (17 : Nat))]) (by decide) rfl ?_
  intro p e s m args below meth c s₁ B hml hv
  obtain ⟨rfl, ⟨L, hP, hD, hSh⟩, hU⟩ := hv
  have hx := B.exec
  have hb := B.bytes
  have hr := B.returns
  have hG : ∀ w ∈ aw_G, w.before _ s = true := fun w h => atoms_spec (ws := ws_La_chooseXs) B.pre w (List.mem_cons_of_mem _ h)
  have htab : c.exceptionTable.toList = tableOf [((0 : Nat), (6 : Nat), (9 : Nat), (13 : Nat)), ((0 : Nat), (6 : Nat), (12 : Nat), (15 : Nat)), ((0 : Nat), (6 : Nat), (15 : Nat), (17 : Nat))] := vx_table (x := y_La_choose) B (atoms_spec (ws := ws_La_chooseXs) B.pre _ List.mem_cons_self)
  have hown : s.vm.findClass "RuleCiphersLaw" = some m.cls := findClass_of_methodNamed B.named
  have hlocks := B.notSynchronized
  have hE := hU.1
  have hK := hE.1
  have hN := hE.2.1
  have hS : va_S (aw_Z N0) s.heap s.heap [] := va_S.rf
  have hl := lv_entry ([.ref (aw_r ad 0), .int (nI j), .int (nI k)] : List Value) (n := 4) (Nat.le_of_ble_eq_true rfl)
  rw [lg_entry_eq]
  generalize (lg_sl ([.ref (aw_r ad 0), .int (nI j), .int (nI k)] : List Value) ++ List.replicate (4 - (lg_sl ([.ref (aw_r ad 0), .int (nI j), .int (nI k)] : List Value)).length) Slot.unset).toArray = ls at hl ⊢
  have hl : lv_has ls 4 [(0, .ref (aw_r ad 0)), (1, .int (nI j)), (2, .int (nI k))] := hl
  refine lv_aload_n hx hb d_La_choose_0 rfl (lv_at hl 0 rfl) ?_
  refine lv_iload_n hx hb d_La_choose_1 rfl (lv_at hl 1 rfl) ?_
  refine lv_iload_n hx hb d_La_choose_2 rfl (lv_at hl 2 rfl) ?_
  have he1 := rd_R0 hSh
  refine vx_callv (vx_runV (As := [.int (nI j), .int (nI k)]) (rest := []) ⟨hx, hb, hml, hown, hG⟩ (k_Ru_chooseXs l hst D g ad G M F N0 j k hj hk hs) (aw_wV 2 hG gw_2_44 gw_2_41 gw_0_1 gw_2_42 gw_2_43 rfl rfl hd_Ru_choose ⟨Nat.le_of_ble_eq_true rfl, Nat.le_of_ble_eq_true rfl⟩) (aw_qV (va_recv hK hP rfl he1) hP hD hSh hU hS) rfl rfl hl.1 rfl (lv_room (Nat.le_of_ble_eq_true rfl)) d_La_choose_3 ⟨Nat.le_of_ble_eq_true rfl, Nat.le_of_ble_eq_true rfl⟩) hS (fun _ _ h => h) (fun _ h => h) (fun _ _ h => h) (fun E ce q9 u t H locs ht _ _ hBX _ _ hS hce hcv hcl => ?_) (fun u t H locs _ _ hF _ _ _ _ => hF.elim)
  obtain ⟨rfl, L, hP, hD, hSh⟩ := hBX
  rw [ht] at hP
  refine vx_catch hown [⟨0, 6, 9, 13⟩, ⟨0, 6, 12, 15⟩] ⟨0, 6, 15, 17⟩ [] htab (aw_psc (Or.inr ⟨by decide, "java/lang/IndexOutOfBoundsException", hG _ gw_2_38, aw_nc_S_I hE⟩) (aw_psc (Or.inr ⟨by decide, "java/lang/IllegalArgumentException", hG _ gw_2_39, aw_nc_S_A hE⟩) aw_ps0)) (by decide) (by decide) (hG _ gw_2_40) (va_Nw.use rfl (hN _ nw_10)) hce hcv hcl ?_
  refine W.eq (g2 := F0 m 15 ls [.ref q9]) rfl ?_
  refine lv_astore_n hx hb d_La_choose_15 rfl hl (by decide) rfl (fun ls hl => ?_)
  have hl : lv_has ls 4 [(3, .ref q9), (0, .ref (aw_r ad 0)), (1, .int (nI j)), (2, .int (nI k))] := hl
  refine lv_iconst (v := nI 3) hx hb d_La_choose_16 (by decide +kernel) ?_
  exact W.iret hx hb hr (fun t ht hW => ⟨⟨_, (), rfl, rfl, aw_Hr ht hP hD hSh⟩, hS.F ht⟩) hS.2.2 d_La_choose_17
abbrev ws_La_key1 : List Cond := Cond.codeWith y_La_key b_La_key 7 (some .int) [((0 : Nat), (8 : Nat), (11 : Nat), (13 : Nat)), ((0 : Nat), (8 : Nat), (15 : Nat), (17 : Nat))] :: aw_G
abbrev rm_La_key1 : Room := { frames := 8, cells := 1, slots := 6, locals := 137 }
set_option maxHeartbeats 4000000 in
set_option maxRecDepth 100000 in
theorem k_La_key1 (l : Launch) (hst : l.stackTraces = false) (D : va_G) (g : Nat → ClassId) (ad : Nat → Nat) (G M : Nat → Nat × Nat) (F : Int32) (N0 : Nat) (j : Nat) (a : Int64) (b : Int64) (hj : j < 4) (hs : 1 ≤ (G j).1) : Met l y_La_key ws_La_key1 rm_La_key1 (va_Pc ([.ref (aw_r ad 0), .int (nI j), .long a, .long b] : List Value) (aw_B D g ad G M F N0)) (va_Qi (fun r (_ : Unit) => r = nI 0) (fun (_ : Unit) t => aw_H D g ad (aw_g1 G j 2) M F N0 t.heap) (aw_Z N0)) 1 6 (aw_Z N0) := by
  refine va_MetW (cc := b_La_key) (maxL := 7) (ret := (some .int)) (hh := [((0 : Nat), (8 : Nat), (11 : Nat), (13 : Nat)), ((0 : Nat), (8 : Nat), (15 : Nat), (17 : Nat))]) (by decide) rfl ?_
  intro p e s m args below meth c s₁ B hml hv
  obtain ⟨rfl, ⟨L, hP, hD, hSh⟩, hU⟩ := hv
  have hx := B.exec
  have hb := B.bytes
  have hr := B.returns
  have hG : ∀ w ∈ aw_G, w.before _ s = true := fun w h => atoms_spec (ws := ws_La_key1) B.pre w (List.mem_cons_of_mem _ h)
  have htab : c.exceptionTable.toList = tableOf [((0 : Nat), (8 : Nat), (11 : Nat), (13 : Nat)), ((0 : Nat), (8 : Nat), (15 : Nat), (17 : Nat))] := vx_table (x := y_La_key) B (atoms_spec (ws := ws_La_key1) B.pre _ List.mem_cons_self)
  have hown : s.vm.findClass "RuleCiphersLaw" = some m.cls := findClass_of_methodNamed B.named
  have hlocks := B.notSynchronized
  have hE := hU.1
  have hK := hE.1
  have hN := hE.2.1
  have hS : va_S (aw_Z N0) s.heap s.heap [] := va_S.rf
  have hl := lv_entry ([.ref (aw_r ad 0), .int (nI j), .long a, .long b] : List Value) (n := 7) (Nat.le_of_ble_eq_true rfl)
  rw [lg_entry_eq]
  generalize (lg_sl ([.ref (aw_r ad 0), .int (nI j), .long a, .long b] : List Value) ++ List.replicate (7 - (lg_sl ([.ref (aw_r ad 0), .int (nI j), .long a, .long b] : List Value)).length) Slot.unset).toArray = ls at hl ⊢
  have hl : lv_has ls 7 [(0, .ref (aw_r ad 0)), (1, .int (nI j)), (2, .long a), (4, .long b)] := hl
  refine lv_aload_n hx hb d_La_key_0 rfl (lv_at hl 0 rfl) ?_
  refine lv_iload_n hx hb d_La_key_1 rfl (lv_at hl 1 rfl) ?_
  refine lv_lload_n hx hb d_La_key_2 rfl (lv_at hl 2 rfl) ?_
  refine lv_lload hx hb d_La_key_3 (lv_at hl 3 rfl) ?_
  have he1 := rd_R0 hSh
  refine va_callv (va_runV (As := [.int (nI j), .long a, .long b]) (rest := []) ⟨hx, hb, hml, hown, hG⟩ (k_Ru_key1 l D g ad G M F N0 j a b hj hs) (aw_wV 3 hG gw_4_23 gw_4_20 gw_0_1 gw_4_21 gw_4_22 rfl rfl hd_Ru_key ⟨Nat.le_of_ble_eq_true rfl, Nat.le_of_ble_eq_true rfl⟩) (aw_qV (va_recv hK hP rfl he1) hP hD hSh hU hS) rfl rfl hl.1 rfl (lv_room (Nat.le_of_ble_eq_true rfl)) d_La_key_5 ⟨Nat.le_of_ble_eq_true rfl, Nat.le_of_ble_eq_true rfl⟩) hS (fun _ _ h => h) (fun _ h => h) (fun u8 t8 H locs ht _ _ hB _ _ hS => ?_)
  obtain ⟨L, hP, hD, hSh⟩ := hB
  rw [ht] at hP
  clear ht
  refine lv_goto (tgt := 19) hx hb d_La_key_8 (by decide) ?_
  refine lv_iconst (v := nI 0) hx hb d_La_key_19 (by decide +kernel) ?_
  refine W.widen (k := 1) (n := 6) (Nat.le_of_ble_eq_true rfl) (Nat.le_of_ble_eq_true rfl) ?_
  exact W.iret hx hb hr (fun t ht hW => ⟨⟨_, (), rfl, rfl, aw_Hr ht hP hD hSh⟩, hS.F ht⟩) hS.2.2 d_La_key_20
abbrev ws_La_keyXc : List Cond := Cond.codeWith y_La_key b_La_key 7 (some .int) [((0 : Nat), (8 : Nat), (11 : Nat), (13 : Nat)), ((0 : Nat), (8 : Nat), (15 : Nat), (17 : Nat))] :: aw_G
abbrev rm_La_keyXc : Room := { frames := 8, cells := 1, slots := 6, locals := 137 }
set_option maxHeartbeats 4000000 in
set_option maxRecDepth 100000 in
theorem k_La_keyXc (l : Launch) (hst : l.stackTraces = false) (D : va_G) (g : Nat → ClassId) (ad : Nat → Nat) (G M : Nat → Nat × Nat) (F : Int32) (N0 : Nat) (c0 : Int32) (a : Int64) (b : Int64) (hc : c0 < 0 ∨ (¬ c0 < 0 ∧ ¬ c0 < nI 4)) : Met l y_La_key ws_La_keyXc rm_La_keyXc (va_Pc ([.ref (aw_r ad 0), .int c0, .long a, .long b] : List Value) (aw_B D g ad G M F N0)) (va_Qi (fun r (_ : Unit) => r = nI 1) (fun (_ : Unit) t => aw_H D g ad G M F N0 t.heap) (aw_Z N0)) 1 6 (aw_Z N0) := by
  refine va_MetW (cc := b_La_key) (maxL := 7) (ret := (some .int)) (hh := [((0 : Nat), (8 : Nat), (11 : Nat), (13 : Nat)), ((0 : Nat), (8 : Nat), (15 : Nat), (17 : Nat))]) (by decide) rfl ?_
  intro p e s m args below meth c s₁ B hml hv
  obtain ⟨rfl, ⟨L, hP, hD, hSh⟩, hU⟩ := hv
  have hx := B.exec
  have hb := B.bytes
  have hr := B.returns
  have hG : ∀ w ∈ aw_G, w.before _ s = true := fun w h => atoms_spec (ws := ws_La_keyXc) B.pre w (List.mem_cons_of_mem _ h)
  have htab : c.exceptionTable.toList = tableOf [((0 : Nat), (8 : Nat), (11 : Nat), (13 : Nat)), ((0 : Nat), (8 : Nat), (15 : Nat), (17 : Nat))] := vx_table (x := y_La_key) B (atoms_spec (ws := ws_La_keyXc) B.pre _ List.mem_cons_self)
  have hown : s.vm.findClass "RuleCiphersLaw" = some m.cls := findClass_of_methodNamed B.named
  have hlocks := B.notSynchronized
  have hE := hU.1
  have hK := hE.1
  have hN := hE.2.1
  have hS : va_S (aw_Z N0) s.heap s.heap [] := va_S.rf
  have hl := lv_entry ([.ref (aw_r ad 0), .int c0, .long a, .long b] : List Value) (n := 7) (Nat.le_of_ble_eq_true rfl)
  rw [lg_entry_eq]
  generalize (lg_sl ([.ref (aw_r ad 0), .int c0, .long a, .long b] : List Value) ++ List.replicate (7 - (lg_sl ([.ref (aw_r ad 0), .int c0, .long a, .long b] : List Value)).length) Slot.unset).toArray = ls at hl ⊢
  have hl : lv_has ls 7 [(0, .ref (aw_r ad 0)), (1, .int c0), (2, .long a), (4, .long b)] := hl
  refine lv_aload_n hx hb d_La_key_0 rfl (lv_at hl 0 rfl) ?_
  refine lv_iload_n hx hb d_La_key_1 rfl (lv_at hl 1 rfl) ?_
  refine lv_lload_n hx hb d_La_key_2 rfl (lv_at hl 2 rfl) ?_
  refine lv_lload hx hb d_La_key_3 (lv_at hl 3 rfl) ?_
  have he1 := rd_R0 hSh
  refine vx_callv (vx_runV (As := [.int c0, .long a, .long b]) (rest := []) ⟨hx, hb, hml, hown, hG⟩ (k_Ru_keyXc l hst D g ad G M F N0 c0 a b hc) (aw_wV 3 hG gw_4_23 gw_4_20 gw_0_1 gw_4_21 gw_4_22 rfl rfl hd_Ru_key ⟨Nat.le_of_ble_eq_true rfl, Nat.le_of_ble_eq_true rfl⟩) (aw_qV (va_recv hK hP rfl he1) hP hD hSh hU hS) rfl rfl hl.1 rfl (lv_room (Nat.le_of_ble_eq_true rfl)) d_La_key_5 ⟨Nat.le_of_ble_eq_true rfl, Nat.le_of_ble_eq_true rfl⟩) hS (fun _ _ h => h) (fun _ h => h) (fun _ _ h => h) (fun E ce q9 u t H locs ht _ _ hBX _ _ hS hce hcv hcl => ?_) (fun u t H locs _ _ hF _ _ _ _ => hF.elim)
  obtain ⟨rfl, L, hP, hD, hSh⟩ := hBX
  rw [ht] at hP
  refine vx_catch hown [] ⟨0, 8, 11, 13⟩ [⟨0, 8, 15, 17⟩] htab aw_ps0 (by decide) (by decide) (hG _ gw_2_38) (va_Nw.use rfl (hN _ nw_2)) hce hcv hcl ?_
  refine W.eq (g2 := F0 m 11 ls [.ref q9]) rfl ?_
  refine lv_astore hx hb d_La_key_11 hl (by decide) rfl (fun ls hl => ?_)
  have hl : lv_has ls 7 [(6, .ref q9), (0, .ref (aw_r ad 0)), (1, .int c0), (2, .long a), (4, .long b)] := hl
  refine lv_iconst (v := nI 1) hx hb d_La_key_13 (by decide +kernel) ?_
  exact W.iret hx hb hr (fun t ht hW => ⟨⟨_, (), rfl, rfl, aw_Hr ht hP hD hSh⟩, hS.F ht⟩) hS.2.2 d_La_key_14
abbrev ws_La_keyXs : List Cond := Cond.codeWith y_La_key b_La_key 7 (some .int) [((0 : Nat), (8 : Nat), (11 : Nat), (13 : Nat)), ((0 : Nat), (8 : Nat), (15 : Nat), (17 : Nat))] :: aw_G
abbrev rm_La_keyXs : Room := { frames := 8, cells := 1, slots := 6, locals := 137 }
set_option maxHeartbeats 4000000 in
set_option maxRecDepth 100000 in
theorem k_La_keyXs (l : Launch) (hst : l.stackTraces = false) (D : va_G) (g : Nat → ClassId) (ad : Nat → Nat) (G M : Nat → Nat × Nat) (F : Int32) (N0 : Nat) (j : Nat) (a : Int64) (b : Int64) (hj : j < 4) (hs : (G j).1 = 0) : Met l y_La_key ws_La_keyXs rm_La_keyXs (va_Pc ([.ref (aw_r ad 0), .int (nI j), .long a, .long b] : List Value) (aw_B D g ad G M F N0)) (va_Qi (fun r (_ : Unit) => r = nI 2) (fun (_ : Unit) t => aw_H D g ad G M F N0 t.heap) (aw_Z N0)) 1 6 (aw_Z N0) := by
  refine va_MetW (cc := b_La_key) (maxL := 7) (ret := (some .int)) (hh := [((0 : Nat), (8 : Nat), (11 : Nat), (13 : Nat)), ((0 : Nat), (8 : Nat), (15 : Nat), (17 : Nat))]) (by decide) rfl ?_
  intro p e s m args below meth c s₁ B hml hv
  obtain ⟨rfl, ⟨L, hP, hD, hSh⟩, hU⟩ := hv
  have hx := B.exec
  have hb := B.bytes
  have hr := B.returns
  have hG : ∀ w ∈ aw_G, w.before _ s = true := fun w h => atoms_spec (ws := ws_La_keyXs) B.pre w (List.mem_cons_of_mem _ h)
  have htab : c.exceptionTable.toList = tableOf [((0 : Nat), (8 : Nat), (11 : Nat), (13 : Nat)), ((0 : Nat), (8 : Nat), (15 : Nat), (17 : Nat))] := vx_table (x := y_La_key) B (atoms_spec (ws := ws_La_keyXs) B.pre _ List.mem_cons_self)
  have hown : s.vm.findClass "RuleCiphersLaw" = some m.cls := findClass_of_methodNamed B.named
  have hlocks := B.notSynchronized
  have hE := hU.1
  have hK := hE.1
  have hN := hE.2.1
  have hS : va_S (aw_Z N0) s.heap s.heap [] := va_S.rf
  have hl := lv_entry ([.ref (aw_r ad 0), .int (nI j), .long a, .long b] : List Value) (n := 7) (Nat.le_of_ble_eq_true rfl)
  rw [lg_entry_eq]
  generalize (lg_sl ([.ref (aw_r ad 0), .int (nI j), .long a, .long b] : List Value) ++ List.replicate (7 - (lg_sl ([.ref (aw_r ad 0), .int (nI j), .long a, .long b] : List Value)).length) Slot.unset).toArray = ls at hl ⊢
  have hl : lv_has ls 7 [(0, .ref (aw_r ad 0)), (1, .int (nI j)), (2, .long a), (4, .long b)] := hl
  refine lv_aload_n hx hb d_La_key_0 rfl (lv_at hl 0 rfl) ?_
  refine lv_iload_n hx hb d_La_key_1 rfl (lv_at hl 1 rfl) ?_
  refine lv_lload_n hx hb d_La_key_2 rfl (lv_at hl 2 rfl) ?_
  refine lv_lload hx hb d_La_key_3 (lv_at hl 3 rfl) ?_
  have he1 := rd_R0 hSh
  refine vx_callv (vx_runV (As := [.int (nI j), .long a, .long b]) (rest := []) ⟨hx, hb, hml, hown, hG⟩ (k_Ru_keyXs l hst D g ad G M F N0 j a b hj hs) (aw_wV 3 hG gw_4_23 gw_4_20 gw_0_1 gw_4_21 gw_4_22 rfl rfl hd_Ru_key ⟨Nat.le_of_ble_eq_true rfl, Nat.le_of_ble_eq_true rfl⟩) (aw_qV (va_recv hK hP rfl he1) hP hD hSh hU hS) rfl rfl hl.1 rfl (lv_room (Nat.le_of_ble_eq_true rfl)) d_La_key_5 ⟨Nat.le_of_ble_eq_true rfl, Nat.le_of_ble_eq_true rfl⟩) hS (fun _ _ h => h) (fun _ h => h) (fun _ _ h => h) (fun E ce q9 u t H locs ht _ _ hBX _ _ hS hce hcv hcl => ?_) (fun u t H locs _ _ hF _ _ _ _ => hF.elim)
  obtain ⟨rfl, L, hP, hD, hSh⟩ := hBX
  rw [ht] at hP
  refine vx_catch hown [⟨0, 8, 11, 13⟩] ⟨0, 8, 15, 17⟩ [] htab (aw_psc (Or.inr ⟨by decide, "java/lang/IndexOutOfBoundsException", hG _ gw_2_38, aw_nc_S_I hE⟩) aw_ps0) (by decide) (by decide) (hG _ gw_2_40) (va_Nw.use rfl (hN _ nw_10)) hce hcv hcl ?_
  refine W.eq (g2 := F0 m 15 ls [.ref q9]) rfl ?_
  refine lv_astore hx hb d_La_key_15 hl (by decide) rfl (fun ls hl => ?_)
  have hl : lv_has ls 7 [(6, .ref q9), (0, .ref (aw_r ad 0)), (1, .int (nI j)), (2, .long a), (4, .long b)] := hl
  refine lv_iconst (v := nI 2) hx hb d_La_key_17 (by decide +kernel) ?_
  exact W.iret hx hb hr (fun t ht hW => ⟨⟨_, (), rfl, rfl, aw_Hr ht hP hD hSh⟩, hS.F ht⟩) hS.2.2 d_La_key_18
abbrev ws_La_mode1 : List Cond := Cond.codeWith y_La_mode b_La_mode 6 (some .int) [((0 : Nat), (7 : Nat), (10 : Nat), (13 : Nat)), ((0 : Nat), (7 : Nat), (14 : Nat), (15 : Nat)), ((0 : Nat), (7 : Nat), (18 : Nat), (17 : Nat))] :: aw_G
abbrev rm_La_mode1 : Room := { frames := 8, cells := 1, slots := 6, locals := 136 }
set_option maxHeartbeats 4000000 in
set_option maxRecDepth 100000 in
theorem k_La_mode1 (l : Launch) (hst : l.stackTraces = false) (D : va_G) (g : Nat → ClassId) (ad : Nat → Nat) (G M : Nat → Nat × Nat) (F : Int32) (N0 : Nat) (j : Nat) (k : Nat) (b : Int64) (hj : j < 4) (hk : k ≤ 5) (hs : 2 ≤ (G j).1) : Met l y_La_mode ws_La_mode1 rm_La_mode1 (va_Pc ([.ref (aw_r ad 0), .int (nI j), .int (nI k), .long b] : List Value) (aw_B D g ad G M F N0)) (va_Qi (fun r (_ : Unit) => r = nI 0) (fun (_ : Unit) t => aw_H D g ad (aw_g1 (aw_g2 G j k) j 3) M F N0 t.heap) (aw_Z N0)) 1 6 (aw_Z N0) := by
  refine va_MetW (cc := b_La_mode) (maxL := 6) (ret := (some .int)) (hh := [((0 : Nat), (7 : Nat), (10 : Nat), (13 : Nat)), ((0 : Nat), (7 : Nat), (14 : Nat), (15 : Nat)), ((0 : Nat), (7 : Nat), (18 : Nat), (17 : Nat))]) (by decide) rfl ?_
  intro p e s m args below meth c s₁ B hml hv
  obtain ⟨rfl, ⟨L, hP, hD, hSh⟩, hU⟩ := hv
  have hx := B.exec
  have hb := B.bytes
  have hr := B.returns
  have hG : ∀ w ∈ aw_G, w.before _ s = true := fun w h => atoms_spec (ws := ws_La_mode1) B.pre w (List.mem_cons_of_mem _ h)
  have htab : c.exceptionTable.toList = tableOf [((0 : Nat), (7 : Nat), (10 : Nat), (13 : Nat)), ((0 : Nat), (7 : Nat), (14 : Nat), (15 : Nat)), ((0 : Nat), (7 : Nat), (18 : Nat), (17 : Nat))] := vx_table (x := y_La_mode) B (atoms_spec (ws := ws_La_mode1) B.pre _ List.mem_cons_self)
  have hown : s.vm.findClass "RuleCiphersLaw" = some m.cls := findClass_of_methodNamed B.named
  have hlocks := B.notSynchronized
  have hE := hU.1
  have hK := hE.1
  have hN := hE.2.1
  have hS : va_S (aw_Z N0) s.heap s.heap [] := va_S.rf
  have hl := lv_entry ([.ref (aw_r ad 0), .int (nI j), .int (nI k), .long b] : List Value) (n := 6) (Nat.le_of_ble_eq_true rfl)
  rw [lg_entry_eq]
  generalize (lg_sl ([.ref (aw_r ad 0), .int (nI j), .int (nI k), .long b] : List Value) ++ List.replicate (6 - (lg_sl ([.ref (aw_r ad 0), .int (nI j), .int (nI k), .long b] : List Value)).length) Slot.unset).toArray = ls at hl ⊢
  have hl : lv_has ls 6 [(0, .ref (aw_r ad 0)), (1, .int (nI j)), (2, .int (nI k)), (3, .long b)] := hl
  refine lv_aload_n hx hb d_La_mode_0 rfl (lv_at hl 0 rfl) ?_
  refine lv_iload_n hx hb d_La_mode_1 rfl (lv_at hl 1 rfl) ?_
  refine lv_iload_n hx hb d_La_mode_2 rfl (lv_at hl 2 rfl) ?_
  refine lv_lload_n hx hb d_La_mode_3 rfl (lv_at hl 3 rfl) ?_
  have he1 := rd_R0 hSh
  refine va_callv (va_runV (As := [.int (nI j), .int (nI k), .long b]) (rest := []) ⟨hx, hb, hml, hown, hG⟩ (k_Ru_mode1 l D g ad G M F N0 j k b hj hk hs) (aw_wV 3 hG gw_5_27 gw_5_24 gw_0_1 gw_5_25 gw_5_26 rfl rfl hd_Ru_mode ⟨Nat.le_of_ble_eq_true rfl, Nat.le_of_ble_eq_true rfl⟩) (aw_qV (va_recv hK hP rfl he1) hP hD hSh hU hS) rfl rfl hl.1 rfl (lv_room (Nat.le_of_ble_eq_true rfl)) d_La_mode_4 ⟨Nat.le_of_ble_eq_true rfl, Nat.le_of_ble_eq_true rfl⟩) hS (fun _ _ h => h) (fun _ h => h) (fun u8 t8 H locs ht _ _ hB _ _ hS => ?_)
  obtain ⟨L, hP, hD, hSh⟩ := hB
  rw [ht] at hP
  clear ht
  refine lv_goto (tgt := 22) hx hb d_La_mode_7 (by decide) ?_
  refine lv_iconst (v := nI 0) hx hb d_La_mode_22 (by decide +kernel) ?_
  refine W.widen (k := 1) (n := 6) (Nat.le_of_ble_eq_true rfl) (Nat.le_of_ble_eq_true rfl) ?_
  exact W.iret hx hb hr (fun t ht hW => ⟨⟨_, (), rfl, rfl, aw_Hr ht hP hD hSh⟩, hS.F ht⟩) hS.2.2 d_La_mode_23
abbrev ws_La_modeXc : List Cond := Cond.codeWith y_La_mode b_La_mode 6 (some .int) [((0 : Nat), (7 : Nat), (10 : Nat), (13 : Nat)), ((0 : Nat), (7 : Nat), (14 : Nat), (15 : Nat)), ((0 : Nat), (7 : Nat), (18 : Nat), (17 : Nat))] :: aw_G
abbrev rm_La_modeXc : Room := { frames := 8, cells := 1, slots := 6, locals := 136 }
set_option maxHeartbeats 4000000 in
set_option maxRecDepth 100000 in
theorem k_La_modeXc (l : Launch) (hst : l.stackTraces = false) (D : va_G) (g : Nat → ClassId) (ad : Nat → Nat) (G M : Nat → Nat × Nat) (F : Int32) (N0 : Nat) (c0 : Int32) (k0 : Int32) (b : Int64) (hc : c0 < 0 ∨ (¬ c0 < 0 ∧ ¬ c0 < nI 4)) : Met l y_La_mode ws_La_modeXc rm_La_modeXc (va_Pc ([.ref (aw_r ad 0), .int c0, .int k0, .long b] : List Value) (aw_B D g ad G M F N0)) (va_Qi (fun r (_ : Unit) => r = nI 1) (fun (_ : Unit) t => aw_H D g ad G M F N0 t.heap) (aw_Z N0)) 1 6 (aw_Z N0) := by
  refine va_MetW (cc := b_La_mode) (maxL := 6) (ret := (some .int)) (hh := [((0 : Nat), (7 : Nat), (10 : Nat), (13 : Nat)), ((0 : Nat), (7 : Nat), (14 : Nat), (15 : Nat)), ((0 : Nat), (7 : Nat), (18 : Nat), (17 : Nat))]) (by decide) rfl ?_
  intro p e s m args below meth c s₁ B hml hv
  obtain ⟨rfl, ⟨L, hP, hD, hSh⟩, hU⟩ := hv
  have hx := B.exec
  have hb := B.bytes
  have hr := B.returns
  have hG : ∀ w ∈ aw_G, w.before _ s = true := fun w h => atoms_spec (ws := ws_La_modeXc) B.pre w (List.mem_cons_of_mem _ h)
  have htab : c.exceptionTable.toList = tableOf [((0 : Nat), (7 : Nat), (10 : Nat), (13 : Nat)), ((0 : Nat), (7 : Nat), (14 : Nat), (15 : Nat)), ((0 : Nat), (7 : Nat), (18 : Nat), (17 : Nat))] := vx_table (x := y_La_mode) B (atoms_spec (ws := ws_La_modeXc) B.pre _ List.mem_cons_self)
  have hown : s.vm.findClass "RuleCiphersLaw" = some m.cls := findClass_of_methodNamed B.named
  have hlocks := B.notSynchronized
  have hE := hU.1
  have hK := hE.1
  have hN := hE.2.1
  have hS : va_S (aw_Z N0) s.heap s.heap [] := va_S.rf
  have hl := lv_entry ([.ref (aw_r ad 0), .int c0, .int k0, .long b] : List Value) (n := 6) (Nat.le_of_ble_eq_true rfl)
  rw [lg_entry_eq]
  generalize (lg_sl ([.ref (aw_r ad 0), .int c0, .int k0, .long b] : List Value) ++ List.replicate (6 - (lg_sl ([.ref (aw_r ad 0), .int c0, .int k0, .long b] : List Value)).length) Slot.unset).toArray = ls at hl ⊢
  have hl : lv_has ls 6 [(0, .ref (aw_r ad 0)), (1, .int c0), (2, .int k0), (3, .long b)] := hl
  refine lv_aload_n hx hb d_La_mode_0 rfl (lv_at hl 0 rfl) ?_
  refine lv_iload_n hx hb d_La_mode_1 rfl (lv_at hl 1 rfl) ?_
  refine lv_iload_n hx hb d_La_mode_2 rfl (lv_at hl 2 rfl) ?_
  refine lv_lload_n hx hb d_La_mode_3 rfl (lv_at hl 3 rfl) ?_
  have he1 := rd_R0 hSh
  refine vx_callv (vx_runV (As := [.int c0, .int k0, .long b]) (rest := []) ⟨hx, hb, hml, hown, hG⟩ (k_Ru_modeXc l hst D g ad G M F N0 c0 k0 b hc) (aw_wV 3 hG gw_5_27 gw_5_24 gw_0_1 gw_5_25 gw_5_26 rfl rfl hd_Ru_mode ⟨Nat.le_of_ble_eq_true rfl, Nat.le_of_ble_eq_true rfl⟩) (aw_qV (va_recv hK hP rfl he1) hP hD hSh hU hS) rfl rfl hl.1 rfl (lv_room (Nat.le_of_ble_eq_true rfl)) d_La_mode_4 ⟨Nat.le_of_ble_eq_true rfl, Nat.le_of_ble_eq_true rfl⟩) hS (fun _ _ h => h) (fun _ h => h) (fun _ _ h => h) (fun E ce q9 u t H locs ht _ _ hBX _ _ hS hce hcv hcl => ?_) (fun u t H locs _ _ hF _ _ _ _ => hF.elim)
  obtain ⟨rfl, L, hP, hD, hSh⟩ := hBX
  rw [ht] at hP
  refine vx_catch hown [] ⟨0, 7, 10, 13⟩ [⟨0, 7, 14, 15⟩, ⟨0, 7, 18, 17⟩] htab aw_ps0 (by decide) (by decide) (hG _ gw_2_38) (va_Nw.use rfl (hN _ nw_2)) hce hcv hcl ?_
  refine W.eq (g2 := F0 m 10 ls [.ref q9]) rfl ?_
  refine lv_astore hx hb d_La_mode_10 hl (by decide) rfl (fun ls hl => ?_)
  have hl : lv_has ls 6 [(5, .ref q9), (0, .ref (aw_r ad 0)), (1, .int c0), (2, .int k0), (3, .long b)] := hl
  refine lv_iconst (v := nI 1) hx hb d_La_mode_12 (by decide +kernel) ?_
  exact W.iret hx hb hr (fun t ht hW => ⟨⟨_, (), rfl, rfl, aw_Hr ht hP hD hSh⟩, hS.F ht⟩) hS.2.2 d_La_mode_13
abbrev ws_La_modeXa : List Cond := Cond.codeWith y_La_mode b_La_mode 6 (some .int) [((0 : Nat), (7 : Nat), (10 : Nat), (13 : Nat)), ((0 : Nat), (7 : Nat), (14 : Nat), (15 : Nat)), ((0 : Nat), (7 : Nat), (18 : Nat), (17 : Nat))] :: aw_G
abbrev rm_La_modeXa : Room := { frames := 8, cells := 1, slots := 6, locals := 136 }
set_option maxHeartbeats 4000000 in
set_option maxRecDepth 100000 in
theorem k_La_modeXa (l : Launch) (hst : l.stackTraces = false) (D : va_G) (g : Nat → ClassId) (ad : Nat → Nat) (G M : Nat → Nat × Nat) (F : Int32) (N0 : Nat) (j : Nat) (k0 : Int32) (b : Int64) (hj : j < 4) (hk : k0 < 0 ∨ (¬ k0 < 0 ∧ nI 5 < k0)) : Met l y_La_mode ws_La_modeXa rm_La_modeXa (va_Pc ([.ref (aw_r ad 0), .int (nI j), .int k0, .long b] : List Value) (aw_B D g ad G M F N0)) (va_Qi (fun r (_ : Unit) => r = nI 2) (fun (_ : Unit) t => aw_H D g ad G M F N0 t.heap) (aw_Z N0)) 1 6 (aw_Z N0) := by
  refine va_MetW (cc := b_La_mode) (maxL := 6) (ret := (some .int)) (hh := [((0 : Nat), (7 : Nat), (10 : Nat), (13 : Nat)), ((0 : Nat), (7 : Nat), (14 : Nat), (15 : Nat)), ((0 : Nat), (7 : Nat), (18 : Nat), (17 : Nat))]) (by decide) rfl ?_
  intro p e s m args below meth c s₁ B hml hv
  obtain ⟨rfl, ⟨L, hP, hD, hSh⟩, hU⟩ := hv
  have hx := B.exec
  have hb := B.bytes
  have hr := B.returns
  have hG : ∀ w ∈ aw_G, w.before _ s = true := fun w h => atoms_spec (ws := ws_La_modeXa) B.pre w (List.mem_cons_of_mem _ h)
  have htab : c.exceptionTable.toList = tableOf [((0 : Nat), (7 : Nat), (10 : Nat), (13 : Nat)), ((0 : Nat), (7 : Nat), (14 : Nat), (15 : Nat)), ((0 : Nat), (7 : Nat), (18 : Nat), (17 : Nat))] := vx_table (x := y_La_mode) B (atoms_spec (ws := ws_La_modeXa) B.pre _ List.mem_cons_self)
  have hown : s.vm.findClass "RuleCiphersLaw" = some m.cls := findClass_of_methodNamed B.named
  have hlocks := B.notSynchronized
  have hE := hU.1
  have hK := hE.1
  have hN := hE.2.1
  have hS : va_S (aw_Z N0) s.heap s.heap [] := va_S.rf
  have hl := lv_entry ([.ref (aw_r ad 0), .int (nI j), .int k0, .long b] : List Value) (n := 6) (Nat.le_of_ble_eq_true rfl)
  rw [lg_entry_eq]
  generalize (lg_sl ([.ref (aw_r ad 0), .int (nI j), .int k0, .long b] : List Value) ++ List.replicate (6 - (lg_sl ([.ref (aw_r ad 0), .int (nI j), .int k0, .long b] : List Value)).length) Slot.unset).toArray = ls at hl ⊢
  have hl : lv_has ls 6 [(0, .ref (aw_r ad 0)), (1, .int (nI j)), (2, .int k0), (3, .long b)] := hl
  refine lv_aload_n hx hb d_La_mode_0 rfl (lv_at hl 0 rfl) ?_
  refine lv_iload_n hx hb d_La_mode_1 rfl (lv_at hl 1 rfl) ?_
  refine lv_iload_n hx hb d_La_mode_2 rfl (lv_at hl 2 rfl) ?_
  refine lv_lload_n hx hb d_La_mode_3 rfl (lv_at hl 3 rfl) ?_
  have he1 := rd_R0 hSh
  refine vx_callv (vx_runV (As := [.int (nI j), .int k0, .long b]) (rest := []) ⟨hx, hb, hml, hown, hG⟩ (k_Ru_modeXa l hst D g ad G M F N0 j k0 b hj hk) (aw_wV 3 hG gw_5_27 gw_5_24 gw_0_1 gw_5_25 gw_5_26 rfl rfl hd_Ru_mode ⟨Nat.le_of_ble_eq_true rfl, Nat.le_of_ble_eq_true rfl⟩) (aw_qV (va_recv hK hP rfl he1) hP hD hSh hU hS) rfl rfl hl.1 rfl (lv_room (Nat.le_of_ble_eq_true rfl)) d_La_mode_4 ⟨Nat.le_of_ble_eq_true rfl, Nat.le_of_ble_eq_true rfl⟩) hS (fun _ _ h => h) (fun _ h => h) (fun _ _ h => h) (fun E ce q9 u t H locs ht _ _ hBX _ _ hS hce hcv hcl => ?_) (fun u t H locs _ _ hF _ _ _ _ => hF.elim)
  obtain ⟨rfl, L, hP, hD, hSh⟩ := hBX
  rw [ht] at hP
  refine vx_catch hown [⟨0, 7, 10, 13⟩] ⟨0, 7, 14, 15⟩ [⟨0, 7, 18, 17⟩] htab (aw_psc (Or.inr ⟨by decide, "java/lang/IndexOutOfBoundsException", hG _ gw_2_38, aw_nc_A_I hE⟩) aw_ps0) (by decide) (by decide) (hG _ gw_2_39) (va_Nw.use rfl (hN _ nw_9)) hce hcv hcl ?_
  refine W.eq (g2 := F0 m 14 ls [.ref q9]) rfl ?_
  refine lv_astore hx hb d_La_mode_14 hl (by decide) rfl (fun ls hl => ?_)
  have hl : lv_has ls 6 [(5, .ref q9), (0, .ref (aw_r ad 0)), (1, .int (nI j)), (2, .int k0), (3, .long b)] := hl
  refine lv_iconst (v := nI 2) hx hb d_La_mode_16 (by decide +kernel) ?_
  exact W.iret hx hb hr (fun t ht hW => ⟨⟨_, (), rfl, rfl, aw_Hr ht hP hD hSh⟩, hS.F ht⟩) hS.2.2 d_La_mode_17
abbrev ws_La_modeXs : List Cond := Cond.codeWith y_La_mode b_La_mode 6 (some .int) [((0 : Nat), (7 : Nat), (10 : Nat), (13 : Nat)), ((0 : Nat), (7 : Nat), (14 : Nat), (15 : Nat)), ((0 : Nat), (7 : Nat), (18 : Nat), (17 : Nat))] :: aw_G
abbrev rm_La_modeXs : Room := { frames := 8, cells := 1, slots := 6, locals := 136 }
set_option maxHeartbeats 4000000 in
set_option maxRecDepth 100000 in
theorem k_La_modeXs (l : Launch) (hst : l.stackTraces = false) (D : va_G) (g : Nat → ClassId) (ad : Nat → Nat) (G M : Nat → Nat × Nat) (F : Int32) (N0 : Nat) (j : Nat) (k : Nat) (b : Int64) (hj : j < 4) (hk : k ≤ 5) (hs : (G j).1 ≤ 1) : Met l y_La_mode ws_La_modeXs rm_La_modeXs (va_Pc ([.ref (aw_r ad 0), .int (nI j), .int (nI k), .long b] : List Value) (aw_B D g ad G M F N0)) (va_Qi (fun r (_ : Unit) => r = nI 3) (fun (_ : Unit) t => aw_H D g ad G M F N0 t.heap) (aw_Z N0)) 1 6 (aw_Z N0) := by
  refine va_MetW (cc := b_La_mode) (maxL := 6) (ret := (some .int)) (hh := [((0 : Nat), (7 : Nat), (10 : Nat), (13 : Nat)), ((0 : Nat), (7 : Nat), (14 : Nat), (15 : Nat)), ((0 : Nat), (7 : Nat), (18 : Nat), (17 : Nat))]) (by decide) rfl ?_
  intro p e s m args below meth c s₁ B hml hv
  obtain ⟨rfl, ⟨L, hP, hD, hSh⟩, hU⟩ := hv
  have hx := B.exec
  have hb := B.bytes
  have hr := B.returns
  have hG : ∀ w ∈ aw_G, w.before _ s = true := fun w h => atoms_spec (ws := ws_La_modeXs) B.pre w (List.mem_cons_of_mem _ h)
  have htab : c.exceptionTable.toList = tableOf [((0 : Nat), (7 : Nat), (10 : Nat), (13 : Nat)), ((0 : Nat), (7 : Nat), (14 : Nat), (15 : Nat)), ((0 : Nat), (7 : Nat), (18 : Nat), (17 : Nat))] := vx_table (x := y_La_mode) B (atoms_spec (ws := ws_La_modeXs) B.pre _ List.mem_cons_self)
  have hown : s.vm.findClass "RuleCiphersLaw" = some m.cls := findClass_of_methodNamed B.named
  have hlocks := B.notSynchronized
  have hE := hU.1
  have hK := hE.1
  have hN := hE.2.1
  have hS : va_S (aw_Z N0) s.heap s.heap [] := va_S.rf
  have hl := lv_entry ([.ref (aw_r ad 0), .int (nI j), .int (nI k), .long b] : List Value) (n := 6) (Nat.le_of_ble_eq_true rfl)
  rw [lg_entry_eq]
  generalize (lg_sl ([.ref (aw_r ad 0), .int (nI j), .int (nI k), .long b] : List Value) ++ List.replicate (6 - (lg_sl ([.ref (aw_r ad 0), .int (nI j), .int (nI k), .long b] : List Value)).length) Slot.unset).toArray = ls at hl ⊢
  have hl : lv_has ls 6 [(0, .ref (aw_r ad 0)), (1, .int (nI j)), (2, .int (nI k)), (3, .long b)] := hl
  refine lv_aload_n hx hb d_La_mode_0 rfl (lv_at hl 0 rfl) ?_
  refine lv_iload_n hx hb d_La_mode_1 rfl (lv_at hl 1 rfl) ?_
  refine lv_iload_n hx hb d_La_mode_2 rfl (lv_at hl 2 rfl) ?_
  refine lv_lload_n hx hb d_La_mode_3 rfl (lv_at hl 3 rfl) ?_
  have he1 := rd_R0 hSh
  refine vx_callv (vx_runV (As := [.int (nI j), .int (nI k), .long b]) (rest := []) ⟨hx, hb, hml, hown, hG⟩ (k_Ru_modeXs l hst D g ad G M F N0 j k b hj hk hs) (aw_wV 3 hG gw_5_27 gw_5_24 gw_0_1 gw_5_25 gw_5_26 rfl rfl hd_Ru_mode ⟨Nat.le_of_ble_eq_true rfl, Nat.le_of_ble_eq_true rfl⟩) (aw_qV (va_recv hK hP rfl he1) hP hD hSh hU hS) rfl rfl hl.1 rfl (lv_room (Nat.le_of_ble_eq_true rfl)) d_La_mode_4 ⟨Nat.le_of_ble_eq_true rfl, Nat.le_of_ble_eq_true rfl⟩) hS (fun _ _ h => h) (fun _ h => h) (fun _ _ h => h) (fun E ce q9 u t H locs ht _ _ hBX _ _ hS hce hcv hcl => ?_) (fun u t H locs _ _ hF _ _ _ _ => hF.elim)
  obtain ⟨rfl, L, hP, hD, hSh⟩ := hBX
  rw [ht] at hP
  refine vx_catch hown [⟨0, 7, 10, 13⟩, ⟨0, 7, 14, 15⟩] ⟨0, 7, 18, 17⟩ [] htab (aw_psc (Or.inr ⟨by decide, "java/lang/IndexOutOfBoundsException", hG _ gw_2_38, aw_nc_S_I hE⟩) (aw_psc (Or.inr ⟨by decide, "java/lang/IllegalArgumentException", hG _ gw_2_39, aw_nc_S_A hE⟩) aw_ps0)) (by decide) (by decide) (hG _ gw_2_40) (va_Nw.use rfl (hN _ nw_10)) hce hcv hcl ?_
  refine W.eq (g2 := F0 m 18 ls [.ref q9]) rfl ?_
  refine lv_astore hx hb d_La_mode_18 hl (by decide) rfl (fun ls hl => ?_)
  have hl : lv_has ls 6 [(5, .ref q9), (0, .ref (aw_r ad 0)), (1, .int (nI j)), (2, .int (nI k)), (3, .long b)] := hl
  refine lv_iconst (v := nI 3) hx hb d_La_mode_20 (by decide +kernel) ?_
  exact W.iret hx hb hr (fun t ht hW => ⟨⟨_, (), rfl, rfl, aw_Hr ht hP hD hSh⟩, hS.F ht⟩) hS.2.2 d_La_mode_21
abbrev ws_La_free1 : List Cond := Cond.codeWith y_La_free b_La_free 3 (some .int) [((0 : Nat), (5 : Nat), (8 : Nat), (13 : Nat))] :: aw_G
abbrev rm_La_free1 : Room := { frames := 8, cells := 1, slots := 6, locals := 132 }
set_option maxHeartbeats 4000000 in
set_option maxRecDepth 100000 in
theorem k_La_free1 (l : Launch) (hst : l.stackTraces = false) (D : va_G) (g : Nat → ClassId) (ad : Nat → Nat) (G M : Nat → Nat × Nat) (F : Int32) (N0 : Nat) (j : Nat) (hj : j < 4) : Met l y_La_free ws_La_free1 rm_La_free1 (va_Pc ([.ref (aw_r ad 0), .int (nI j)] : List Value) (aw_B D g ad G M F N0)) (va_Qi (fun r (_ : Unit) => r = nI 0) (fun (_ : Unit) t => aw_H D g ad (aw_g1 G j 0) M F N0 t.heap) (aw_Z N0)) 1 6 (aw_Z N0) := by
  refine va_MetW (cc := b_La_free) (maxL := 3) (ret := (some .int)) (hh := [((0 : Nat), (5 : Nat), (8 : Nat), (13 : Nat))]) (by decide) rfl ?_
  intro p e s m args below meth c s₁ B hml hv
  obtain ⟨rfl, ⟨L, hP, hD, hSh⟩, hU⟩ := hv
  have hx := B.exec
  have hb := B.bytes
  have hr := B.returns
  have hG : ∀ w ∈ aw_G, w.before _ s = true := fun w h => atoms_spec (ws := ws_La_free1) B.pre w (List.mem_cons_of_mem _ h)
  have htab : c.exceptionTable.toList = tableOf [((0 : Nat), (5 : Nat), (8 : Nat), (13 : Nat))] := vx_table (x := y_La_free) B (atoms_spec (ws := ws_La_free1) B.pre _ List.mem_cons_self)
  have hown : s.vm.findClass "RuleCiphersLaw" = some m.cls := findClass_of_methodNamed B.named
  have hlocks := B.notSynchronized
  have hE := hU.1
  have hK := hE.1
  have hN := hE.2.1
  have hS : va_S (aw_Z N0) s.heap s.heap [] := va_S.rf
  have hl := lv_entry ([.ref (aw_r ad 0), .int (nI j)] : List Value) (n := 3) (Nat.le_of_ble_eq_true rfl)
  rw [lg_entry_eq]
  generalize (lg_sl ([.ref (aw_r ad 0), .int (nI j)] : List Value) ++ List.replicate (3 - (lg_sl ([.ref (aw_r ad 0), .int (nI j)] : List Value)).length) Slot.unset).toArray = ls at hl ⊢
  have hl : lv_has ls 3 [(0, .ref (aw_r ad 0)), (1, .int (nI j))] := hl
  refine lv_aload_n hx hb d_La_free_0 rfl (lv_at hl 0 rfl) ?_
  refine lv_iload_n hx hb d_La_free_1 rfl (lv_at hl 1 rfl) ?_
  have he1 := rd_R0 hSh
  refine va_callv (va_runV (As := [.int (nI j)]) (rest := []) ⟨hx, hb, hml, hown, hG⟩ (k_Ru_free1 l D g ad G M F N0 j hj) (aw_wV 1 hG gw_5_45 gw_5_42 gw_0_1 gw_5_43 gw_5_44 rfl rfl hd_Ru_free ⟨Nat.le_of_ble_eq_true rfl, Nat.le_of_ble_eq_true rfl⟩) (aw_qV (va_recv hK hP rfl he1) hP hD hSh hU hS) rfl rfl hl.1 rfl (lv_room (Nat.le_of_ble_eq_true rfl)) d_La_free_2 ⟨Nat.le_of_ble_eq_true rfl, Nat.le_of_ble_eq_true rfl⟩) hS (fun _ _ h => h) (fun _ h => h) (fun u8 t8 H locs ht _ _ hB _ _ hS => ?_)
  obtain ⟨L, hP, hD, hSh⟩ := hB
  rw [ht] at hP
  clear ht
  refine lv_goto (tgt := 11) hx hb d_La_free_5 (by decide) ?_
  refine lv_iconst (v := nI 0) hx hb d_La_free_11 (by decide +kernel) ?_
  refine W.widen (k := 1) (n := 6) (Nat.le_of_ble_eq_true rfl) (Nat.le_of_ble_eq_true rfl) ?_
  exact W.iret hx hb hr (fun t ht hW => ⟨⟨_, (), rfl, rfl, aw_Hr ht hP hD hSh⟩, hS.F ht⟩) hS.2.2 d_La_free_12
abbrev ws_La_freeXc : List Cond := Cond.codeWith y_La_free b_La_free 3 (some .int) [((0 : Nat), (5 : Nat), (8 : Nat), (13 : Nat))] :: aw_G
abbrev rm_La_freeXc : Room := { frames := 8, cells := 1, slots := 6, locals := 132 }
set_option maxHeartbeats 4000000 in
set_option maxRecDepth 100000 in
theorem k_La_freeXc (l : Launch) (hst : l.stackTraces = false) (D : va_G) (g : Nat → ClassId) (ad : Nat → Nat) (G M : Nat → Nat × Nat) (F : Int32) (N0 : Nat) (c0 : Int32) (hc : c0 < 0 ∨ (¬ c0 < 0 ∧ ¬ c0 < nI 4)) : Met l y_La_free ws_La_freeXc rm_La_freeXc (va_Pc ([.ref (aw_r ad 0), .int c0] : List Value) (aw_B D g ad G M F N0)) (va_Qi (fun r (_ : Unit) => r = nI 1) (fun (_ : Unit) t => aw_H D g ad G M F N0 t.heap) (aw_Z N0)) 1 6 (aw_Z N0) := by
  refine va_MetW (cc := b_La_free) (maxL := 3) (ret := (some .int)) (hh := [((0 : Nat), (5 : Nat), (8 : Nat), (13 : Nat))]) (by decide) rfl ?_
  intro p e s m args below meth c s₁ B hml hv
  obtain ⟨rfl, ⟨L, hP, hD, hSh⟩, hU⟩ := hv
  have hx := B.exec
  have hb := B.bytes
  have hr := B.returns
  have hG : ∀ w ∈ aw_G, w.before _ s = true := fun w h => atoms_spec (ws := ws_La_freeXc) B.pre w (List.mem_cons_of_mem _ h)
  have htab : c.exceptionTable.toList = tableOf [((0 : Nat), (5 : Nat), (8 : Nat), (13 : Nat))] := vx_table (x := y_La_free) B (atoms_spec (ws := ws_La_freeXc) B.pre _ List.mem_cons_self)
  have hown : s.vm.findClass "RuleCiphersLaw" = some m.cls := findClass_of_methodNamed B.named
  have hlocks := B.notSynchronized
  have hE := hU.1
  have hK := hE.1
  have hN := hE.2.1
  have hS : va_S (aw_Z N0) s.heap s.heap [] := va_S.rf
  have hl := lv_entry ([.ref (aw_r ad 0), .int c0] : List Value) (n := 3) (Nat.le_of_ble_eq_true rfl)
  rw [lg_entry_eq]
  generalize (lg_sl ([.ref (aw_r ad 0), .int c0] : List Value) ++ List.replicate (3 - (lg_sl ([.ref (aw_r ad 0), .int c0] : List Value)).length) Slot.unset).toArray = ls at hl ⊢
  have hl : lv_has ls 3 [(0, .ref (aw_r ad 0)), (1, .int c0)] := hl
  refine lv_aload_n hx hb d_La_free_0 rfl (lv_at hl 0 rfl) ?_
  refine lv_iload_n hx hb d_La_free_1 rfl (lv_at hl 1 rfl) ?_
  have he1 := rd_R0 hSh
  refine vx_callv (vx_runV (As := [.int c0]) (rest := []) ⟨hx, hb, hml, hown, hG⟩ (k_Ru_freeXc l hst D g ad G M F N0 c0 hc) (aw_wV 1 hG gw_5_45 gw_5_42 gw_0_1 gw_5_43 gw_5_44 rfl rfl hd_Ru_free ⟨Nat.le_of_ble_eq_true rfl, Nat.le_of_ble_eq_true rfl⟩) (aw_qV (va_recv hK hP rfl he1) hP hD hSh hU hS) rfl rfl hl.1 rfl (lv_room (Nat.le_of_ble_eq_true rfl)) d_La_free_2 ⟨Nat.le_of_ble_eq_true rfl, Nat.le_of_ble_eq_true rfl⟩) hS (fun _ _ h => h) (fun _ h => h) (fun _ _ h => h) (fun E ce q9 u t H locs ht _ _ hBX _ _ hS hce hcv hcl => ?_) (fun u t H locs _ _ hF _ _ _ _ => hF.elim)
  obtain ⟨rfl, L, hP, hD, hSh⟩ := hBX
  rw [ht] at hP
  refine vx_catch hown [] ⟨0, 5, 8, 13⟩ [] htab aw_ps0 (by decide) (by decide) (hG _ gw_2_38) (va_Nw.use rfl (hN _ nw_2)) hce hcv hcl ?_
  refine W.eq (g2 := F0 m 8 ls [.ref q9]) rfl ?_
  refine lv_astore_n hx hb d_La_free_8 rfl hl (by decide) rfl (fun ls hl => ?_)
  have hl : lv_has ls 3 [(2, .ref q9), (0, .ref (aw_r ad 0)), (1, .int c0)] := hl
  refine lv_iconst (v := nI 1) hx hb d_La_free_9 (by decide +kernel) ?_
  exact W.iret hx hb hr (fun t ht hW => ⟨⟨_, (), rfl, rfl, aw_Hr ht hP hD hSh⟩, hS.F ht⟩) hS.2.2 d_La_free_10
abbrev ws_La_stage1 : List Cond := Cond.codeWith y_La_stage b_La_stage 4 (some .int) [((0 : Nat), (9 : Nat), (12 : Nat), (13 : Nat))] :: aw_G
abbrev rm_La_stage1 : Room := { frames := 8, cells := 1, slots := 6, locals := 132 }
set_option maxHeartbeats 4000000 in
set_option maxRecDepth 100000 in
theorem k_La_stage1 (l : Launch) (hst : l.stackTraces = false) (D : va_G) (g : Nat → ClassId) (ad : Nat → Nat) (G M : Nat → Nat × Nat) (F : Int32) (N0 : Nat) (j : Nat) (hj : j < 4) : Met l y_La_stage ws_La_stage1 rm_La_stage1 (va_Pc ([.ref (aw_r ad 0), .int (nI j), .ref (aw_o ad)] : List Value) (aw_B D g ad G M F N0)) (va_Qi (fun r (_ : Unit) => r = nI 0) (fun (_ : Unit) t => aw_H D g ad G M F N0 t.heap) (aw_Z N0)) 1 6 (aw_Z N0) := by
  refine va_MetW (cc := b_La_stage) (maxL := 4) (ret := (some .int)) (hh := [((0 : Nat), (9 : Nat), (12 : Nat), (13 : Nat))]) (by decide) rfl ?_
  intro p e s m args below meth c s₁ B hml hv
  obtain ⟨rfl, ⟨L, hP, hD, hSh⟩, hU⟩ := hv
  have hx := B.exec
  have hb := B.bytes
  have hr := B.returns
  have hG : ∀ w ∈ aw_G, w.before _ s = true := fun w h => atoms_spec (ws := ws_La_stage1) B.pre w (List.mem_cons_of_mem _ h)
  have htab : c.exceptionTable.toList = tableOf [((0 : Nat), (9 : Nat), (12 : Nat), (13 : Nat))] := vx_table (x := y_La_stage) B (atoms_spec (ws := ws_La_stage1) B.pre _ List.mem_cons_self)
  have hown : s.vm.findClass "RuleCiphersLaw" = some m.cls := findClass_of_methodNamed B.named
  have hlocks := B.notSynchronized
  have hE := hU.1
  have hK := hE.1
  have hN := hE.2.1
  have hS : va_S (aw_Z N0) s.heap s.heap [] := va_S.rf
  have hl := lv_entry ([.ref (aw_r ad 0), .int (nI j), .ref (aw_o ad)] : List Value) (n := 4) (Nat.le_of_ble_eq_true rfl)
  rw [lg_entry_eq]
  generalize (lg_sl ([.ref (aw_r ad 0), .int (nI j), .ref (aw_o ad)] : List Value) ++ List.replicate (4 - (lg_sl ([.ref (aw_r ad 0), .int (nI j), .ref (aw_o ad)] : List Value)).length) Slot.unset).toArray = ls at hl ⊢
  have hl : lv_has ls 4 [(0, .ref (aw_r ad 0)), (1, .int (nI j)), (2, .ref (aw_o ad))] := hl
  refine lv_aload_n hx hb d_La_stage_0 rfl (lv_at hl 2 rfl) ?_
  refine lv_iconst (v := nI 0) hx hb d_La_stage_1 (by decide +kernel) ?_
  refine lv_aload_n hx hb d_La_stage_2 rfl (lv_at hl 0 rfl) ?_
  refine lv_iload_n hx hb d_La_stage_3 rfl (lv_at hl 1 rfl) ?_
  have he1 := rd_R0 hSh
  refine va_calli (va_runV (As := [.int (nI j)]) (rest := [.int (nI 0), .ref (aw_o ad)]) ⟨hx, hb, hml, hown, hG⟩ (k_Ru_stage1 l D g ad G M F N0 j hj) (aw_wV 1 hG gw_5_52 gw_5_49 gw_0_1 gw_5_50 gw_5_51 rfl rfl hd_Ru_stage ⟨Nat.le_of_ble_eq_true rfl, Nat.le_of_ble_eq_true rfl⟩) (aw_qV (va_recv hK hP rfl he1) hP hD hSh hU hS) rfl rfl hl.1 rfl (lv_room (Nat.le_of_ble_eq_true rfl)) d_La_stage_4 ⟨Nat.le_of_ble_eq_true rfl, Nat.le_of_ble_eq_true rfl⟩) hS (fun _ _ h => h) (fun _ h => h) (fun x2 u8 t8 H locs ht _ hpx2 hB _ _ hS => ?_)
  obtain ⟨L, hP, hD, hSh⟩ := hB
  rw [ht] at hP
  clear ht
  subst hpx2
  refine lv_i2l hx hb d_La_stage_7 rfl ?_
  refine lv_topl (fun y3 _ => ?_)
  obtain ⟨f5, he4⟩ := rd_O0 hSh
  refine aw_lstI hx hb hK hP hD hS 84 1 he4 rfl (k := 0) (by omega) (by decide) d_La_stage_8 (wr_O0 hSh _) (fun H locs L hP hD hSh hS => ?_)
  refine lv_goto (tgt := 15) hx hb d_La_stage_9 (by decide) ?_
  refine lv_iconst (v := nI 0) hx hb d_La_stage_15 (by decide +kernel) ?_
  refine W.widen (k := 1) (n := 6) (Nat.le_of_ble_eq_true rfl) (Nat.le_of_ble_eq_true rfl) ?_
  exact W.iret hx hb hr (fun t ht hW => ⟨⟨_, (), rfl, rfl, aw_Hr ht hP hD hSh⟩, hS.F ht⟩) hS.2.2 d_La_stage_16
abbrev ws_La_stageXc : List Cond := Cond.codeWith y_La_stage b_La_stage 4 (some .int) [((0 : Nat), (9 : Nat), (12 : Nat), (13 : Nat))] :: aw_G
abbrev rm_La_stageXc : Room := { frames := 8, cells := 1, slots := 6, locals := 132 }
set_option maxHeartbeats 4000000 in
set_option maxRecDepth 100000 in
theorem k_La_stageXc (l : Launch) (hst : l.stackTraces = false) (D : va_G) (g : Nat → ClassId) (ad : Nat → Nat) (G M : Nat → Nat × Nat) (F : Int32) (N0 : Nat) (c0 : Int32) (hc : c0 < 0 ∨ (¬ c0 < 0 ∧ ¬ c0 < nI 4)) : Met l y_La_stage ws_La_stageXc rm_La_stageXc (va_Pc ([.ref (aw_r ad 0), .int c0, .ref (aw_o ad)] : List Value) (aw_B D g ad G M F N0)) (va_Qi (fun r (_ : Unit) => r = nI 1) (fun (_ : Unit) t => aw_H D g ad G M F N0 t.heap) (aw_Z N0)) 1 6 (aw_Z N0) := by
  refine va_MetW (cc := b_La_stage) (maxL := 4) (ret := (some .int)) (hh := [((0 : Nat), (9 : Nat), (12 : Nat), (13 : Nat))]) (by decide) rfl ?_
  intro p e s m args below meth c s₁ B hml hv
  obtain ⟨rfl, ⟨L, hP, hD, hSh⟩, hU⟩ := hv
  have hx := B.exec
  have hb := B.bytes
  have hr := B.returns
  have hG : ∀ w ∈ aw_G, w.before _ s = true := fun w h => atoms_spec (ws := ws_La_stageXc) B.pre w (List.mem_cons_of_mem _ h)
  have htab : c.exceptionTable.toList = tableOf [((0 : Nat), (9 : Nat), (12 : Nat), (13 : Nat))] := vx_table (x := y_La_stage) B (atoms_spec (ws := ws_La_stageXc) B.pre _ List.mem_cons_self)
  have hown : s.vm.findClass "RuleCiphersLaw" = some m.cls := findClass_of_methodNamed B.named
  have hlocks := B.notSynchronized
  have hE := hU.1
  have hK := hE.1
  have hN := hE.2.1
  have hS : va_S (aw_Z N0) s.heap s.heap [] := va_S.rf
  have hl := lv_entry ([.ref (aw_r ad 0), .int c0, .ref (aw_o ad)] : List Value) (n := 4) (Nat.le_of_ble_eq_true rfl)
  rw [lg_entry_eq]
  generalize (lg_sl ([.ref (aw_r ad 0), .int c0, .ref (aw_o ad)] : List Value) ++ List.replicate (4 - (lg_sl ([.ref (aw_r ad 0), .int c0, .ref (aw_o ad)] : List Value)).length) Slot.unset).toArray = ls at hl ⊢
  have hl : lv_has ls 4 [(0, .ref (aw_r ad 0)), (1, .int c0), (2, .ref (aw_o ad))] := hl
  refine lv_aload_n hx hb d_La_stage_0 rfl (lv_at hl 2 rfl) ?_
  refine lv_iconst (v := nI 0) hx hb d_La_stage_1 (by decide +kernel) ?_
  refine lv_aload_n hx hb d_La_stage_2 rfl (lv_at hl 0 rfl) ?_
  refine lv_iload_n hx hb d_La_stage_3 rfl (lv_at hl 1 rfl) ?_
  have he1 := rd_R0 hSh
  refine vx_callv (vx_runV (As := [.int c0]) (rest := [.int (nI 0), .ref (aw_o ad)]) ⟨hx, hb, hml, hown, hG⟩ (k_Ru_stageXc l hst D g ad G M F N0 c0 hc) (aw_wV 1 hG gw_5_52 gw_5_49 gw_0_1 gw_5_50 gw_5_51 rfl rfl hd_Ru_stage ⟨Nat.le_of_ble_eq_true rfl, Nat.le_of_ble_eq_true rfl⟩) (aw_qV (va_recv hK hP rfl he1) hP hD hSh hU hS) rfl rfl hl.1 rfl (lv_room (Nat.le_of_ble_eq_true rfl)) d_La_stage_4 ⟨Nat.le_of_ble_eq_true rfl, Nat.le_of_ble_eq_true rfl⟩) hS (fun _ _ h => h) (fun _ h => h) (fun _ _ h => h) (fun E ce q9 u t H locs ht _ _ hBX _ _ hS hce hcv hcl => ?_) (fun u t H locs _ _ hF _ _ _ _ => hF.elim)
  obtain ⟨rfl, L, hP, hD, hSh⟩ := hBX
  rw [ht] at hP
  refine vx_catch hown [] ⟨0, 9, 12, 13⟩ [] htab aw_ps0 (by decide) (by decide) (hG _ gw_2_38) (va_Nw.use rfl (hN _ nw_2)) hce hcv hcl ?_
  refine W.eq (g2 := F0 m 12 ls [.ref q9]) rfl ?_
  refine lv_astore_n hx hb d_La_stage_12 rfl hl (by decide) rfl (fun ls hl => ?_)
  have hl : lv_has ls 4 [(3, .ref q9), (0, .ref (aw_r ad 0)), (1, .int c0), (2, .ref (aw_o ad))] := hl
  refine lv_iconst (v := nI 1) hx hb d_La_stage_13 (by decide +kernel) ?_
  exact W.iret hx hb hr (fun t ht hW => ⟨⟨_, (), rfl, rfl, aw_Hr ht hP hD hSh⟩, hS.F ht⟩) hS.2.2 d_La_stage_14
abbrev ws_La_put1 : List Cond := Cond.codeWith y_La_put b_La_put 4 (some .int) [((0 : Nat), (6 : Nat), (9 : Nat), (13 : Nat))] :: aw_G
abbrev rm_La_put1 : Room := { frames := 8, cells := 1, slots := 6, locals := 132 }
set_option maxHeartbeats 4000000 in
set_option maxRecDepth 100000 in
theorem k_La_put1 (l : Launch) (hst : l.stackTraces = false) (D : va_G) (g : Nat → ClassId) (ad : Nat → Nat) (G M : Nat → Nat × Nat) (F : Int32) (N0 : Nat) (k : Nat) (b : Int32) (hk : k < 64) : Met l y_La_put ws_La_put1 rm_La_put1 (va_Pc ([.ref (aw_r ad 0), .int (nI k), .int b] : List Value) (aw_B D g ad G M F N0)) (va_Qi (fun r (_ : Unit) => r = nI 0) (fun (_ : Unit) t => aw_H D g ad G M F N0 t.heap) (aw_Z N0)) 1 6 (aw_Z N0) := by
  refine va_MetW (cc := b_La_put) (maxL := 4) (ret := (some .int)) (hh := [((0 : Nat), (6 : Nat), (9 : Nat), (13 : Nat))]) (by decide) rfl ?_
  intro p e s m args below meth c s₁ B hml hv
  obtain ⟨rfl, ⟨L, hP, hD, hSh⟩, hU⟩ := hv
  have hx := B.exec
  have hb := B.bytes
  have hr := B.returns
  have hG : ∀ w ∈ aw_G, w.before _ s = true := fun w h => atoms_spec (ws := ws_La_put1) B.pre w (List.mem_cons_of_mem _ h)
  have htab : c.exceptionTable.toList = tableOf [((0 : Nat), (6 : Nat), (9 : Nat), (13 : Nat))] := vx_table (x := y_La_put) B (atoms_spec (ws := ws_La_put1) B.pre _ List.mem_cons_self)
  have hown : s.vm.findClass "RuleCiphersLaw" = some m.cls := findClass_of_methodNamed B.named
  have hlocks := B.notSynchronized
  have hE := hU.1
  have hK := hE.1
  have hN := hE.2.1
  have hS : va_S (aw_Z N0) s.heap s.heap [] := va_S.rf
  have hl := lv_entry ([.ref (aw_r ad 0), .int (nI k), .int b] : List Value) (n := 4) (Nat.le_of_ble_eq_true rfl)
  rw [lg_entry_eq]
  generalize (lg_sl ([.ref (aw_r ad 0), .int (nI k), .int b] : List Value) ++ List.replicate (4 - (lg_sl ([.ref (aw_r ad 0), .int (nI k), .int b] : List Value)).length) Slot.unset).toArray = ls at hl ⊢
  have hl : lv_has ls 4 [(0, .ref (aw_r ad 0)), (1, .int (nI k)), (2, .int b)] := hl
  refine lv_aload_n hx hb d_La_put_0 rfl (lv_at hl 0 rfl) ?_
  refine lv_iload_n hx hb d_La_put_1 rfl (lv_at hl 1 rfl) ?_
  refine lv_iload_n hx hb d_La_put_2 rfl (lv_at hl 2 rfl) ?_
  have he1 := rd_R0 hSh
  refine va_callv (va_runV (As := [.int (nI k), .int b]) (rest := []) ⟨hx, hb, hml, hown, hG⟩ (k_Ru_put1 l D g ad G M F N0 k b hk) (aw_wV 2 hG gw_7_29 gw_7_26 gw_0_1 gw_7_27 gw_7_28 rfl rfl hd_Ru_put ⟨Nat.le_of_ble_eq_true rfl, Nat.le_of_ble_eq_true rfl⟩) (aw_qV (va_recv hK hP rfl he1) hP hD hSh hU hS) rfl rfl hl.1 rfl (lv_room (Nat.le_of_ble_eq_true rfl)) d_La_put_3 ⟨Nat.le_of_ble_eq_true rfl, Nat.le_of_ble_eq_true rfl⟩) hS (fun _ _ h => h) (fun _ h => h) (fun u8 t8 H locs ht _ _ hB _ _ hS => ?_)
  obtain ⟨L, hP, hD, hSh⟩ := hB
  rw [ht] at hP
  clear ht
  refine lv_goto (tgt := 12) hx hb d_La_put_6 (by decide) ?_
  refine lv_iconst (v := nI 0) hx hb d_La_put_12 (by decide +kernel) ?_
  refine W.widen (k := 1) (n := 6) (Nat.le_of_ble_eq_true rfl) (Nat.le_of_ble_eq_true rfl) ?_
  exact W.iret hx hb hr (fun t ht hW => ⟨⟨_, (), rfl, rfl, aw_Hr ht hP hD hSh⟩, hS.F ht⟩) hS.2.2 d_La_put_13
abbrev ws_La_putX : List Cond := Cond.codeWith y_La_put b_La_put 4 (some .int) [((0 : Nat), (6 : Nat), (9 : Nat), (13 : Nat))] :: aw_G
abbrev rm_La_putX : Room := { frames := 8, cells := 1, slots := 6, locals := 132 }
set_option maxHeartbeats 4000000 in
set_option maxRecDepth 100000 in
theorem k_La_putX (l : Launch) (hst : l.stackTraces = false) (D : va_G) (g : Nat → ClassId) (ad : Nat → Nat) (G M : Nat → Nat × Nat) (F : Int32) (N0 : Nat) (p0 : Int32) (b : Int32) (hc : p0 < 0 ∨ (¬ p0 < 0 ∧ ¬ p0 < nI 64)) : Met l y_La_put ws_La_putX rm_La_putX (va_Pc ([.ref (aw_r ad 0), .int p0, .int b] : List Value) (aw_B D g ad G M F N0)) (va_Qi (fun r (_ : Unit) => r = nI 1) (fun (_ : Unit) t => aw_H D g ad G M F N0 t.heap) (aw_Z N0)) 1 6 (aw_Z N0) := by
  refine va_MetW (cc := b_La_put) (maxL := 4) (ret := (some .int)) (hh := [((0 : Nat), (6 : Nat), (9 : Nat), (13 : Nat))]) (by decide) rfl ?_
  intro p e s m args below meth c s₁ B hml hv
  obtain ⟨rfl, ⟨L, hP, hD, hSh⟩, hU⟩ := hv
  have hx := B.exec
  have hb := B.bytes
  have hr := B.returns
  have hG : ∀ w ∈ aw_G, w.before _ s = true := fun w h => atoms_spec (ws := ws_La_putX) B.pre w (List.mem_cons_of_mem _ h)
  have htab : c.exceptionTable.toList = tableOf [((0 : Nat), (6 : Nat), (9 : Nat), (13 : Nat))] := vx_table (x := y_La_put) B (atoms_spec (ws := ws_La_putX) B.pre _ List.mem_cons_self)
  have hown : s.vm.findClass "RuleCiphersLaw" = some m.cls := findClass_of_methodNamed B.named
  have hlocks := B.notSynchronized
  have hE := hU.1
  have hK := hE.1
  have hN := hE.2.1
  have hS : va_S (aw_Z N0) s.heap s.heap [] := va_S.rf
  have hl := lv_entry ([.ref (aw_r ad 0), .int p0, .int b] : List Value) (n := 4) (Nat.le_of_ble_eq_true rfl)
  rw [lg_entry_eq]
  generalize (lg_sl ([.ref (aw_r ad 0), .int p0, .int b] : List Value) ++ List.replicate (4 - (lg_sl ([.ref (aw_r ad 0), .int p0, .int b] : List Value)).length) Slot.unset).toArray = ls at hl ⊢
  have hl : lv_has ls 4 [(0, .ref (aw_r ad 0)), (1, .int p0), (2, .int b)] := hl
  refine lv_aload_n hx hb d_La_put_0 rfl (lv_at hl 0 rfl) ?_
  refine lv_iload_n hx hb d_La_put_1 rfl (lv_at hl 1 rfl) ?_
  refine lv_iload_n hx hb d_La_put_2 rfl (lv_at hl 2 rfl) ?_
  have he1 := rd_R0 hSh
  refine vx_callv (vx_runV (As := [.int p0, .int b]) (rest := []) ⟨hx, hb, hml, hown, hG⟩ (k_Ru_putX l hst D g ad G M F N0 p0 b hc) (aw_wV 2 hG gw_7_29 gw_7_26 gw_0_1 gw_7_27 gw_7_28 rfl rfl hd_Ru_put ⟨Nat.le_of_ble_eq_true rfl, Nat.le_of_ble_eq_true rfl⟩) (aw_qV (va_recv hK hP rfl he1) hP hD hSh hU hS) rfl rfl hl.1 rfl (lv_room (Nat.le_of_ble_eq_true rfl)) d_La_put_3 ⟨Nat.le_of_ble_eq_true rfl, Nat.le_of_ble_eq_true rfl⟩) hS (fun _ _ h => h) (fun _ h => h) (fun _ _ h => h) (fun E ce q9 u t H locs ht _ _ hBX _ _ hS hce hcv hcl => ?_) (fun u t H locs _ _ hF _ _ _ _ => hF.elim)
  obtain ⟨rfl, L, hP, hD, hSh⟩ := hBX
  rw [ht] at hP
  refine vx_catch hown [] ⟨0, 6, 9, 13⟩ [] htab aw_ps0 (by decide) (by decide) (hG _ gw_2_38) (va_Nw.use rfl (hN _ nw_2)) hce hcv hcl ?_
  refine W.eq (g2 := F0 m 9 ls [.ref q9]) rfl ?_
  refine lv_astore_n hx hb d_La_put_9 rfl hl (by decide) rfl (fun ls hl => ?_)
  have hl : lv_has ls 4 [(3, .ref q9), (0, .ref (aw_r ad 0)), (1, .int p0), (2, .int b)] := hl
  refine lv_iconst (v := nI 1) hx hb d_La_put_10 (by decide +kernel) ?_
  exact W.iret hx hb hr (fun t ht hW => ⟨⟨_, (), rfl, rfl, aw_Hr ht hP hD hSh⟩, hS.F ht⟩) hS.2.2 d_La_put_11
abbrev ws_La_seek1 : List Cond := Cond.codeWith y_La_seek b_La_seek 5 (some .int) [((0 : Nat), (6 : Nat), (9 : Nat), (13 : Nat)), ((0 : Nat), (6 : Nat), (13 : Nat), (17 : Nat))] :: aw_G
abbrev rm_La_seek1 : Room := { frames := 8, cells := 1, slots := 6, locals := 135 }
set_option maxHeartbeats 4000000 in
set_option maxRecDepth 100000 in
theorem k_La_seek1 (l : Launch) (hst : l.stackTraces = false) (D : va_G) (g : Nat → ClassId) (ad : Nat → Nat) (G M : Nat → Nat × Nat) (F : Int32) (N0 : Nat) (j : Nat) (b : Int64) (hj : j < 4) (hs : (G j).1 = 3 ∧ (G j).2 = 4) : Met l y_La_seek ws_La_seek1 rm_La_seek1 (va_Pc ([.ref (aw_r ad 0), .int (nI j), .long b] : List Value) (aw_B D g ad G M F N0)) (va_Qi (fun r (_ : Unit) => r = nI 0) (fun (_ : Unit) t => aw_H D g ad G M F N0 t.heap) (aw_Z N0)) 1 6 (aw_Z N0) := by
  refine va_MetW (cc := b_La_seek) (maxL := 5) (ret := (some .int)) (hh := [((0 : Nat), (6 : Nat), (9 : Nat), (13 : Nat)), ((0 : Nat), (6 : Nat), (13 : Nat), (17 : Nat))]) (by decide) rfl ?_
  intro p e s m args below meth c s₁ B hml hv
  obtain ⟨rfl, ⟨L, hP, hD, hSh⟩, hU⟩ := hv
  have hx := B.exec
  have hb := B.bytes
  have hr := B.returns
  have hG : ∀ w ∈ aw_G, w.before _ s = true := fun w h => atoms_spec (ws := ws_La_seek1) B.pre w (List.mem_cons_of_mem _ h)
  have htab : c.exceptionTable.toList = tableOf [((0 : Nat), (6 : Nat), (9 : Nat), (13 : Nat)), ((0 : Nat), (6 : Nat), (13 : Nat), (17 : Nat))] := vx_table (x := y_La_seek) B (atoms_spec (ws := ws_La_seek1) B.pre _ List.mem_cons_self)
  have hown : s.vm.findClass "RuleCiphersLaw" = some m.cls := findClass_of_methodNamed B.named
  have hlocks := B.notSynchronized
  have hE := hU.1
  have hK := hE.1
  have hN := hE.2.1
  have hS : va_S (aw_Z N0) s.heap s.heap [] := va_S.rf
  have hl := lv_entry ([.ref (aw_r ad 0), .int (nI j), .long b] : List Value) (n := 5) (Nat.le_of_ble_eq_true rfl)
  rw [lg_entry_eq]
  generalize (lg_sl ([.ref (aw_r ad 0), .int (nI j), .long b] : List Value) ++ List.replicate (5 - (lg_sl ([.ref (aw_r ad 0), .int (nI j), .long b] : List Value)).length) Slot.unset).toArray = ls at hl ⊢
  have hl : lv_has ls 5 [(0, .ref (aw_r ad 0)), (1, .int (nI j)), (2, .long b)] := hl
  refine lv_aload_n hx hb d_La_seek_0 rfl (lv_at hl 0 rfl) ?_
  refine lv_iload_n hx hb d_La_seek_1 rfl (lv_at hl 1 rfl) ?_
  refine lv_lload_n hx hb d_La_seek_2 rfl (lv_at hl 2 rfl) ?_
  have he1 := rd_R0 hSh
  refine va_callv (va_runV (As := [.int (nI j), .long b]) (rest := []) ⟨hx, hb, hml, hown, hG⟩ (k_Ru_seek1 l D g ad G M F N0 j b hj hs) (aw_wV 2 hG gw_8_30 gw_8_27 gw_0_1 gw_8_28 gw_8_29 rfl rfl hd_Ru_seek ⟨Nat.le_of_ble_eq_true rfl, Nat.le_of_ble_eq_true rfl⟩) (aw_qV (va_recv hK hP rfl he1) hP hD hSh hU hS) rfl rfl hl.1 rfl (lv_room (Nat.le_of_ble_eq_true rfl)) d_La_seek_3 ⟨Nat.le_of_ble_eq_true rfl, Nat.le_of_ble_eq_true rfl⟩) hS (fun _ _ h => h) (fun _ h => h) (fun u8 t8 H locs ht _ _ hB _ _ hS => ?_)
  obtain ⟨L, hP, hD, hSh⟩ := hB
  rw [ht] at hP
  clear ht
  refine lv_goto (tgt := 17) hx hb d_La_seek_6 (by decide) ?_
  refine lv_iconst (v := nI 0) hx hb d_La_seek_17 (by decide +kernel) ?_
  refine W.widen (k := 1) (n := 6) (Nat.le_of_ble_eq_true rfl) (Nat.le_of_ble_eq_true rfl) ?_
  exact W.iret hx hb hr (fun t ht hW => ⟨⟨_, (), rfl, rfl, aw_Hr ht hP hD hSh⟩, hS.F ht⟩) hS.2.2 d_La_seek_18
abbrev ws_La_seekXc : List Cond := Cond.codeWith y_La_seek b_La_seek 5 (some .int) [((0 : Nat), (6 : Nat), (9 : Nat), (13 : Nat)), ((0 : Nat), (6 : Nat), (13 : Nat), (17 : Nat))] :: aw_G
abbrev rm_La_seekXc : Room := { frames := 8, cells := 1, slots := 6, locals := 135 }
set_option maxHeartbeats 4000000 in
set_option maxRecDepth 100000 in
theorem k_La_seekXc (l : Launch) (hst : l.stackTraces = false) (D : va_G) (g : Nat → ClassId) (ad : Nat → Nat) (G M : Nat → Nat × Nat) (F : Int32) (N0 : Nat) (c0 : Int32) (b : Int64) (hc : c0 < 0 ∨ (¬ c0 < 0 ∧ ¬ c0 < nI 4)) : Met l y_La_seek ws_La_seekXc rm_La_seekXc (va_Pc ([.ref (aw_r ad 0), .int c0, .long b] : List Value) (aw_B D g ad G M F N0)) (va_Qi (fun r (_ : Unit) => r = nI 1) (fun (_ : Unit) t => aw_H D g ad G M F N0 t.heap) (aw_Z N0)) 1 6 (aw_Z N0) := by
  refine va_MetW (cc := b_La_seek) (maxL := 5) (ret := (some .int)) (hh := [((0 : Nat), (6 : Nat), (9 : Nat), (13 : Nat)), ((0 : Nat), (6 : Nat), (13 : Nat), (17 : Nat))]) (by decide) rfl ?_
  intro p e s m args below meth c s₁ B hml hv
  obtain ⟨rfl, ⟨L, hP, hD, hSh⟩, hU⟩ := hv
  have hx := B.exec
  have hb := B.bytes
  have hr := B.returns
  have hG : ∀ w ∈ aw_G, w.before _ s = true := fun w h => atoms_spec (ws := ws_La_seekXc) B.pre w (List.mem_cons_of_mem _ h)
  have htab : c.exceptionTable.toList = tableOf [((0 : Nat), (6 : Nat), (9 : Nat), (13 : Nat)), ((0 : Nat), (6 : Nat), (13 : Nat), (17 : Nat))] := vx_table (x := y_La_seek) B (atoms_spec (ws := ws_La_seekXc) B.pre _ List.mem_cons_self)
  have hown : s.vm.findClass "RuleCiphersLaw" = some m.cls := findClass_of_methodNamed B.named
  have hlocks := B.notSynchronized
  have hE := hU.1
  have hK := hE.1
  have hN := hE.2.1
  have hS : va_S (aw_Z N0) s.heap s.heap [] := va_S.rf
  have hl := lv_entry ([.ref (aw_r ad 0), .int c0, .long b] : List Value) (n := 5) (Nat.le_of_ble_eq_true rfl)
  rw [lg_entry_eq]
  generalize (lg_sl ([.ref (aw_r ad 0), .int c0, .long b] : List Value) ++ List.replicate (5 - (lg_sl ([.ref (aw_r ad 0), .int c0, .long b] : List Value)).length) Slot.unset).toArray = ls at hl ⊢
  have hl : lv_has ls 5 [(0, .ref (aw_r ad 0)), (1, .int c0), (2, .long b)] := hl
  refine lv_aload_n hx hb d_La_seek_0 rfl (lv_at hl 0 rfl) ?_
  refine lv_iload_n hx hb d_La_seek_1 rfl (lv_at hl 1 rfl) ?_
  refine lv_lload_n hx hb d_La_seek_2 rfl (lv_at hl 2 rfl) ?_
  have he1 := rd_R0 hSh
  refine vx_callv (vx_runV (As := [.int c0, .long b]) (rest := []) ⟨hx, hb, hml, hown, hG⟩ (k_Ru_seekXc l hst D g ad G M F N0 c0 b hc) (aw_wV 2 hG gw_8_30 gw_8_27 gw_0_1 gw_8_28 gw_8_29 rfl rfl hd_Ru_seek ⟨Nat.le_of_ble_eq_true rfl, Nat.le_of_ble_eq_true rfl⟩) (aw_qV (va_recv hK hP rfl he1) hP hD hSh hU hS) rfl rfl hl.1 rfl (lv_room (Nat.le_of_ble_eq_true rfl)) d_La_seek_3 ⟨Nat.le_of_ble_eq_true rfl, Nat.le_of_ble_eq_true rfl⟩) hS (fun _ _ h => h) (fun _ h => h) (fun _ _ h => h) (fun E ce q9 u t H locs ht _ _ hBX _ _ hS hce hcv hcl => ?_) (fun u t H locs _ _ hF _ _ _ _ => hF.elim)
  obtain ⟨rfl, L, hP, hD, hSh⟩ := hBX
  rw [ht] at hP
  refine vx_catch hown [] ⟨0, 6, 9, 13⟩ [⟨0, 6, 13, 17⟩] htab aw_ps0 (by decide) (by decide) (hG _ gw_2_38) (va_Nw.use rfl (hN _ nw_2)) hce hcv hcl ?_
  refine W.eq (g2 := F0 m 9 ls [.ref q9]) rfl ?_
  refine lv_astore hx hb d_La_seek_9 hl (by decide) rfl (fun ls hl => ?_)
  have hl : lv_has ls 5 [(4, .ref q9), (0, .ref (aw_r ad 0)), (1, .int c0), (2, .long b)] := hl
  refine lv_iconst (v := nI 1) hx hb d_La_seek_11 (by decide +kernel) ?_
  exact W.iret hx hb hr (fun t ht hW => ⟨⟨_, (), rfl, rfl, aw_Hr ht hP hD hSh⟩, hS.F ht⟩) hS.2.2 d_La_seek_12
abbrev ws_La_seekXs : List Cond := Cond.codeWith y_La_seek b_La_seek 5 (some .int) [((0 : Nat), (6 : Nat), (9 : Nat), (13 : Nat)), ((0 : Nat), (6 : Nat), (13 : Nat), (17 : Nat))] :: aw_G
abbrev rm_La_seekXs : Room := { frames := 8, cells := 1, slots := 6, locals := 135 }
set_option maxHeartbeats 4000000 in
set_option maxRecDepth 100000 in
theorem k_La_seekXs (l : Launch) (hst : l.stackTraces = false) (D : va_G) (g : Nat → ClassId) (ad : Nat → Nat) (G M : Nat → Nat × Nat) (F : Int32) (N0 : Nat) (j : Nat) (b : Int64) (hj : j < 4) (hs : (G j).1 ≤ 2 ∨ ((G j).1 = 3 ∧ (G j).2 ≠ 4)) : Met l y_La_seek ws_La_seekXs rm_La_seekXs (va_Pc ([.ref (aw_r ad 0), .int (nI j), .long b] : List Value) (aw_B D g ad G M F N0)) (va_Qi (fun r (_ : Unit) => r = nI 2) (fun (_ : Unit) t => aw_H D g ad G M F N0 t.heap) (aw_Z N0)) 1 6 (aw_Z N0) := by
  refine va_MetW (cc := b_La_seek) (maxL := 5) (ret := (some .int)) (hh := [((0 : Nat), (6 : Nat), (9 : Nat), (13 : Nat)), ((0 : Nat), (6 : Nat), (13 : Nat), (17 : Nat))]) (by decide) rfl ?_
  intro p e s m args below meth c s₁ B hml hv
  obtain ⟨rfl, ⟨L, hP, hD, hSh⟩, hU⟩ := hv
  have hx := B.exec
  have hb := B.bytes
  have hr := B.returns
  have hG : ∀ w ∈ aw_G, w.before _ s = true := fun w h => atoms_spec (ws := ws_La_seekXs) B.pre w (List.mem_cons_of_mem _ h)
  have htab : c.exceptionTable.toList = tableOf [((0 : Nat), (6 : Nat), (9 : Nat), (13 : Nat)), ((0 : Nat), (6 : Nat), (13 : Nat), (17 : Nat))] := vx_table (x := y_La_seek) B (atoms_spec (ws := ws_La_seekXs) B.pre _ List.mem_cons_self)
  have hown : s.vm.findClass "RuleCiphersLaw" = some m.cls := findClass_of_methodNamed B.named
  have hlocks := B.notSynchronized
  have hE := hU.1
  have hK := hE.1
  have hN := hE.2.1
  have hS : va_S (aw_Z N0) s.heap s.heap [] := va_S.rf
  have hl := lv_entry ([.ref (aw_r ad 0), .int (nI j), .long b] : List Value) (n := 5) (Nat.le_of_ble_eq_true rfl)
  rw [lg_entry_eq]
  generalize (lg_sl ([.ref (aw_r ad 0), .int (nI j), .long b] : List Value) ++ List.replicate (5 - (lg_sl ([.ref (aw_r ad 0), .int (nI j), .long b] : List Value)).length) Slot.unset).toArray = ls at hl ⊢
  have hl : lv_has ls 5 [(0, .ref (aw_r ad 0)), (1, .int (nI j)), (2, .long b)] := hl
  refine lv_aload_n hx hb d_La_seek_0 rfl (lv_at hl 0 rfl) ?_
  refine lv_iload_n hx hb d_La_seek_1 rfl (lv_at hl 1 rfl) ?_
  refine lv_lload_n hx hb d_La_seek_2 rfl (lv_at hl 2 rfl) ?_
  have he1 := rd_R0 hSh
  refine vx_callv (vx_runV (As := [.int (nI j), .long b]) (rest := []) ⟨hx, hb, hml, hown, hG⟩ (k_Ru_seekXs l hst D g ad G M F N0 j b hj hs) (aw_wV 2 hG gw_8_30 gw_8_27 gw_0_1 gw_8_28 gw_8_29 rfl rfl hd_Ru_seek ⟨Nat.le_of_ble_eq_true rfl, Nat.le_of_ble_eq_true rfl⟩) (aw_qV (va_recv hK hP rfl he1) hP hD hSh hU hS) rfl rfl hl.1 rfl (lv_room (Nat.le_of_ble_eq_true rfl)) d_La_seek_3 ⟨Nat.le_of_ble_eq_true rfl, Nat.le_of_ble_eq_true rfl⟩) hS (fun _ _ h => h) (fun _ h => h) (fun _ _ h => h) (fun E ce q9 u t H locs ht _ _ hBX _ _ hS hce hcv hcl => ?_) (fun u t H locs _ _ hF _ _ _ _ => hF.elim)
  obtain ⟨rfl, L, hP, hD, hSh⟩ := hBX
  rw [ht] at hP
  refine vx_catch hown [⟨0, 6, 9, 13⟩] ⟨0, 6, 13, 17⟩ [] htab (aw_psc (Or.inr ⟨by decide, "java/lang/IndexOutOfBoundsException", hG _ gw_2_38, aw_nc_S_I hE⟩) aw_ps0) (by decide) (by decide) (hG _ gw_2_40) (va_Nw.use rfl (hN _ nw_10)) hce hcv hcl ?_
  refine W.eq (g2 := F0 m 13 ls [.ref q9]) rfl ?_
  refine lv_astore hx hb d_La_seek_13 hl (by decide) rfl (fun ls hl => ?_)
  have hl : lv_has ls 5 [(4, .ref q9), (0, .ref (aw_r ad 0)), (1, .int (nI j)), (2, .long b)] := hl
  refine lv_iconst (v := nI 2) hx hb d_La_seek_15 (by decide +kernel) ?_
  exact W.iret hx hb hr (fun t ht hW => ⟨⟨_, (), rfl, rfl, aw_Hr ht hP hD hSh⟩, hS.F ht⟩) hS.2.2 d_La_seek_16
