abbrev ws_La_block1 : List Cond := Cond.codeWith y_La_block b_La_block 7 (some .int) [((0 : Nat), (11 : Nat), (14 : Nat), (13 : Nat)), ((0 : Nat), (11 : Nat), (18 : Nat), (17 : Nat))] :: aw_G
abbrev rm_La_block1 : Room := { frames := 8, cells := 1, slots := 6, locals := 136 }
set_option maxHeartbeats 4000000 in
set_option maxRecDepth 100000 in
theorem k_La_block1 (l : Launch) (hst : l.stackTraces = false) (D : va_G) (g : Nat → ClassId) (ad : Nat → Nat) (G M : Nat → Nat × Nat) (F : Int32) (N0 : Nat) (j : Nat) (bk : Int32) (b : Int64) (hj : j < 4) (hs : 2 ≤ (G j).1) : Met l y_La_block ws_La_block1 rm_La_block1 (va_Pc ([.ref (aw_r ad 0), .int (nI j), .int bk, .long b, .ref (aw_o ad)] : List Value) (aw_B D g ad G M F N0)) (va_Qi (fun r (_ : Unit) => True) (fun (_ : Unit) t => aw_H D g ad G M F N0 t.heap) (aw_Z N0)) 1 6 (aw_Z N0) := by
  refine va_MetW (cc := b_La_block) (maxL := 7) (ret := (some .int)) (hh := [((0 : Nat), (11 : Nat), (14 : Nat), (13 : Nat)), ((0 : Nat), (11 : Nat), (18 : Nat), (17 : Nat))]) (by decide) rfl ?_
  intro p e s m args below meth c s₁ B hml hv
  obtain ⟨rfl, ⟨L, hP, hD, hSh⟩, hU⟩ := hv
  have hx := B.exec
  have hb := B.bytes
  have hr := B.returns
  have hG : ∀ w ∈ aw_G, w.before _ s = true := fun w h => atoms_spec (ws := ws_La_block1) B.pre w (List.mem_cons_of_mem _ h)
  have htab : c.exceptionTable.toList = tableOf [((0 : Nat), (11 : Nat), (14 : Nat), (13 : Nat)), ((0 : Nat), (11 : Nat), (18 : Nat), (17 : Nat))] := vx_table (x := y_La_block) B (atoms_spec (ws := ws_La_block1) B.pre _ List.mem_cons_self)
  have hown : s.vm.findClass "RuleCiphersLaw" = some m.cls := findClass_of_methodNamed B.named
  have hlocks := B.notSynchronized
  have hE := hU.1
  have hK := hE.1
  have hN := hE.2.1
  have hS : va_S (aw_Z N0) s.heap s.heap [] := va_S.rf
  have hl := lv_entry ([.ref (aw_r ad 0), .int (nI j), .int bk, .long b, .ref (aw_o ad)] : List Value) (n := 7) (Nat.le_of_ble_eq_true rfl)
  rw [lg_entry_eq]
  generalize (lg_sl ([.ref (aw_r ad 0), .int (nI j), .int bk, .long b, .ref (aw_o ad)] : List Value) ++ List.replicate (7 - (lg_sl ([.ref (aw_r ad 0), .int (nI j), .int bk, .long b, .ref (aw_o ad)] : List Value)).length) Slot.unset).toArray = ls at hl ⊢
  have hl : lv_has ls 7 [(0, .ref (aw_r ad 0)), (1, .int (nI j)), (2, .int bk), (3, .long b), (5, .ref (aw_o ad))] := hl
  refine lv_aload hx hb d_La_block_0 (lv_at hl 4 rfl) ?_
  refine lv_iconst (v := nI 0) hx hb d_La_block_2 (by decide +kernel) ?_
  refine lv_aload_n hx hb d_La_block_3 rfl (lv_at hl 0 rfl) ?_
  refine lv_iload_n hx hb d_La_block_4 rfl (lv_at hl 1 rfl) ?_
  refine lv_iload_n hx hb d_La_block_5 rfl (lv_at hl 2 rfl) ?_
  refine lv_lload_n hx hb d_La_block_6 rfl (lv_at hl 3 rfl) ?_
  have he1 := rd_R0 hSh
  refine va_calll (va_runV (As := [.int (nI j), .int bk, .long b]) (rest := [.int (nI 0), .ref (aw_o ad)]) ⟨hx, hb, hml, hown, hG⟩ (k_Ru_block1 l D g ad G M F N0 j bk b hj hs) (aw_wV 3 hG gw_5_59 gw_5_56 gw_0_1 gw_5_57 gw_5_58 rfl rfl hd_Ru_block ⟨Nat.le_of_ble_eq_true rfl, Nat.le_of_ble_eq_true rfl⟩) (aw_qV (va_recv hK hP rfl he1) hP hD hSh hU hS) rfl rfl hl.1 rfl (lv_room (Nat.le_of_ble_eq_true rfl)) d_La_block_7 ⟨Nat.le_of_ble_eq_true rfl, Nat.le_of_ble_eq_true rfl⟩) hS (fun _ _ h => h) (fun _ h => h) (fun y2 u8 t8 H locs ht _ _ hB _ _ hS => ?_)
  obtain ⟨L, hP, hD, hSh⟩ := hB
  rw [ht] at hP
  clear ht
  obtain ⟨f4, he3⟩ := rd_O0 hSh
  refine aw_lstI hx hb hK hP hD hS 84 1 he3 rfl (k := 0) (by omega) (by decide) d_La_block_10 (wr_O0 hSh _) (fun H locs L hP hD hSh hS => ?_)
  refine lv_goto (tgt := 22) hx hb d_La_block_11 (by decide) ?_
  refine lv_iconst (v := nI 0) hx hb d_La_block_22 (by decide +kernel) ?_
  refine W.widen (k := 1) (n := 6) (Nat.le_of_ble_eq_true rfl) (Nat.le_of_ble_eq_true rfl) ?_
  exact W.iret hx hb hr (fun t ht hW => ⟨⟨_, (), rfl, trivial, aw_Hr ht hP hD hSh⟩, hS.F ht⟩) hS.2.2 d_La_block_23
abbrev ws_La_blockXc : List Cond := Cond.codeWith y_La_block b_La_block 7 (some .int) [((0 : Nat), (11 : Nat), (14 : Nat), (13 : Nat)), ((0 : Nat), (11 : Nat), (18 : Nat), (17 : Nat))] :: aw_G
abbrev rm_La_blockXc : Room := { frames := 8, cells := 1, slots := 6, locals := 136 }
set_option maxHeartbeats 4000000 in
set_option maxRecDepth 100000 in
theorem k_La_blockXc (l : Launch) (hst : l.stackTraces = false) (D : va_G) (g : Nat → ClassId) (ad : Nat → Nat) (G M : Nat → Nat × Nat) (F : Int32) (N0 : Nat) (c0 : Int32) (bk : Int32) (b : Int64) (hc : c0 < 0 ∨ (¬ c0 < 0 ∧ ¬ c0 < nI 4)) : Met l y_La_block ws_La_blockXc rm_La_blockXc (va_Pc ([.ref (aw_r ad 0), .int c0, .int bk, .long b, .ref (aw_o ad)] : List Value) (aw_B D g ad G M F N0)) (va_Qi (fun r (_ : Unit) => True) (fun (_ : Unit) t => aw_H D g ad G M F N0 t.heap) (aw_Z N0)) 1 6 (aw_Z N0) := by
  refine va_MetW (cc := b_La_block) (maxL := 7) (ret := (some .int)) (hh := [((0 : Nat), (11 : Nat), (14 : Nat), (13 : Nat)), ((0 : Nat), (11 : Nat), (18 : Nat), (17 : Nat))]) (by decide) rfl ?_
  intro p e s m args below meth c s₁ B hml hv
  obtain ⟨rfl, ⟨L, hP, hD, hSh⟩, hU⟩ := hv
  have hx := B.exec
  have hb := B.bytes
  have hr := B.returns
  have hG : ∀ w ∈ aw_G, w.before _ s = true := fun w h => atoms_spec (ws := ws_La_blockXc) B.pre w (List.mem_cons_of_mem _ h)
  have htab : c.exceptionTable.toList = tableOf [((0 : Nat), (11 : Nat), (14 : Nat), (13 : Nat)), ((0 : Nat), (11 : Nat), (18 : Nat), (17 : Nat))] := vx_table (x := y_La_block) B (atoms_spec (ws := ws_La_blockXc) B.pre _ List.mem_cons_self)
  have hown : s.vm.findClass "RuleCiphersLaw" = some m.cls := findClass_of_methodNamed B.named
  have hlocks := B.notSynchronized
  have hE := hU.1
  have hK := hE.1
  have hN := hE.2.1
  have hS : va_S (aw_Z N0) s.heap s.heap [] := va_S.rf
  have hl := lv_entry ([.ref (aw_r ad 0), .int c0, .int bk, .long b, .ref (aw_o ad)] : List Value) (n := 7) (Nat.le_of_ble_eq_true rfl)
  rw [lg_entry_eq]
  generalize (lg_sl ([.ref (aw_r ad 0), .int c0, .int bk, .long b, .ref (aw_o ad)] : List Value) ++ List.replicate (7 - (lg_sl ([.ref (aw_r ad 0), .int c0, .int bk, .long b, .ref (aw_o ad)] : List Value)).length) Slot.unset).toArray = ls at hl ⊢
  have hl : lv_has ls 7 [(0, .ref (aw_r ad 0)), (1, .int c0), (2, .int bk), (3, .long b), (5, .ref (aw_o ad))] := hl
  refine lv_aload hx hb d_La_block_0 (lv_at hl 4 rfl) ?_
  refine lv_iconst (v := nI 0) hx hb d_La_block_2 (by decide +kernel) ?_
  refine lv_aload_n hx hb d_La_block_3 rfl (lv_at hl 0 rfl) ?_
  refine lv_iload_n hx hb d_La_block_4 rfl (lv_at hl 1 rfl) ?_
  refine lv_iload_n hx hb d_La_block_5 rfl (lv_at hl 2 rfl) ?_
  refine lv_lload_n hx hb d_La_block_6 rfl (lv_at hl 3 rfl) ?_
  have he1 := rd_R0 hSh
  refine vx_callv (vx_runV (As := [.int c0, .int bk, .long b]) (rest := [.int (nI 0), .ref (aw_o ad)]) ⟨hx, hb, hml, hown, hG⟩ (k_Ru_blockXc l hst D g ad G M F N0 c0 bk b hc) (aw_wV 3 hG gw_5_59 gw_5_56 gw_0_1 gw_5_57 gw_5_58 rfl rfl hd_Ru_block ⟨Nat.le_of_ble_eq_true rfl, Nat.le_of_ble_eq_true rfl⟩) (aw_qV (va_recv hK hP rfl he1) hP hD hSh hU hS) rfl rfl hl.1 rfl (lv_room (Nat.le_of_ble_eq_true rfl)) d_La_block_7 ⟨Nat.le_of_ble_eq_true rfl, Nat.le_of_ble_eq_true rfl⟩) hS (fun _ _ h => h) (fun _ h => h) (fun _ _ h => h) (fun E ce q9 u t H locs ht _ _ hBX _ _ hS hce hcv hcl => ?_) (fun u t H locs _ _ hF _ _ _ _ => hF.elim)
  obtain ⟨rfl, L, hP, hD, hSh⟩ := hBX
  rw [ht] at hP
  refine vx_catch hown [] ⟨0, 11, 14, 13⟩ [⟨0, 11, 18, 17⟩] htab aw_ps0 (by decide) (by decide) (hG _ gw_2_38) (va_Nw.use rfl (hN _ nw_2)) hce hcv hcl ?_
  refine W.eq (g2 := F0 m 14 ls [.ref q9]) rfl ?_
  refine lv_astore hx hb d_La_block_14 hl (by decide) rfl (fun ls hl => ?_)
  have hl : lv_has ls 7 [(6, .ref q9), (0, .ref (aw_r ad 0)), (1, .int c0), (2, .int bk), (3, .long b), (5, .ref (aw_o ad))] := hl
  refine lv_iconst (v := nI 1) hx hb d_La_block_16 (by decide +kernel) ?_
  exact W.iret hx hb hr (fun t ht hW => ⟨⟨_, (), rfl, trivial, aw_Hr ht hP hD hSh⟩, hS.F ht⟩) hS.2.2 d_La_block_17
abbrev ws_La_blockXs : List Cond := Cond.codeWith y_La_block b_La_block 7 (some .int) [((0 : Nat), (11 : Nat), (14 : Nat), (13 : Nat)), ((0 : Nat), (11 : Nat), (18 : Nat), (17 : Nat))] :: aw_G
abbrev rm_La_blockXs : Room := { frames := 8, cells := 1, slots := 6, locals := 136 }
set_option maxHeartbeats 4000000 in
set_option maxRecDepth 100000 in
theorem k_La_blockXs (l : Launch) (hst : l.stackTraces = false) (D : va_G) (g : Nat → ClassId) (ad : Nat → Nat) (G M : Nat → Nat × Nat) (F : Int32) (N0 : Nat) (j : Nat) (bk : Int32) (b : Int64) (hj : j < 4) (hs : (G j).1 ≤ 1) : Met l y_La_block ws_La_blockXs rm_La_blockXs (va_Pc ([.ref (aw_r ad 0), .int (nI j), .int bk, .long b, .ref (aw_o ad)] : List Value) (aw_B D g ad G M F N0)) (va_Qi (fun r (_ : Unit) => True) (fun (_ : Unit) t => aw_H D g ad G M F N0 t.heap) (aw_Z N0)) 1 6 (aw_Z N0) := by
  refine va_MetW (cc := b_La_block) (maxL := 7) (ret := (some .int)) (hh := [((0 : Nat), (11 : Nat), (14 : Nat), (13 : Nat)), ((0 : Nat), (11 : Nat), (18 : Nat), (17 : Nat))]) (by decide) rfl ?_
  intro p e s m args below meth c s₁ B hml hv
  obtain ⟨rfl, ⟨L, hP, hD, hSh⟩, hU⟩ := hv
  have hx := B.exec
  have hb := B.bytes
  have hr := B.returns
  have hG : ∀ w ∈ aw_G, w.before _ s = true := fun w h => atoms_spec (ws := ws_La_blockXs) B.pre w (List.mem_cons_of_mem _ h)
  have htab : c.exceptionTable.toList = tableOf [((0 : Nat), (11 : Nat), (14 : Nat), (13 : Nat)), ((0 : Nat), (11 : Nat), (18 : Nat), (17 : Nat))] := vx_table (x := y_La_block) B (atoms_spec (ws := ws_La_blockXs) B.pre _ List.mem_cons_self)
  have hown : s.vm.findClass "RuleCiphersLaw" = some m.cls := findClass_of_methodNamed B.named
  have hlocks := B.notSynchronized
  have hE := hU.1
  have hK := hE.1
  have hN := hE.2.1
  have hS : va_S (aw_Z N0) s.heap s.heap [] := va_S.rf
  have hl := lv_entry ([.ref (aw_r ad 0), .int (nI j), .int bk, .long b, .ref (aw_o ad)] : List Value) (n := 7) (Nat.le_of_ble_eq_true rfl)
  rw [lg_entry_eq]
  generalize (lg_sl ([.ref (aw_r ad 0), .int (nI j), .int bk, .long b, .ref (aw_o ad)] : List Value) ++ List.replicate (7 - (lg_sl ([.ref (aw_r ad 0), .int (nI j), .int bk, .long b, .ref (aw_o ad)] : List Value)).length) Slot.unset).toArray = ls at hl ⊢
  have hl : lv_has ls 7 [(0, .ref (aw_r ad 0)), (1, .int (nI j)), (2, .int bk), (3, .long b), (5, .ref (aw_o ad))] := hl
  refine lv_aload hx hb d_La_block_0 (lv_at hl 4 rfl) ?_
  refine lv_iconst (v := nI 0) hx hb d_La_block_2 (by decide +kernel) ?_
  refine lv_aload_n hx hb d_La_block_3 rfl (lv_at hl 0 rfl) ?_
  refine lv_iload_n hx hb d_La_block_4 rfl (lv_at hl 1 rfl) ?_
  refine lv_iload_n hx hb d_La_block_5 rfl (lv_at hl 2 rfl) ?_
  refine lv_lload_n hx hb d_La_block_6 rfl (lv_at hl 3 rfl) ?_
  have he1 := rd_R0 hSh
  refine vx_callv (vx_runV (As := [.int (nI j), .int bk, .long b]) (rest := [.int (nI 0), .ref (aw_o ad)]) ⟨hx, hb, hml, hown, hG⟩ (k_Ru_blockXs l hst D g ad G M F N0 j bk b hj hs) (aw_wV 3 hG gw_5_59 gw_5_56 gw_0_1 gw_5_57 gw_5_58 rfl rfl hd_Ru_block ⟨Nat.le_of_ble_eq_true rfl, Nat.le_of_ble_eq_true rfl⟩) (aw_qV (va_recv hK hP rfl he1) hP hD hSh hU hS) rfl rfl hl.1 rfl (lv_room (Nat.le_of_ble_eq_true rfl)) d_La_block_7 ⟨Nat.le_of_ble_eq_true rfl, Nat.le_of_ble_eq_true rfl⟩) hS (fun _ _ h => h) (fun _ h => h) (fun _ _ h => h) (fun E ce q9 u t H locs ht _ _ hBX _ _ hS hce hcv hcl => ?_) (fun u t H locs _ _ hF _ _ _ _ => hF.elim)
  obtain ⟨rfl, L, hP, hD, hSh⟩ := hBX
  rw [ht] at hP
  refine vx_catch hown [⟨0, 11, 14, 13⟩] ⟨0, 11, 18, 17⟩ [] htab (aw_psc (Or.inr ⟨by decide, "java/lang/IndexOutOfBoundsException", hG _ gw_2_38, aw_nc_S_I hE⟩) aw_ps0) (by decide) (by decide) (hG _ gw_2_40) (va_Nw.use rfl (hN _ nw_10)) hce hcv hcl ?_
  refine W.eq (g2 := F0 m 18 ls [.ref q9]) rfl ?_
  refine lv_astore hx hb d_La_block_18 hl (by decide) rfl (fun ls hl => ?_)
  have hl : lv_has ls 7 [(6, .ref q9), (0, .ref (aw_r ad 0)), (1, .int (nI j)), (2, .int bk), (3, .long b), (5, .ref (aw_o ad))] := hl
  refine lv_iconst (v := nI 2) hx hb d_La_block_20 (by decide +kernel) ?_
  exact W.iret hx hb hr (fun t ht hW => ⟨⟨_, (), rfl, trivial, aw_Hr ht hP hD hSh⟩, hS.F ht⟩) hS.2.2 d_La_block_21
abbrev ws_La_word1 : List Cond := Cond.codeWith y_La_word b_La_word 5 (some .int) [((0 : Nat), (10 : Nat), (13 : Nat), (13 : Nat)), ((0 : Nat), (10 : Nat), (17 : Nat), (17 : Nat))] :: aw_G
abbrev rm_La_word1 : Room := { frames := 8, cells := 1, slots := 6, locals := 134 }
set_option maxHeartbeats 4000000 in
set_option maxRecDepth 100000 in
theorem k_La_word1 (l : Launch) (hst : l.stackTraces = false) (D : va_G) (g : Nat → ClassId) (ad : Nat → Nat) (G M : Nat → Nat × Nat) (F : Int32) (N0 : Nat) (j : Nat) (i : Int32) (hj : j < 4) (hs : 2 ≤ (G j).1) : Met l y_La_word ws_La_word1 rm_La_word1 (va_Pc ([.ref (aw_r ad 0), .int (nI j), .int i, .ref (aw_o ad)] : List Value) (aw_B D g ad G M F N0)) (va_Qi (fun r (_ : Unit) => True) (fun (_ : Unit) t => aw_H D g ad G M F N0 t.heap) (aw_Z N0)) 1 6 (aw_Z N0) := by
  refine va_MetW (cc := b_La_word) (maxL := 5) (ret := (some .int)) (hh := [((0 : Nat), (10 : Nat), (13 : Nat), (13 : Nat)), ((0 : Nat), (10 : Nat), (17 : Nat), (17 : Nat))]) (by decide) rfl ?_
  intro p e s m args below meth c s₁ B hml hv
  obtain ⟨rfl, ⟨L, hP, hD, hSh⟩, hU⟩ := hv
  have hx := B.exec
  have hb := B.bytes
  have hr := B.returns
  have hG : ∀ w ∈ aw_G, w.before _ s = true := fun w h => atoms_spec (ws := ws_La_word1) B.pre w (List.mem_cons_of_mem _ h)
  have htab : c.exceptionTable.toList = tableOf [((0 : Nat), (10 : Nat), (13 : Nat), (13 : Nat)), ((0 : Nat), (10 : Nat), (17 : Nat), (17 : Nat))] := vx_table (x := y_La_word) B (atoms_spec (ws := ws_La_word1) B.pre _ List.mem_cons_self)
  have hown : s.vm.findClass "RuleCiphersLaw" = some m.cls := findClass_of_methodNamed B.named
  have hlocks := B.notSynchronized
  have hE := hU.1
  have hK := hE.1
  have hN := hE.2.1
  have hS : va_S (aw_Z N0) s.heap s.heap [] := va_S.rf
  have hl := lv_entry ([.ref (aw_r ad 0), .int (nI j), .int i, .ref (aw_o ad)] : List Value) (n := 5) (Nat.le_of_ble_eq_true rfl)
  rw [lg_entry_eq]
  generalize (lg_sl ([.ref (aw_r ad 0), .int (nI j), .int i, .ref (aw_o ad)] : List Value) ++ List.replicate (5 - (lg_sl ([.ref (aw_r ad 0), .int (nI j), .int i, .ref (aw_o ad)] : List Value)).length) Slot.unset).toArray = ls at hl ⊢
  have hl : lv_has ls 5 [(0, .ref (aw_r ad 0)), (1, .int (nI j)), (2, .int i), (3, .ref (aw_o ad))] := hl
  refine lv_aload_n hx hb d_La_word_0 rfl (lv_at hl 3 rfl) ?_
  refine lv_iconst (v := nI 0) hx hb d_La_word_1 (by decide +kernel) ?_
  refine lv_aload_n hx hb d_La_word_2 rfl (lv_at hl 0 rfl) ?_
  refine lv_iload_n hx hb d_La_word_3 rfl (lv_at hl 1 rfl) ?_
  refine lv_iload_n hx hb d_La_word_4 rfl (lv_at hl 2 rfl) ?_
  have he1 := rd_R0 hSh
  refine va_calli (va_runV (As := [.int (nI j), .int i]) (rest := [.int (nI 0), .ref (aw_o ad)]) ⟨hx, hb, hml, hown, hG⟩ (k_Ru_word1 l D g ad G M F N0 j i hj hs) (aw_wV 2 hG gw_7_13 gw_7_10 gw_0_1 gw_7_11 gw_7_12 rfl rfl hd_Ru_word ⟨Nat.le_of_ble_eq_true rfl, Nat.le_of_ble_eq_true rfl⟩) (aw_qV (va_recv hK hP rfl he1) hP hD hSh hU hS) rfl rfl hl.1 rfl (lv_room (Nat.le_of_ble_eq_true rfl)) d_La_word_5 ⟨Nat.le_of_ble_eq_true rfl, Nat.le_of_ble_eq_true rfl⟩) hS (fun _ _ h => h) (fun _ h => h) (fun x2 u8 t8 H locs ht _ _ hB _ _ hS => ?_)
  obtain ⟨L, hP, hD, hSh⟩ := hB
  rw [ht] at hP
  clear ht
  refine lv_i2l hx hb d_La_word_8 rfl ?_
  refine lv_topl (fun y3 _ => ?_)
  obtain ⟨f5, he4⟩ := rd_O0 hSh
  refine aw_lstI hx hb hK hP hD hS 84 1 he4 rfl (k := 0) (by omega) (by decide) d_La_word_9 (wr_O0 hSh _) (fun H locs L hP hD hSh hS => ?_)
  refine lv_goto (tgt := 21) hx hb d_La_word_10 (by decide) ?_
  refine lv_iconst (v := nI 0) hx hb d_La_word_21 (by decide +kernel) ?_
  refine W.widen (k := 1) (n := 6) (Nat.le_of_ble_eq_true rfl) (Nat.le_of_ble_eq_true rfl) ?_
  exact W.iret hx hb hr (fun t ht hW => ⟨⟨_, (), rfl, trivial, aw_Hr ht hP hD hSh⟩, hS.F ht⟩) hS.2.2 d_La_word_22
abbrev ws_La_wordXc : List Cond := Cond.codeWith y_La_word b_La_word 5 (some .int) [((0 : Nat), (10 : Nat), (13 : Nat), (13 : Nat)), ((0 : Nat), (10 : Nat), (17 : Nat), (17 : Nat))] :: aw_G
abbrev rm_La_wordXc : Room := { frames := 8, cells := 1, slots := 6, locals := 134 }
set_option maxHeartbeats 4000000 in
set_option maxRecDepth 100000 in
theorem k_La_wordXc (l : Launch) (hst : l.stackTraces = false) (D : va_G) (g : Nat → ClassId) (ad : Nat → Nat) (G M : Nat → Nat × Nat) (F : Int32) (N0 : Nat) (c0 : Int32) (i : Int32) (hc : c0 < 0 ∨ (¬ c0 < 0 ∧ ¬ c0 < nI 4)) : Met l y_La_word ws_La_wordXc rm_La_wordXc (va_Pc ([.ref (aw_r ad 0), .int c0, .int i, .ref (aw_o ad)] : List Value) (aw_B D g ad G M F N0)) (va_Qi (fun r (_ : Unit) => True) (fun (_ : Unit) t => aw_H D g ad G M F N0 t.heap) (aw_Z N0)) 1 6 (aw_Z N0) := by
  refine va_MetW (cc := b_La_word) (maxL := 5) (ret := (some .int)) (hh := [((0 : Nat), (10 : Nat), (13 : Nat), (13 : Nat)), ((0 : Nat), (10 : Nat), (17 : Nat), (17 : Nat))]) (by decide) rfl ?_
  intro p e s m args below meth c s₁ B hml hv
  obtain ⟨rfl, ⟨L, hP, hD, hSh⟩, hU⟩ := hv
  have hx := B.exec
  have hb := B.bytes
  have hr := B.returns
  have hG : ∀ w ∈ aw_G, w.before _ s = true := fun w h => atoms_spec (ws := ws_La_wordXc) B.pre w (List.mem_cons_of_mem _ h)
  have htab : c.exceptionTable.toList = tableOf [((0 : Nat), (10 : Nat), (13 : Nat), (13 : Nat)), ((0 : Nat), (10 : Nat), (17 : Nat), (17 : Nat))] := vx_table (x := y_La_word) B (atoms_spec (ws := ws_La_wordXc) B.pre _ List.mem_cons_self)
  have hown : s.vm.findClass "RuleCiphersLaw" = some m.cls := findClass_of_methodNamed B.named
  have hlocks := B.notSynchronized
  have hE := hU.1
  have hK := hE.1
  have hN := hE.2.1
  have hS : va_S (aw_Z N0) s.heap s.heap [] := va_S.rf
  have hl := lv_entry ([.ref (aw_r ad 0), .int c0, .int i, .ref (aw_o ad)] : List Value) (n := 5) (Nat.le_of_ble_eq_true rfl)
  rw [lg_entry_eq]
  generalize (lg_sl ([.ref (aw_r ad 0), .int c0, .int i, .ref (aw_o ad)] : List Value) ++ List.replicate (5 - (lg_sl ([.ref (aw_r ad 0), .int c0, .int i, .ref (aw_o ad)] : List Value)).length) Slot.unset).toArray = ls at hl ⊢
  have hl : lv_has ls 5 [(0, .ref (aw_r ad 0)), (1, .int c0), (2, .int i), (3, .ref (aw_o ad))] := hl
  refine lv_aload_n hx hb d_La_word_0 rfl (lv_at hl 3 rfl) ?_
  refine lv_iconst (v := nI 0) hx hb d_La_word_1 (by decide +kernel) ?_
  refine lv_aload_n hx hb d_La_word_2 rfl (lv_at hl 0 rfl) ?_
  refine lv_iload_n hx hb d_La_word_3 rfl (lv_at hl 1 rfl) ?_
  refine lv_iload_n hx hb d_La_word_4 rfl (lv_at hl 2 rfl) ?_
  have he1 := rd_R0 hSh
  refine vx_callv (vx_runV (As := [.int c0, .int i]) (rest := [.int (nI 0), .ref (aw_o ad)]) ⟨hx, hb, hml, hown, hG⟩ (k_Ru_wordXc l hst D g ad G M F N0 c0 i hc) (aw_wV 2 hG gw_7_13 gw_7_10 gw_0_1 gw_7_11 gw_7_12 rfl rfl hd_Ru_word ⟨Nat.le_of_ble_eq_true rfl, Nat.le_of_ble_eq_true rfl⟩) (aw_qV (va_recv hK hP rfl he1) hP hD hSh hU hS) rfl rfl hl.1 rfl (lv_room (Nat.le_of_ble_eq_true rfl)) d_La_word_5 ⟨Nat.le_of_ble_eq_true rfl, Nat.le_of_ble_eq_true rfl⟩) hS (fun _ _ h => h) (fun _ h => h) (fun _ _ h => h) (fun E ce q9 u t H locs ht _ _ hBX _ _ hS hce hcv hcl => ?_) (fun u t H locs _ _ hF _ _ _ _ => hF.elim)
  obtain ⟨rfl, L, hP, hD, hSh⟩ := hBX
  rw [ht] at hP
  refine vx_catch hown [] ⟨0, 10, 13, 13⟩ [⟨0, 10, 17, 17⟩] htab aw_ps0 (by decide) (by decide) (hG _ gw_2_38) (va_Nw.use rfl (hN _ nw_2)) hce hcv hcl ?_
  refine W.eq (g2 := F0 m 13 ls [.ref q9]) rfl ?_
  refine lv_astore hx hb d_La_word_13 hl (by decide) rfl (fun ls hl => ?_)
  have hl : lv_has ls 5 [(4, .ref q9), (0, .ref (aw_r ad 0)), (1, .int c0), (2, .int i), (3, .ref (aw_o ad))] := hl
  refine lv_iconst (v := nI 1) hx hb d_La_word_15 (by decide +kernel) ?_
  exact W.iret hx hb hr (fun t ht hW => ⟨⟨_, (), rfl, trivial, aw_Hr ht hP hD hSh⟩, hS.F ht⟩) hS.2.2 d_La_word_16
abbrev ws_La_wordXs : List Cond := Cond.codeWith y_La_word b_La_word 5 (some .int) [((0 : Nat), (10 : Nat), (13 : Nat), (13 : Nat)), ((0 : Nat), (10 : Nat), (17 : Nat), (17 : Nat))] :: aw_G
abbrev rm_La_wordXs : Room := { frames := 8, cells := 1, slots := 6, locals := 134 }
set_option maxHeartbeats 4000000 in
set_option maxRecDepth 100000 in
theorem k_La_wordXs (l : Launch) (hst : l.stackTraces = false) (D : va_G) (g : Nat → ClassId) (ad : Nat → Nat) (G M : Nat → Nat × Nat) (F : Int32) (N0 : Nat) (j : Nat) (i : Int32) (hj : j < 4) (hs : (G j).1 ≤ 1) : Met l y_La_word ws_La_wordXs rm_La_wordXs (va_Pc ([.ref (aw_r ad 0), .int (nI j), .int i, .ref (aw_o ad)] : List Value) (aw_B D g ad G M F N0)) (va_Qi (fun r (_ : Unit) => True) (fun (_ : Unit) t => aw_H D g ad G M F N0 t.heap) (aw_Z N0)) 1 6 (aw_Z N0) := by
  refine va_MetW (cc := b_La_word) (maxL := 5) (ret := (some .int)) (hh := [((0 : Nat), (10 : Nat), (13 : Nat), (13 : Nat)), ((0 : Nat), (10 : Nat), (17 : Nat), (17 : Nat))]) (by decide) rfl ?_
  intro p e s m args below meth c s₁ B hml hv
  obtain ⟨rfl, ⟨L, hP, hD, hSh⟩, hU⟩ := hv
  have hx := B.exec
  have hb := B.bytes
  have hr := B.returns
  have hG : ∀ w ∈ aw_G, w.before _ s = true := fun w h => atoms_spec (ws := ws_La_wordXs) B.pre w (List.mem_cons_of_mem _ h)
  have htab : c.exceptionTable.toList = tableOf [((0 : Nat), (10 : Nat), (13 : Nat), (13 : Nat)), ((0 : Nat), (10 : Nat), (17 : Nat), (17 : Nat))] := vx_table (x := y_La_word) B (atoms_spec (ws := ws_La_wordXs) B.pre _ List.mem_cons_self)
  have hown : s.vm.findClass "RuleCiphersLaw" = some m.cls := findClass_of_methodNamed B.named
  have hlocks := B.notSynchronized
  have hE := hU.1
  have hK := hE.1
  have hN := hE.2.1
  have hS : va_S (aw_Z N0) s.heap s.heap [] := va_S.rf
  have hl := lv_entry ([.ref (aw_r ad 0), .int (nI j), .int i, .ref (aw_o ad)] : List Value) (n := 5) (Nat.le_of_ble_eq_true rfl)
  rw [lg_entry_eq]
  generalize (lg_sl ([.ref (aw_r ad 0), .int (nI j), .int i, .ref (aw_o ad)] : List Value) ++ List.replicate (5 - (lg_sl ([.ref (aw_r ad 0), .int (nI j), .int i, .ref (aw_o ad)] : List Value)).length) Slot.unset).toArray = ls at hl ⊢
  have hl : lv_has ls 5 [(0, .ref (aw_r ad 0)), (1, .int (nI j)), (2, .int i), (3, .ref (aw_o ad))] := hl
  refine lv_aload_n hx hb d_La_word_0 rfl (lv_at hl 3 rfl) ?_
  refine lv_iconst (v := nI 0) hx hb d_La_word_1 (by decide +kernel) ?_
  refine lv_aload_n hx hb d_La_word_2 rfl (lv_at hl 0 rfl) ?_
  refine lv_iload_n hx hb d_La_word_3 rfl (lv_at hl 1 rfl) ?_
  refine lv_iload_n hx hb d_La_word_4 rfl (lv_at hl 2 rfl) ?_
  have he1 := rd_R0 hSh
  refine vx_callv (vx_runV (As := [.int (nI j), .int i]) (rest := [.int (nI 0), .ref (aw_o ad)]) ⟨hx, hb, hml, hown, hG⟩ (k_Ru_wordXs l hst D g ad G M F N0 j i hj hs) (aw_wV 2 hG gw_7_13 gw_7_10 gw_0_1 gw_7_11 gw_7_12 rfl rfl hd_Ru_word ⟨Nat.le_of_ble_eq_true rfl, Nat.le_of_ble_eq_true rfl⟩) (aw_qV (va_recv hK hP rfl he1) hP hD hSh hU hS) rfl rfl hl.1 rfl (lv_room (Nat.le_of_ble_eq_true rfl)) d_La_word_5 ⟨Nat.le_of_ble_eq_true rfl, Nat.le_of_ble_eq_true rfl⟩) hS (fun _ _ h => h) (fun _ h => h) (fun _ _ h => h) (fun E ce q9 u t H locs ht _ _ hBX _ _ hS hce hcv hcl => ?_) (fun u t H locs _ _ hF _ _ _ _ => hF.elim)
  obtain ⟨rfl, L, hP, hD, hSh⟩ := hBX
  rw [ht] at hP
  refine vx_catch hown [⟨0, 10, 13, 13⟩] ⟨0, 10, 17, 17⟩ [] htab (aw_psc (Or.inr ⟨by decide, "java/lang/IndexOutOfBoundsException", hG _ gw_2_38, aw_nc_S_I hE⟩) aw_ps0) (by decide) (by decide) (hG _ gw_2_40) (va_Nw.use rfl (hN _ nw_10)) hce hcv hcl ?_
  refine W.eq (g2 := F0 m 17 ls [.ref q9]) rfl ?_
  refine lv_astore hx hb d_La_word_17 hl (by decide) rfl (fun ls hl => ?_)
  have hl : lv_has ls 5 [(4, .ref q9), (0, .ref (aw_r ad 0)), (1, .int (nI j)), (2, .int i), (3, .ref (aw_o ad))] := hl
  refine lv_iconst (v := nI 2) hx hb d_La_word_19 (by decide +kernel) ?_
  exact W.iret hx hb hr (fun t ht hW => ⟨⟨_, (), rfl, trivial, aw_Hr ht hP hD hSh⟩, hS.F ht⟩) hS.2.2 d_La_word_20
abbrev ws_La_get1 : List Cond := Cond.codeWith y_La_get b_La_get 4 (some .int) [((0 : Nat), (9 : Nat), (12 : Nat), (13 : Nat))] :: aw_G
abbrev rm_La_get1 : Room := { frames := 8, cells := 1, slots := 6, locals := 131 }
set_option maxHeartbeats 4000000 in
set_option maxRecDepth 100000 in
theorem k_La_get1 (l : Launch) (hst : l.stackTraces = false) (D : va_G) (g : Nat → ClassId) (ad : Nat → Nat) (G M : Nat → Nat × Nat) (F : Int32) (N0 : Nat) (k : Nat) (hk : k < 64) : Met l y_La_get ws_La_get1 rm_La_get1 (va_Pc ([.ref (aw_r ad 0), .int (nI k), .ref (aw_o ad)] : List Value) (aw_B D g ad G M F N0)) (va_Qi (fun r (_ : Unit) => True) (fun (_ : Unit) t => aw_H D g ad G M F N0 t.heap) (aw_Z N0)) 1 6 (aw_Z N0) := by
  refine va_MetW (cc := b_La_get) (maxL := 4) (ret := (some .int)) (hh := [((0 : Nat), (9 : Nat), (12 : Nat), (13 : Nat))]) (by decide) rfl ?_
  intro p e s m args below meth c s₁ B hml hv
  obtain ⟨rfl, ⟨L, hP, hD, hSh⟩, hU⟩ := hv
  have hx := B.exec
  have hb := B.bytes
  have hr := B.returns
  have hG : ∀ w ∈ aw_G, w.before _ s = true := fun w h => atoms_spec (ws := ws_La_get1) B.pre w (List.mem_cons_of_mem _ h)
  have htab : c.exceptionTable.toList = tableOf [((0 : Nat), (9 : Nat), (12 : Nat), (13 : Nat))] := vx_table (x := y_La_get) B (atoms_spec (ws := ws_La_get1) B.pre _ List.mem_cons_self)
  have hown : s.vm.findClass "RuleCiphersLaw" = some m.cls := findClass_of_methodNamed B.named
  have hlocks := B.notSynchronized
  have hE := hU.1
  have hK := hE.1
  have hN := hE.2.1
  have hS : va_S (aw_Z N0) s.heap s.heap [] := va_S.rf
  have hl := lv_entry ([.ref (aw_r ad 0), .int (nI k), .ref (aw_o ad)] : List Value) (n := 4) (Nat.le_of_ble_eq_true rfl)
  rw [lg_entry_eq]
  generalize (lg_sl ([.ref (aw_r ad 0), .int (nI k), .ref (aw_o ad)] : List Value) ++ List.replicate (4 - (lg_sl ([.ref (aw_r ad 0), .int (nI k), .ref (aw_o ad)] : List Value)).length) Slot.unset).toArray = ls at hl ⊢
  have hl : lv_has ls 4 [(0, .ref (aw_r ad 0)), (1, .int (nI k)), (2, .ref (aw_o ad))] := hl
  refine lv_aload_n hx hb d_La_get_0 rfl (lv_at hl 2 rfl) ?_
  refine lv_iconst (v := nI 0) hx hb d_La_get_1 (by decide +kernel) ?_
  refine lv_aload_n hx hb d_La_get_2 rfl (lv_at hl 0 rfl) ?_
  refine lv_iload_n hx hb d_La_get_3 rfl (lv_at hl 1 rfl) ?_
  have he1 := rd_R0 hSh
  refine va_calli (va_runV (As := [.int (nI k)]) (rest := [.int (nI 0), .ref (aw_o ad)]) ⟨hx, hb, hml, hown, hG⟩ (k_Ru_get1 l D g ad G M F N0 k hk) (aw_wV 1 hG gw_7_39 gw_7_36 gw_0_1 gw_7_37 gw_7_38 rfl rfl hd_Ru_get ⟨Nat.le_of_ble_eq_true rfl, Nat.le_of_ble_eq_true rfl⟩) (aw_qV (va_recv hK hP rfl he1) hP hD hSh hU hS) rfl rfl hl.1 rfl (lv_room (Nat.le_of_ble_eq_true rfl)) d_La_get_4 ⟨Nat.le_of_ble_eq_true rfl, Nat.le_of_ble_eq_true rfl⟩) hS (fun _ _ h => h) (fun _ h => h) (fun x2 u8 t8 H locs ht _ _ hB _ _ hS => ?_)
  obtain ⟨L, hP, hD, hSh⟩ := hB
  rw [ht] at hP
  clear ht
  refine lv_i2l hx hb d_La_get_7 rfl ?_
  refine lv_topl (fun y3 _ => ?_)
  obtain ⟨f5, he4⟩ := rd_O0 hSh
  refine aw_lstI hx hb hK hP hD hS 84 1 he4 rfl (k := 0) (by omega) (by decide) d_La_get_8 (wr_O0 hSh _) (fun H locs L hP hD hSh hS => ?_)
  refine lv_goto (tgt := 15) hx hb d_La_get_9 (by decide) ?_
  refine lv_iconst (v := nI 0) hx hb d_La_get_15 (by decide +kernel) ?_
  refine W.widen (k := 1) (n := 6) (Nat.le_of_ble_eq_true rfl) (Nat.le_of_ble_eq_true rfl) ?_
  exact W.iret hx hb hr (fun t ht hW => ⟨⟨_, (), rfl, trivial, aw_Hr ht hP hD hSh⟩, hS.F ht⟩) hS.2.2 d_La_get_16
abbrev ws_La_getX : List Cond := Cond.codeWith y_La_get b_La_get 4 (some .int) [((0 : Nat), (9 : Nat), (12 : Nat), (13 : Nat))] :: aw_G
abbrev rm_La_getX : Room := { frames := 8, cells := 1, slots := 6, locals := 131 }
set_option maxHeartbeats 4000000 in
set_option maxRecDepth 100000 in
theorem k_La_getX (l : Launch) (hst : l.stackTraces = false) (D : va_G) (g : Nat → ClassId) (ad : Nat → Nat) (G M : Nat → Nat × Nat) (F : Int32) (N0 : Nat) (p0 : Int32) (hc : p0 < 0 ∨ (¬ p0 < 0 ∧ ¬ p0 < nI 64)) : Met l y_La_get ws_La_getX rm_La_getX (va_Pc ([.ref (aw_r ad 0), .int p0, .ref (aw_o ad)] : List Value) (aw_B D g ad G M F N0)) (va_Qi (fun r (_ : Unit) => True) (fun (_ : Unit) t => aw_H D g ad G M F N0 t.heap) (aw_Z N0)) 1 6 (aw_Z N0) := by
  refine va_MetW (cc := b_La_get) (maxL := 4) (ret := (some .int)) (hh := [((0 : Nat), (9 : Nat), (12 : Nat), (13 : Nat))]) (by decide) rfl ?_
  intro p e s m args below meth c s₁ B hml hv
  obtain ⟨rfl, ⟨L, hP, hD, hSh⟩, hU⟩ := hv
  have hx := B.exec
  have hb := B.bytes
  have hr := B.returns
  have hG : ∀ w ∈ aw_G, w.before _ s = true := fun w h => atoms_spec (ws := ws_La_getX) B.pre w (List.mem_cons_of_mem _ h)
  have htab : c.exceptionTable.toList = tableOf [((0 : Nat), (9 : Nat), (12 : Nat), (13 : Nat))] := vx_table (x := y_La_get) B (atoms_spec (ws := ws_La_getX) B.pre _ List.mem_cons_self)
  have hown : s.vm.findClass "RuleCiphersLaw" = some m.cls := findClass_of_methodNamed B.named
  have hlocks := B.notSynchronized
  have hE := hU.1
  have hK := hE.1
  have hN := hE.2.1
  have hS : va_S (aw_Z N0) s.heap s.heap [] := va_S.rf
  have hl := lv_entry ([.ref (aw_r ad 0), .int p0, .ref (aw_o ad)] : List Value) (n := 4) (Nat.le_of_ble_eq_true rfl)
  rw [lg_entry_eq]
  generalize (lg_sl ([.ref (aw_r ad 0), .int p0, .ref (aw_o ad)] : List Value) ++ List.replicate (4 - (lg_sl ([.ref (aw_r ad 0), .int p0, .ref (aw_o ad)] : List Value)).length) Slot.unset).toArray = ls at hl ⊢
  have hl : lv_has ls 4 [(0, .ref (aw_r ad 0)), (1, .int p0), (2, .ref (aw_o ad))] := hl
  refine lv_aload_n hx hb d_La_get_0 rfl (lv_at hl 2 rfl) ?_
  refine lv_iconst (v := nI 0) hx hb d_La_get_1 (by decide +kernel) ?_
  refine lv_aload_n hx hb d_La_get_2 rfl (lv_at hl 0 rfl) ?_
  refine lv_iload_n hx hb d_La_get_3 rfl (lv_at hl 1 rfl) ?_
  have he1 := rd_R0 hSh
  refine vx_callv (vx_runV (As := [.int p0]) (rest := [.int (nI 0), .ref (aw_o ad)]) ⟨hx, hb, hml, hown, hG⟩ (k_Ru_getX l hst D g ad G M F N0 p0 hc) (aw_wV 1 hG gw_7_39 gw_7_36 gw_0_1 gw_7_37 gw_7_38 rfl rfl hd_Ru_get ⟨Nat.le_of_ble_eq_true rfl, Nat.le_of_ble_eq_true rfl⟩) (aw_qV (va_recv hK hP rfl he1) hP hD hSh hU hS) rfl rfl hl.1 rfl (lv_room (Nat.le_of_ble_eq_true rfl)) d_La_get_4 ⟨Nat.le_of_ble_eq_true rfl, Nat.le_of_ble_eq_true rfl⟩) hS (fun _ _ h => h) (fun _ h => h) (fun _ _ h => h) (fun E ce q9 u t H locs ht _ _ hBX _ _ hS hce hcv hcl => ?_) (fun u t H locs _ _ hF _ _ _ _ => hF.elim)
  obtain ⟨rfl, L, hP, hD, hSh⟩ := hBX
  rw [ht] at hP
  refine vx_catch hown [] ⟨0, 9, 12, 13⟩ [] htab aw_ps0 (by decide) (by decide) (hG _ gw_2_38) (va_Nw.use rfl (hN _ nw_2)) hce hcv hcl ?_
  refine W.eq (g2 := F0 m 12 ls [.ref q9]) rfl ?_
  refine lv_astore_n hx hb d_La_get_12 rfl hl (by decide) rfl (fun ls hl => ?_)
  have hl : lv_has ls 4 [(3, .ref q9), (0, .ref (aw_r ad 0)), (1, .int p0), (2, .ref (aw_o ad))] := hl
  refine lv_iconst (v := nI 1) hx hb d_La_get_13 (by decide +kernel) ?_
  exact W.iret hx hb hr (fun t ht hW => ⟨⟨_, (), rfl, trivial, aw_Hr ht hP hD hSh⟩, hS.F ht⟩) hS.2.2 d_La_get_14
abbrev ws_La_feedXc : List Cond := Cond.codeWith y_La_feed b_La_feed 7 (some .int) [((0 : Nat), (14 : Nat), (17 : Nat), (13 : Nat)), ((0 : Nat), (14 : Nat), (21 : Nat), (17 : Nat)), ((0 : Nat), (14 : Nat), (25 : Nat), (15 : Nat))] :: aw_G
abbrev rm_La_feedXc : Room := { frames := 8, cells := 1, slots := 6, locals := 178 }
set_option maxHeartbeats 4000000 in
set_option maxRecDepth 100000 in
theorem k_La_feedXc (l : Launch) (hst : l.stackTraces = false) (D : va_G) (g : Nat → ClassId) (ad : Nat → Nat) (G M : Nat → Nat × Nat) (F : Int32) (N0 : Nat) (c0 : Int32) (bk : Int32) (fr : Int32) (m0 : Int32) (hc : c0 < 0 ∨ (¬ c0 < 0 ∧ ¬ c0 < nI 4)) : Met l y_La_feed ws_La_feedXc rm_La_feedXc (va_Pc ([.ref (aw_r ad 0), .int c0, .int bk, .int fr, .int m0, .ref (aw_o ad)] : List Value) (aw_B D g ad G M F N0)) (va_Qi (fun r (_ : Unit) => True) (fun (_ : Unit) t => aw_H D g ad G M F N0 t.heap) (aw_Z N0)) 1 6 (aw_Z N0) := by
  refine va_MetW (cc := b_La_feed) (maxL := 7) (ret := (some .int)) (hh := [((0 : Nat), (14 : Nat), (17 : Nat), (13 : Nat)), ((0 : Nat), (14 : Nat), (21 : Nat), (17 : Nat)), ((0 : Nat), (14 : Nat), (25 : Nat), (15 : Nat))]) (by decide) rfl ?_
  intro p e s m args below meth c s₁ B hml hv
  obtain ⟨rfl, ⟨L, hP, hD, hSh⟩, hU⟩ := hv
  have hx := B.exec
  have hb := B.bytes
  have hr := B.returns
  have hG : ∀ w ∈ aw_G, w.before _ s = true := fun w h => atoms_spec (ws := ws_La_feedXc) B.pre w (List.mem_cons_of_mem _ h)
  have htab : c.exceptionTable.toList = tableOf [((0 : Nat), (14 : Nat), (17 : Nat), (13 : Nat)), ((0 : Nat), (14 : Nat), (21 : Nat), (17 : Nat)), ((0 : Nat), (14 : Nat), (25 : Nat), (15 : Nat))] := vx_table (x := y_La_feed) B (atoms_spec (ws := ws_La_feedXc) B.pre _ List.mem_cons_self)
  have hown : s.vm.findClass "RuleCiphersLaw" = some m.cls := findClass_of_methodNamed B.named
  have hlocks := B.notSynchronized
  have hE := hU.1
  have hK := hE.1
  have hN := hE.2.1
  have hS : va_S (aw_Z N0) s.heap s.heap [] := va_S.rf
  have hl := lv_entry ([.ref (aw_r ad 0), .int c0, .int bk, .int fr, .int m0, .ref (aw_o ad)] : List Value) (n := 7) (Nat.le_of_ble_eq_true rfl)
  rw [lg_entry_eq]
  generalize (lg_sl ([.ref (aw_r ad 0), .int c0, .int bk, .int fr, .int m0, .ref (aw_o ad)] : List Value) ++ List.replicate (7 - (lg_sl ([.ref (aw_r ad 0), .int c0, .int bk, .int fr, .int m0, .ref (aw_o ad)] : List Value)).length) Slot.unset).toArray = ls at hl ⊢
  have hl : lv_has ls 7 [(0, .ref (aw_r ad 0)), (1, .int c0), (2, .int bk), (3, .int fr), (4, .int m0), (5, .ref (aw_o ad))] := hl
  refine lv_aload hx hb d_La_feed_0 (lv_at hl 5 rfl) ?_
  refine lv_iconst (v := nI 0) hx hb d_La_feed_2 (by decide +kernel) ?_
  refine lv_aload_n hx hb d_La_feed_3 rfl (lv_at hl 0 rfl) ?_
  refine lv_iload_n hx hb d_La_feed_4 rfl (lv_at hl 1 rfl) ?_
  refine lv_iload_n hx hb d_La_feed_5 rfl (lv_at hl 2 rfl) ?_
  refine lv_iload_n hx hb d_La_feed_6 rfl (lv_at hl 3 rfl) ?_
  refine lv_iload hx hb d_La_feed_7 (lv_at hl 4 rfl) ?_
  have he1 := rd_R0 hSh
  refine vx_callv (vx_runV (As := [.int c0, .int bk, .int fr, .int m0]) (rest := [.int (nI 0), .ref (aw_o ad)]) ⟨hx, hb, hml, hown, hG⟩ (k_Ru_feedXc l hst D g ad G M F N0 c0 bk fr m0 hc) (aw_wV 4 hG gw_7_46 gw_7_43 gw_0_1 gw_7_44 gw_7_45 rfl rfl hd_Ru_feed ⟨Nat.le_of_ble_eq_true rfl, Nat.le_of_ble_eq_true rfl⟩) (aw_qV (va_recv hK hP rfl he1) hP hD hSh hU hS) rfl rfl hl.1 rfl (lv_room (Nat.le_of_ble_eq_true rfl)) d_La_feed_9 ⟨Nat.le_of_ble_eq_true rfl, Nat.le_of_ble_eq_true rfl⟩) hS (fun _ _ h => h) (fun _ h => h) (fun _ _ h => h) (fun E ce q9 u t H locs ht _ _ hBX _ _ hS hce hcv hcl => ?_) (fun u t H locs _ _ hF _ _ _ _ => hF.elim)
  obtain ⟨rfl, L, hP, hD, hSh⟩ := hBX
  rw [ht] at hP
  refine vx_catch hown [] ⟨0, 14, 17, 13⟩ [⟨0, 14, 21, 17⟩, ⟨0, 14, 25, 15⟩] htab aw_ps0 (by decide) (by decide) (hG _ gw_2_38) (va_Nw.use rfl (hN _ nw_2)) hce hcv hcl ?_
  refine W.eq (g2 := F0 m 17 ls [.ref q9]) rfl ?_
  refine lv_astore hx hb d_La_feed_17 hl (by decide) rfl (fun ls hl => ?_)
  have hl : lv_has ls 7 [(6, .ref q9), (0, .ref (aw_r ad 0)), (1, .int c0), (2, .int bk), (3, .int fr), (4, .int m0), (5, .ref (aw_o ad))] := hl
  refine lv_iconst (v := nI 1) hx hb d_La_feed_19 (by decide +kernel) ?_
  exact W.iret hx hb hr (fun t ht hW => ⟨⟨_, (), rfl, trivial, aw_Hr ht hP hD hSh⟩, hS.F ht⟩) hS.2.2 d_La_feed_20
abbrev ws_La_feedXb : List Cond := Cond.codeWith y_La_feed b_La_feed 7 (some .int) [((0 : Nat), (14 : Nat), (17 : Nat), (13 : Nat)), ((0 : Nat), (14 : Nat), (21 : Nat), (17 : Nat)), ((0 : Nat), (14 : Nat), (25 : Nat), (15 : Nat))] :: aw_G
abbrev rm_La_feedXb : Room := { frames := 8, cells := 1, slots := 6, locals := 178 }
set_option maxHeartbeats 4000000 in
set_option maxRecDepth 100000 in
theorem k_La_feedXb (l : Launch) (hst : l.stackTraces = false) (D : va_G) (g : Nat → ClassId) (ad : Nat → Nat) (G M : Nat → Nat × Nat) (F : Int32) (N0 : Nat) (j : Nat) (bk : Int32) (fr : Int32) (m0 : Int32) (hj : j < 4) (hi : m0 < 0 ∨ (0 < m0 ∧ fr < 0) ∨ (0 < m0 ∧ ¬ fr < 0 ∧ nI 64 - fr < m0)) : Met l y_La_feed ws_La_feedXb rm_La_feedXb (va_Pc ([.ref (aw_r ad 0), .int (nI j), .int bk, .int fr, .int m0, .ref (aw_o ad)] : List Value) (aw_B D g ad G M F N0)) (va_Qi (fun r (_ : Unit) => True) (fun (_ : Unit) t => aw_H D g ad G M F N0 t.heap) (aw_Z N0)) 1 6 (aw_Z N0) := by
  refine va_MetW (cc := b_La_feed) (maxL := 7) (ret := (some .int)) (hh := [((0 : Nat), (14 : Nat), (17 : Nat), (13 : Nat)), ((0 : Nat), (14 : Nat), (21 : Nat), (17 : Nat)), ((0 : Nat), (14 : Nat), (25 : Nat), (15 : Nat))]) (by decide) rfl ?_
  intro p e s m args below meth c s₁ B hml hv
  obtain ⟨rfl, ⟨L, hP, hD, hSh⟩, hU⟩ := hv
  have hx := B.exec
  have hb := B.bytes
  have hr := B.returns
  have hG : ∀ w ∈ aw_G, w.before _ s = true := fun w h => atoms_spec (ws := ws_La_feedXb) B.pre w (List.mem_cons_of_mem _ h)
  have htab : c.exceptionTable.toList = tableOf [((0 : Nat), (14 : Nat), (17 : Nat), (13 : Nat)), ((0 : Nat), (14 : Nat), (21 : Nat), (17 : Nat)), ((0 : Nat), (14 : Nat), (25 : Nat), (15 : Nat))] := vx_table (x := y_La_feed) B (atoms_spec (ws := ws_La_feedXb) B.pre _ List.mem_cons_self)
  have hown : s.vm.findClass "RuleCiphersLaw" = some m.cls := findClass_of_methodNamed B.named
  have hlocks := B.notSynchronized
  have hE := hU.1
  have hK := hE.1
  have hN := hE.2.1
  have hS : va_S (aw_Z N0) s.heap s.heap [] := va_S.rf
  have hl := lv_entry ([.ref (aw_r ad 0), .int (nI j), .int bk, .int fr, .int m0, .ref (aw_o ad)] : List Value) (n := 7) (Nat.le_of_ble_eq_true rfl)
  rw [lg_entry_eq]
  generalize (lg_sl ([.ref (aw_r ad 0), .int (nI j), .int bk, .int fr, .int m0, .ref (aw_o ad)] : List Value) ++ List.replicate (7 - (lg_sl ([.ref (aw_r ad 0), .int (nI j), .int bk, .int fr, .int m0, .ref (aw_o ad)] : List Value)).length) Slot.unset).toArray = ls at hl ⊢
  have hl : lv_has ls 7 [(0, .ref (aw_r ad 0)), (1, .int (nI j)), (2, .int bk), (3, .int fr), (4, .int m0), (5, .ref (aw_o ad))] := hl
  refine lv_aload hx hb d_La_feed_0 (lv_at hl 5 rfl) ?_
  refine lv_iconst (v := nI 0) hx hb d_La_feed_2 (by decide +kernel) ?_
  refine lv_aload_n hx hb d_La_feed_3 rfl (lv_at hl 0 rfl) ?_
  refine lv_iload_n hx hb d_La_feed_4 rfl (lv_at hl 1 rfl) ?_
  refine lv_iload_n hx hb d_La_feed_5 rfl (lv_at hl 2 rfl) ?_
  refine lv_iload_n hx hb d_La_feed_6 rfl (lv_at hl 3 rfl) ?_
  refine lv_iload hx hb d_La_feed_7 (lv_at hl 4 rfl) ?_
  have he1 := rd_R0 hSh
  refine vx_callv (vx_runV (As := [.int (nI j), .int bk, .int fr, .int m0]) (rest := [.int (nI 0), .ref (aw_o ad)]) ⟨hx, hb, hml, hown, hG⟩ (k_Ru_feedXb l hst D g ad G M F N0 j bk fr m0 hj hi) (aw_wV 4 hG gw_7_46 gw_7_43 gw_0_1 gw_7_44 gw_7_45 rfl rfl hd_Ru_feed ⟨Nat.le_of_ble_eq_true rfl, Nat.le_of_ble_eq_true rfl⟩) (aw_qV (va_recv hK hP rfl he1) hP hD hSh hU hS) rfl rfl hl.1 rfl (lv_room (Nat.le_of_ble_eq_true rfl)) d_La_feed_9 ⟨Nat.le_of_ble_eq_true rfl, Nat.le_of_ble_eq_true rfl⟩) hS (fun _ _ h => h) (fun _ h => h) (fun _ _ h => h) (fun E ce q9 u t H locs ht _ _ hBX _ _ hS hce hcv hcl => ?_) (fun u t H locs _ _ hF _ _ _ _ => hF.elim)
  obtain ⟨rfl, L, hP, hD, hSh⟩ := hBX
  rw [ht] at hP
  refine vx_catch hown [] ⟨0, 14, 17, 13⟩ [⟨0, 14, 21, 17⟩, ⟨0, 14, 25, 15⟩] htab aw_ps0 (by decide) (by decide) (hG _ gw_2_38) (va_Nw.use rfl (hN _ nw_2)) hce hcv hcl ?_
  refine W.eq (g2 := F0 m 17 ls [.ref q9]) rfl ?_
  refine lv_astore hx hb d_La_feed_17 hl (by decide) rfl (fun ls hl => ?_)
  have hl : lv_has ls 7 [(6, .ref q9), (0, .ref (aw_r ad 0)), (1, .int (nI j)), (2, .int bk), (3, .int fr), (4, .int m0), (5, .ref (aw_o ad))] := hl
  refine lv_iconst (v := nI 1) hx hb d_La_feed_19 (by decide +kernel) ?_
  exact W.iret hx hb hr (fun t ht hW => ⟨⟨_, (), rfl, trivial, aw_Hr ht hP hD hSh⟩, hS.F ht⟩) hS.2.2 d_La_feed_20
abbrev ws_La_feedXs0 : List Cond := Cond.codeWith y_La_feed b_La_feed 7 (some .int) [((0 : Nat), (14 : Nat), (17 : Nat), (13 : Nat)), ((0 : Nat), (14 : Nat), (21 : Nat), (17 : Nat)), ((0 : Nat), (14 : Nat), (25 : Nat), (15 : Nat))] :: aw_G
abbrev rm_La_feedXs0 : Room := { frames := 8, cells := 1, slots := 6, locals := 178 }
set_option maxHeartbeats 4000000 in
set_option maxRecDepth 100000 in
theorem k_La_feedXs0 (l : Launch) (hst : l.stackTraces = false) (D : va_G) (g : Nat → ClassId) (ad : Nat → Nat) (G M : Nat → Nat × Nat) (F : Int32) (N0 : Nat) (j : Nat) (bk : Int32) (fr : Int32) (hj : j < 4) (hs : (G j).1 ≤ 2 ∨ ((G j).1 = 3 ∧ (G j).2 = 5)) : Met l y_La_feed ws_La_feedXs0 rm_La_feedXs0 (va_Pc ([.ref (aw_r ad 0), .int (nI j), .int bk, .int fr, .int (nI 0), .ref (aw_o ad)] : List Value) (aw_B D g ad G M F N0)) (va_Qi (fun r (_ : Unit) => True) (fun (_ : Unit) t => aw_H D g ad G M F N0 t.heap) (aw_Z N0)) 1 6 (aw_Z N0) := by
  refine va_MetW (cc := b_La_feed) (maxL := 7) (ret := (some .int)) (hh := [((0 : Nat), (14 : Nat), (17 : Nat), (13 : Nat)), ((0 : Nat), (14 : Nat), (21 : Nat), (17 : Nat)), ((0 : Nat), (14 : Nat), (25 : Nat), (15 : Nat))]) (by decide) rfl ?_
  intro p e s m args below meth c s₁ B hml hv
  obtain ⟨rfl, ⟨L, hP, hD, hSh⟩, hU⟩ := hv
  have hx := B.exec
  have hb := B.bytes
  have hr := B.returns
  have hG : ∀ w ∈ aw_G, w.before _ s = true := fun w h => atoms_spec (ws := ws_La_feedXs0) B.pre w (List.mem_cons_of_mem _ h)
  have htab : c.exceptionTable.toList = tableOf [((0 : Nat), (14 : Nat), (17 : Nat), (13 : Nat)), ((0 : Nat), (14 : Nat), (21 : Nat), (17 : Nat)), ((0 : Nat), (14 : Nat), (25 : Nat), (15 : Nat))] := vx_table (x := y_La_feed) B (atoms_spec (ws := ws_La_feedXs0) B.pre _ List.mem_cons_self)
  have hown : s.vm.findClass "RuleCiphersLaw" = some m.cls := findClass_of_methodNamed B.named
  have hlocks := B.notSynchronized
  have hE := hU.1
  have hK := hE.1
  have hN := hE.2.1
  have hS : va_S (aw_Z N0) s.heap s.heap [] := va_S.rf
  have hl := lv_entry ([.ref (aw_r ad 0), .int (nI j), .int bk, .int fr, .int (nI 0), .ref (aw_o ad)] : List Value) (n := 7) (Nat.le_of_ble_eq_true rfl)
  rw [lg_entry_eq]
  generalize (lg_sl ([.ref (aw_r ad 0), .int (nI j), .int bk, .int fr, .int (nI 0), .ref (aw_o ad)] : List Value) ++ List.replicate (7 - (lg_sl ([.ref (aw_r ad 0), .int (nI j), .int bk, .int fr, .int (nI 0), .ref (aw_o ad)] : List Value)).length) Slot.unset).toArray = ls at hl ⊢
  have hl : lv_has ls 7 [(0, .ref (aw_r ad 0)), (1, .int (nI j)), (2, .int bk), (3, .int fr), (4, .int (nI 0)), (5, .ref (aw_o ad))] := hl
  refine lv_aload hx hb d_La_feed_0 (lv_at hl 5 rfl) ?_
  refine lv_iconst (v := nI 0) hx hb d_La_feed_2 (by decide +kernel) ?_
  refine lv_aload_n hx hb d_La_feed_3 rfl (lv_at hl 0 rfl) ?_
  refine lv_iload_n hx hb d_La_feed_4 rfl (lv_at hl 1 rfl) ?_
  refine lv_iload_n hx hb d_La_feed_5 rfl (lv_at hl 2 rfl) ?_
  refine lv_iload_n hx hb d_La_feed_6 rfl (lv_at hl 3 rfl) ?_
  refine lv_iload hx hb d_La_feed_7 (lv_at hl 4 rfl) ?_
  have he1 := rd_R0 hSh
  refine vx_callv (vx_runV (As := [.int (nI j), .int bk, .int fr, .int (nI 0)]) (rest := [.int (nI 0), .ref (aw_o ad)]) ⟨hx, hb, hml, hown, hG⟩ (k_Ru_feedXs0 l hst D g ad G M F N0 j bk fr hj hs) (aw_wV 4 hG gw_7_46 gw_7_43 gw_0_1 gw_7_44 gw_7_45 rfl rfl hd_Ru_feed ⟨Nat.le_of_ble_eq_true rfl, Nat.le_of_ble_eq_true rfl⟩) (aw_qV (va_recv hK hP rfl he1) hP hD hSh hU hS) rfl rfl hl.1 rfl (lv_room (Nat.le_of_ble_eq_true rfl)) d_La_feed_9 ⟨Nat.le_of_ble_eq_true rfl, Nat.le_of_ble_eq_true rfl⟩) hS (fun _ _ h => h) (fun _ h => h) (fun _ _ h => h) (fun E ce q9 u t H locs ht _ _ hBX _ _ hS hce hcv hcl => ?_) (fun u t H locs _ _ hF _ _ _ _ => hF.elim)
  obtain ⟨rfl, L, hP, hD, hSh⟩ := hBX
  rw [ht] at hP
  refine vx_catch hown [⟨0, 14, 17, 13⟩] ⟨0, 14, 21, 17⟩ [⟨0, 14, 25, 15⟩] htab (aw_psc (Or.inr ⟨by decide, "java/lang/IndexOutOfBoundsException", hG _ gw_2_38, aw_nc_S_I hE⟩) aw_ps0) (by decide) (by decide) (hG _ gw_2_40) (va_Nw.use rfl (hN _ nw_10)) hce hcv hcl ?_
  refine W.eq (g2 := F0 m 21 ls [.ref q9]) rfl ?_
  refine lv_astore hx hb d_La_feed_21 hl (by decide) rfl (fun ls hl => ?_)
  have hl : lv_has ls 7 [(6, .ref q9), (0, .ref (aw_r ad 0)), (1, .int (nI j)), (2, .int bk), (3, .int fr), (4, .int (nI 0)), (5, .ref (aw_o ad))] := hl
  refine lv_iconst (v := nI 2) hx hb d_La_feed_23 (by decide +kernel) ?_
  exact W.iret hx hb hr (fun t ht hW => ⟨⟨_, (), rfl, trivial, aw_Hr ht hP hD hSh⟩, hS.F ht⟩) hS.2.2 d_La_feed_24
abbrev ws_La_feedXs1 : List Cond := Cond.codeWith y_La_feed b_La_feed 7 (some .int) [((0 : Nat), (14 : Nat), (17 : Nat), (13 : Nat)), ((0 : Nat), (14 : Nat), (21 : Nat), (17 : Nat)), ((0 : Nat), (14 : Nat), (25 : Nat), (15 : Nat))] :: aw_G
abbrev rm_La_feedXs1 : Room := { frames := 8, cells := 1, slots := 6, locals := 178 }
set_option maxHeartbeats 4000000 in
set_option maxRecDepth 100000 in
theorem k_La_feedXs1 (l : Launch) (hst : l.stackTraces = false) (D : va_G) (g : Nat → ClassId) (ad : Nat → Nat) (G M : Nat → Nat × Nat) (F : Int32) (N0 : Nat) (j : Nat) (bk : Int32) (k : Nat) (mm : Nat) (hj : j < 4) (h0 : 0 < mm) (hk : k + mm ≤ 64) (hs : (G j).1 ≤ 2 ∨ ((G j).1 = 3 ∧ (G j).2 = 5)) : Met l y_La_feed ws_La_feedXs1 rm_La_feedXs1 (va_Pc ([.ref (aw_r ad 0), .int (nI j), .int bk, .int (nI k), .int (nI mm), .ref (aw_o ad)] : List Value) (aw_B D g ad G M F N0)) (va_Qi (fun r (_ : Unit) => True) (fun (_ : Unit) t => aw_H D g ad G M F N0 t.heap) (aw_Z N0)) 1 6 (aw_Z N0) := by
  refine va_MetW (cc := b_La_feed) (maxL := 7) (ret := (some .int)) (hh := [((0 : Nat), (14 : Nat), (17 : Nat), (13 : Nat)), ((0 : Nat), (14 : Nat), (21 : Nat), (17 : Nat)), ((0 : Nat), (14 : Nat), (25 : Nat), (15 : Nat))]) (by decide) rfl ?_
  intro p e s m args below meth c s₁ B hml hv
  obtain ⟨rfl, ⟨L, hP, hD, hSh⟩, hU⟩ := hv
  have hx := B.exec
  have hb := B.bytes
  have hr := B.returns
  have hG : ∀ w ∈ aw_G, w.before _ s = true := fun w h => atoms_spec (ws := ws_La_feedXs1) B.pre w (List.mem_cons_of_mem _ h)
  have htab : c.exceptionTable.toList = tableOf [((0 : Nat), (14 : Nat), (17 : Nat), (13 : Nat)), ((0 : Nat), (14 : Nat), (21 : Nat), (17 : Nat)), ((0 : Nat), (14 : Nat), (25 : Nat), (15 : Nat))] := vx_table (x := y_La_feed) B (atoms_spec (ws := ws_La_feedXs1) B.pre _ List.mem_cons_self)
  have hown : s.vm.findClass "RuleCiphersLaw" = some m.cls := findClass_of_methodNamed B.named
  have hlocks := B.notSynchronized
  have hE := hU.1
  have hK := hE.1
  have hN := hE.2.1
  have hS : va_S (aw_Z N0) s.heap s.heap [] := va_S.rf
  have hl := lv_entry ([.ref (aw_r ad 0), .int (nI j), .int bk, .int (nI k), .int (nI mm), .ref (aw_o ad)] : List Value) (n := 7) (Nat.le_of_ble_eq_true rfl)
  rw [lg_entry_eq]
  generalize (lg_sl ([.ref (aw_r ad 0), .int (nI j), .int bk, .int (nI k), .int (nI mm), .ref (aw_o ad)] : List Value) ++ List.replicate (7 - (lg_sl ([.ref (aw_r ad 0), .int (nI j), .int bk, .int (nI k), .int (nI mm), .ref (aw_o ad)] : List Value)).length) Slot.unset).toArray = ls at hl ⊢
  have hl : lv_has ls 7 [(0, .ref (aw_r ad 0)), (1, .int (nI j)), (2, .int bk), (3, .int (nI k)), (4, .int (nI mm)), (5, .ref (aw_o ad))] := hl
  refine lv_aload hx hb d_La_feed_0 (lv_at hl 5 rfl) ?_
  refine lv_iconst (v := nI 0) hx hb d_La_feed_2 (by decide +kernel) ?_
  refine lv_aload_n hx hb d_La_feed_3 rfl (lv_at hl 0 rfl) ?_
  refine lv_iload_n hx hb d_La_feed_4 rfl (lv_at hl 1 rfl) ?_
  refine lv_iload_n hx hb d_La_feed_5 rfl (lv_at hl 2 rfl) ?_
  refine lv_iload_n hx hb d_La_feed_6 rfl (lv_at hl 3 rfl) ?_
  refine lv_iload hx hb d_La_feed_7 (lv_at hl 4 rfl) ?_
  have he1 := rd_R0 hSh
  refine vx_callv (vx_runV (As := [.int (nI j), .int bk, .int (nI k), .int (nI mm)]) (rest := [.int (nI 0), .ref (aw_o ad)]) ⟨hx, hb, hml, hown, hG⟩ (k_Ru_feedXs1 l hst D g ad G M F N0 j bk k mm hj h0 hk hs) (aw_wV 4 hG gw_7_46 gw_7_43 gw_0_1 gw_7_44 gw_7_45 rfl rfl hd_Ru_feed ⟨Nat.le_of_ble_eq_true rfl, Nat.le_of_ble_eq_true rfl⟩) (aw_qV (va_recv hK hP rfl he1) hP hD hSh hU hS) rfl rfl hl.1 rfl (lv_room (Nat.le_of_ble_eq_true rfl)) d_La_feed_9 ⟨Nat.le_of_ble_eq_true rfl, Nat.le_of_ble_eq_true rfl⟩) hS (fun _ _ h => h) (fun _ h => h) (fun _ _ h => h) (fun E ce q9 u t H locs ht _ _ hBX _ _ hS hce hcv hcl => ?_) (fun u t H locs _ _ hF _ _ _ _ => hF.elim)
  obtain ⟨rfl, L, hP, hD, hSh⟩ := hBX
  rw [ht] at hP
  refine vx_catch hown [⟨0, 14, 17, 13⟩] ⟨0, 14, 21, 17⟩ [⟨0, 14, 25, 15⟩] htab (aw_psc (Or.inr ⟨by decide, "java/lang/IndexOutOfBoundsException", hG _ gw_2_38, aw_nc_S_I hE⟩) aw_ps0) (by decide) (by decide) (hG _ gw_2_40) (va_Nw.use rfl (hN _ nw_10)) hce hcv hcl ?_
  refine W.eq (g2 := F0 m 21 ls [.ref q9]) rfl ?_
  refine lv_astore hx hb d_La_feed_21 hl (by decide) rfl (fun ls hl => ?_)
  have hl : lv_has ls 7 [(6, .ref q9), (0, .ref (aw_r ad 0)), (1, .int (nI j)), (2, .int bk), (3, .int (nI k)), (4, .int (nI mm)), (5, .ref (aw_o ad))] := hl
  refine lv_iconst (v := nI 2) hx hb d_La_feed_23 (by decide +kernel) ?_
  exact W.iret hx hb hr (fun t ht hW => ⟨⟨_, (), rfl, trivial, aw_Hr ht hP hD hSh⟩, hS.F ht⟩) hS.2.2 d_La_feed_24
abbrev ws_La_feedXa : List Cond := Cond.codeWith y_La_feed b_La_feed 7 (some .int) [((0 : Nat), (14 : Nat), (17 : Nat), (13 : Nat)), ((0 : Nat), (14 : Nat), (21 : Nat), (17 : Nat)), ((0 : Nat), (14 : Nat), (25 : Nat), (15 : Nat))] :: aw_G
abbrev rm_La_feedXa : Room := { frames := 8, cells := 1, slots := 6, locals := 178 }
set_option maxHeartbeats 4000000 in
set_option maxRecDepth 100000 in
theorem k_La_feedXa (l : Launch) (hst : l.stackTraces = false) (D : va_G) (g : Nat → ClassId) (ad : Nat → Nat) (G M : Nat → Nat × Nat) (F : Int32) (N0 : Nat) (j : Nat) (bk : Int32) (k : Nat) (mm : Nat) (hj : j < 4) (h0 : 0 < mm) (hk : k + mm ≤ 64) (hs : (G j).1 = 3) (hm : (G j).2 ≤ 1) (hr8 : mm % 8 ≠ 0) : Met l y_La_feed ws_La_feedXa rm_La_feedXa (va_Pc ([.ref (aw_r ad 0), .int (nI j), .int bk, .int (nI k), .int (nI mm), .ref (aw_o ad)] : List Value) (aw_B D g ad G M F N0)) (va_Qi (fun r (_ : Unit) => True) (fun (_ : Unit) t => aw_H D g ad G M F N0 t.heap) (aw_Z N0)) 1 6 (aw_Z N0) := by
  refine va_MetW (cc := b_La_feed) (maxL := 7) (ret := (some .int)) (hh := [((0 : Nat), (14 : Nat), (17 : Nat), (13 : Nat)), ((0 : Nat), (14 : Nat), (21 : Nat), (17 : Nat)), ((0 : Nat), (14 : Nat), (25 : Nat), (15 : Nat))]) (by decide) rfl ?_
  intro p e s m args below meth c s₁ B hml hv
  obtain ⟨rfl, ⟨L, hP, hD, hSh⟩, hU⟩ := hv
  have hx := B.exec
  have hb := B.bytes
  have hr := B.returns
  have hG : ∀ w ∈ aw_G, w.before _ s = true := fun w h => atoms_spec (ws := ws_La_feedXa) B.pre w (List.mem_cons_of_mem _ h)
  have htab : c.exceptionTable.toList = tableOf [((0 : Nat), (14 : Nat), (17 : Nat), (13 : Nat)), ((0 : Nat), (14 : Nat), (21 : Nat), (17 : Nat)), ((0 : Nat), (14 : Nat), (25 : Nat), (15 : Nat))] := vx_table (x := y_La_feed) B (atoms_spec (ws := ws_La_feedXa) B.pre _ List.mem_cons_self)
  have hown : s.vm.findClass "RuleCiphersLaw" = some m.cls := findClass_of_methodNamed B.named
  have hlocks := B.notSynchronized
  have hE := hU.1
  have hK := hE.1
  have hN := hE.2.1
  have hS : va_S (aw_Z N0) s.heap s.heap [] := va_S.rf
  have hl := lv_entry ([.ref (aw_r ad 0), .int (nI j), .int bk, .int (nI k), .int (nI mm), .ref (aw_o ad)] : List Value) (n := 7) (Nat.le_of_ble_eq_true rfl)
  rw [lg_entry_eq]
  generalize (lg_sl ([.ref (aw_r ad 0), .int (nI j), .int bk, .int (nI k), .int (nI mm), .ref (aw_o ad)] : List Value) ++ List.replicate (7 - (lg_sl ([.ref (aw_r ad 0), .int (nI j), .int bk, .int (nI k), .int (nI mm), .ref (aw_o ad)] : List Value)).length) Slot.unset).toArray = ls at hl ⊢
  have hl : lv_has ls 7 [(0, .ref (aw_r ad 0)), (1, .int (nI j)), (2, .int bk), (3, .int (nI k)), (4, .int (nI mm)), (5, .ref (aw_o ad))] := hl
  refine lv_aload hx hb d_La_feed_0 (lv_at hl 5 rfl) ?_
  refine lv_iconst (v := nI 0) hx hb d_La_feed_2 (by decide +kernel) ?_
  refine lv_aload_n hx hb d_La_feed_3 rfl (lv_at hl 0 rfl) ?_
  refine lv_iload_n hx hb d_La_feed_4 rfl (lv_at hl 1 rfl) ?_
  refine lv_iload_n hx hb d_La_feed_5 rfl (lv_at hl 2 rfl) ?_
  refine lv_iload_n hx hb d_La_feed_6 rfl (lv_at hl 3 rfl) ?_
  refine lv_iload hx hb d_La_feed_7 (lv_at hl 4 rfl) ?_
  have he1 := rd_R0 hSh
  refine vx_callv (vx_runV (As := [.int (nI j), .int bk, .int (nI k), .int (nI mm)]) (rest := [.int (nI 0), .ref (aw_o ad)]) ⟨hx, hb, hml, hown, hG⟩ (k_Ru_feedXa l hst D g ad G M F N0 j bk k mm hj h0 hk hs hm hr8) (aw_wV 4 hG gw_7_46 gw_7_43 gw_0_1 gw_7_44 gw_7_45 rfl rfl hd_Ru_feed ⟨Nat.le_of_ble_eq_true rfl, Nat.le_of_ble_eq_true rfl⟩) (aw_qV (va_recv hK hP rfl he1) hP hD hSh hU hS) rfl rfl hl.1 rfl (lv_room (Nat.le_of_ble_eq_true rfl)) d_La_feed_9 ⟨Nat.le_of_ble_eq_true rfl, Nat.le_of_ble_eq_true rfl⟩) hS (fun _ _ h => h) (fun _ h => h) (fun _ _ h => h) (fun E ce q9 u t H locs ht _ _ hBX _ _ hS hce hcv hcl => ?_) (fun u t H locs _ _ hF _ _ _ _ => hF.elim)
  obtain ⟨rfl, L, hP, hD, hSh⟩ := hBX
  rw [ht] at hP
  refine vx_catch hown [⟨0, 14, 17, 13⟩, ⟨0, 14, 21, 17⟩] ⟨0, 14, 25, 15⟩ [] htab (aw_psc (Or.inr ⟨by decide, "java/lang/IndexOutOfBoundsException", hG _ gw_2_38, aw_nc_A_I hE⟩) (aw_psc (Or.inr ⟨by decide, "java/lang/IllegalStateException", hG _ gw_2_40, aw_nc_A_S hE⟩) aw_ps0)) (by decide) (by decide) (hG _ gw_2_39) (va_Nw.use rfl (hN _ nw_9)) hce hcv hcl ?_
  refine W.eq (g2 := F0 m 25 ls [.ref q9]) rfl ?_
  refine lv_astore hx hb d_La_feed_25 hl (by decide) rfl (fun ls hl => ?_)
  have hl : lv_has ls 7 [(6, .ref q9), (0, .ref (aw_r ad 0)), (1, .int (nI j)), (2, .int bk), (3, .int (nI k)), (4, .int (nI mm)), (5, .ref (aw_o ad))] := hl
  refine lv_iconst (v := nI 3) hx hb d_La_feed_27 (by decide +kernel) ?_
  exact W.iret hx hb hr (fun t ht hW => ⟨⟨_, (), rfl, trivial, aw_Hr ht hP hD hSh⟩, hS.F ht⟩) hS.2.2 d_La_feed_28
abbrev ws_La_feed10b : List Cond := Cond.codeWith y_La_feed b_La_feed 7 (some .int) [((0 : Nat), (14 : Nat), (17 : Nat), (13 : Nat)), ((0 : Nat), (14 : Nat), (21 : Nat), (17 : Nat)), ((0 : Nat), (14 : Nat), (25 : Nat), (15 : Nat))] :: aw_G
abbrev rm_La_feed10b : Room := { frames := 8, cells := 1, slots := 6, locals := 178 }
set_option maxHeartbeats 4000000 in
set_option maxRecDepth 100000 in
theorem k_La_feed10b (l : Launch) (hst : l.stackTraces = false) (D : va_G) (g : Nat → ClassId) (ad : Nat → Nat) (G M : Nat → Nat × Nat) (F : Int32) (N0 : Nat) (j : Nat) (bk : Int32) (fr : Int32) (hj : j < 4) (hs : (G j).1 = 3) (hm : (G j).2 ≤ 1) : Met l y_La_feed ws_La_feed10b rm_La_feed10b (va_Pc ([.ref (aw_r ad 0), .int (nI j), .int bk, .int fr, .int (nI 0), .ref (aw_o ad)] : List Value) (aw_B D g ad G M F N0)) (va_Qi (fun r (_ : Unit) => True) (fun (_ : Unit) t => aw_H D g ad G M F N0 t.heap) (aw_Z N0)) 1 6 (aw_Z N0) := by
  refine va_MetW (cc := b_La_feed) (maxL := 7) (ret := (some .int)) (hh := [((0 : Nat), (14 : Nat), (17 : Nat), (13 : Nat)), ((0 : Nat), (14 : Nat), (21 : Nat), (17 : Nat)), ((0 : Nat), (14 : Nat), (25 : Nat), (15 : Nat))]) (by decide) rfl ?_
  intro p e s m args below meth c s₁ B hml hv
  obtain ⟨rfl, ⟨L, hP, hD, hSh⟩, hU⟩ := hv
  have hx := B.exec
  have hb := B.bytes
  have hr := B.returns
  have hG : ∀ w ∈ aw_G, w.before _ s = true := fun w h => atoms_spec (ws := ws_La_feed10b) B.pre w (List.mem_cons_of_mem _ h)
  have htab : c.exceptionTable.toList = tableOf [((0 : Nat), (14 : Nat), (17 : Nat), (13 : Nat)), ((0 : Nat), (14 : Nat), (21 : Nat), (17 : Nat)), ((0 : Nat), (14 : Nat), (25 : Nat), (15 : Nat))] := vx_table (x := y_La_feed) B (atoms_spec (ws := ws_La_feed10b) B.pre _ List.mem_cons_self)
  have hown : s.vm.findClass "RuleCiphersLaw" = some m.cls := findClass_of_methodNamed B.named
  have hlocks := B.notSynchronized
  have hE := hU.1
  have hK := hE.1
  have hN := hE.2.1
  have hS : va_S (aw_Z N0) s.heap s.heap [] := va_S.rf
  have hl := lv_entry ([.ref (aw_r ad 0), .int (nI j), .int bk, .int fr, .int (nI 0), .ref (aw_o ad)] : List Value) (n := 7) (Nat.le_of_ble_eq_true rfl)
  rw [lg_entry_eq]
  generalize (lg_sl ([.ref (aw_r ad 0), .int (nI j), .int bk, .int fr, .int (nI 0), .ref (aw_o ad)] : List Value) ++ List.replicate (7 - (lg_sl ([.ref (aw_r ad 0), .int (nI j), .int bk, .int fr, .int (nI 0), .ref (aw_o ad)] : List Value)).length) Slot.unset).toArray = ls at hl ⊢
  have hl : lv_has ls 7 [(0, .ref (aw_r ad 0)), (1, .int (nI j)), (2, .int bk), (3, .int fr), (4, .int (nI 0)), (5, .ref (aw_o ad))] := hl
  refine lv_aload hx hb d_La_feed_0 (lv_at hl 5 rfl) ?_
  refine lv_iconst (v := nI 0) hx hb d_La_feed_2 (by decide +kernel) ?_
  refine lv_aload_n hx hb d_La_feed_3 rfl (lv_at hl 0 rfl) ?_
  refine lv_iload_n hx hb d_La_feed_4 rfl (lv_at hl 1 rfl) ?_
  refine lv_iload_n hx hb d_La_feed_5 rfl (lv_at hl 2 rfl) ?_
  refine lv_iload_n hx hb d_La_feed_6 rfl (lv_at hl 3 rfl) ?_
  refine lv_iload hx hb d_La_feed_7 (lv_at hl 4 rfl) ?_
  have he1 := rd_R0 hSh
  refine va_calli (va_runV (As := [.int (nI j), .int bk, .int fr, .int (nI 0)]) (rest := [.int (nI 0), .ref (aw_o ad)]) ⟨hx, hb, hml, hown, hG⟩ (k_Ru_feed10b l D g ad G M F N0 j bk fr hj hs hm) (aw_wV 4 hG gw_7_46 gw_7_43 gw_0_1 gw_7_44 gw_7_45 rfl rfl hd_Ru_feed ⟨Nat.le_of_ble_eq_true rfl, Nat.le_of_ble_eq_true rfl⟩) (aw_qV (va_recv hK hP rfl he1) hP hD hSh hU hS) rfl rfl hl.1 rfl (lv_room (Nat.le_of_ble_eq_true rfl)) d_La_feed_9 ⟨Nat.le_of_ble_eq_true rfl, Nat.le_of_ble_eq_true rfl⟩) hS (fun _ _ h => h) (fun _ h => h) (fun x2 u8 t8 H locs ht _ _ hB _ _ hS => ?_)
  obtain ⟨L, hP, hD, hSh⟩ := hB
  rw [ht] at hP
  clear ht
  refine lv_i2l hx hb d_La_feed_12 rfl ?_
  refine lv_topl (fun y3 _ => ?_)
  obtain ⟨f5, he4⟩ := rd_O0 hSh
  refine aw_lstI hx hb hK hP hD hS 84 1 he4 rfl (k := 0) (by omega) (by decide) d_La_feed_13 (wr_O0 hSh _) (fun H locs L hP hD hSh hS => ?_)
  refine lv_goto (tgt := 29) hx hb d_La_feed_14 (by decide) ?_
  refine lv_iconst (v := nI 0) hx hb d_La_feed_29 (by decide +kernel) ?_
  refine W.widen (k := 1) (n := 6) (Nat.le_of_ble_eq_true rfl) (Nat.le_of_ble_eq_true rfl) ?_
  exact W.iret hx hb hr (fun t ht hW => ⟨⟨_, (), rfl, trivial, aw_Hr ht hP hD hSh⟩, hS.F ht⟩) hS.2.2 d_La_feed_30
abbrev ws_La_feed10 : List Cond := Cond.codeWith y_La_feed b_La_feed 7 (some .int) [((0 : Nat), (14 : Nat), (17 : Nat), (13 : Nat)), ((0 : Nat), (14 : Nat), (21 : Nat), (17 : Nat)), ((0 : Nat), (14 : Nat), (25 : Nat), (15 : Nat))] :: aw_G
abbrev rm_La_feed10 : Room := { frames := 8, cells := 1, slots := 6, locals := 178 }
set_option maxHeartbeats 4000000 in
set_option maxRecDepth 100000 in
theorem k_La_feed10 (l : Launch) (hst : l.stackTraces = false) (D : va_G) (g : Nat → ClassId) (ad : Nat → Nat) (G M : Nat → Nat × Nat) (F : Int32) (N0 : Nat) (j : Nat) (bk : Int32) (fr : Int32) (hj : j < 4) (hs : (G j).1 = 3) (hm : 2 ≤ (G j).2) (hm5 : (G j).2 ≤ 4) : Met l y_La_feed ws_La_feed10 rm_La_feed10 (va_Pc ([.ref (aw_r ad 0), .int (nI j), .int bk, .int fr, .int (nI 0), .ref (aw_o ad)] : List Value) (aw_B D g ad G M F N0)) (va_Qi (fun r (_ : Unit) => True) (fun (_ : Unit) t => aw_H D g ad G M F N0 t.heap) (aw_Z N0)) 1 6 (aw_Z N0) := by
  refine va_MetW (cc := b_La_feed) (maxL := 7) (ret := (some .int)) (hh := [((0 : Nat), (14 : Nat), (17 : Nat), (13 : Nat)), ((0 : Nat), (14 : Nat), (21 : Nat), (17 : Nat)), ((0 : Nat), (14 : Nat), (25 : Nat), (15 : Nat))]) (by decide) rfl ?_
  intro p e s m args below meth c s₁ B hml hv
  obtain ⟨rfl, ⟨L, hP, hD, hSh⟩, hU⟩ := hv
  have hx := B.exec
  have hb := B.bytes
  have hr := B.returns
  have hG : ∀ w ∈ aw_G, w.before _ s = true := fun w h => atoms_spec (ws := ws_La_feed10) B.pre w (List.mem_cons_of_mem _ h)
  have htab : c.exceptionTable.toList = tableOf [((0 : Nat), (14 : Nat), (17 : Nat), (13 : Nat)), ((0 : Nat), (14 : Nat), (21 : Nat), (17 : Nat)), ((0 : Nat), (14 : Nat), (25 : Nat), (15 : Nat))] := vx_table (x := y_La_feed) B (atoms_spec (ws := ws_La_feed10) B.pre _ List.mem_cons_self)
  have hown : s.vm.findClass "RuleCiphersLaw" = some m.cls := findClass_of_methodNamed B.named
  have hlocks := B.notSynchronized
  have hE := hU.1
  have hK := hE.1
  have hN := hE.2.1
  have hS : va_S (aw_Z N0) s.heap s.heap [] := va_S.rf
  have hl := lv_entry ([.ref (aw_r ad 0), .int (nI j), .int bk, .int fr, .int (nI 0), .ref (aw_o ad)] : List Value) (n := 7) (Nat.le_of_ble_eq_true rfl)
  rw [lg_entry_eq]
  generalize (lg_sl ([.ref (aw_r ad 0), .int (nI j), .int bk, .int fr, .int (nI 0), .ref (aw_o ad)] : List Value) ++ List.replicate (7 - (lg_sl ([.ref (aw_r ad 0), .int (nI j), .int bk, .int fr, .int (nI 0), .ref (aw_o ad)] : List Value)).length) Slot.unset).toArray = ls at hl ⊢
  have hl : lv_has ls 7 [(0, .ref (aw_r ad 0)), (1, .int (nI j)), (2, .int bk), (3, .int fr), (4, .int (nI 0)), (5, .ref (aw_o ad))] := hl
  refine lv_aload hx hb d_La_feed_0 (lv_at hl 5 rfl) ?_
  refine lv_iconst (v := nI 0) hx hb d_La_feed_2 (by decide +kernel) ?_
  refine lv_aload_n hx hb d_La_feed_3 rfl (lv_at hl 0 rfl) ?_
  refine lv_iload_n hx hb d_La_feed_4 rfl (lv_at hl 1 rfl) ?_
  refine lv_iload_n hx hb d_La_feed_5 rfl (lv_at hl 2 rfl) ?_
  refine lv_iload_n hx hb d_La_feed_6 rfl (lv_at hl 3 rfl) ?_
  refine lv_iload hx hb d_La_feed_7 (lv_at hl 4 rfl) ?_
  have he1 := rd_R0 hSh
  refine va_calli (va_runV (As := [.int (nI j), .int bk, .int fr, .int (nI 0)]) (rest := [.int (nI 0), .ref (aw_o ad)]) ⟨hx, hb, hml, hown, hG⟩ (k_Ru_feed10 l D g ad G M F N0 j bk fr hj hs hm hm5) (aw_wV 4 hG gw_7_46 gw_7_43 gw_0_1 gw_7_44 gw_7_45 rfl rfl hd_Ru_feed ⟨Nat.le_of_ble_eq_true rfl, Nat.le_of_ble_eq_true rfl⟩) (aw_qV (va_recv hK hP rfl he1) hP hD hSh hU hS) rfl rfl hl.1 rfl (lv_room (Nat.le_of_ble_eq_true rfl)) d_La_feed_9 ⟨Nat.le_of_ble_eq_true rfl, Nat.le_of_ble_eq_true rfl⟩) hS (fun _ _ h => h) (fun _ h => h) (fun x2 u8 t8 H locs ht _ _ hB _ _ hS => ?_)
  obtain ⟨L, hP, hD, hSh⟩ := hB
  rw [ht] at hP
  clear ht
  refine lv_i2l hx hb d_La_feed_12 rfl ?_
  refine lv_topl (fun y3 _ => ?_)
  obtain ⟨f5, he4⟩ := rd_O0 hSh
  refine aw_lstI hx hb hK hP hD hS 84 1 he4 rfl (k := 0) (by omega) (by decide) d_La_feed_13 (wr_O0 hSh _) (fun H locs L hP hD hSh hS => ?_)
  refine lv_goto (tgt := 29) hx hb d_La_feed_14 (by decide) ?_
  refine lv_iconst (v := nI 0) hx hb d_La_feed_29 (by decide +kernel) ?_
  refine W.widen (k := 1) (n := 6) (Nat.le_of_ble_eq_true rfl) (Nat.le_of_ble_eq_true rfl) ?_
  exact W.iret hx hb hr (fun t ht hW => ⟨⟨_, (), rfl, trivial, aw_Hr ht hP hD hSh⟩, hS.F ht⟩) hS.2.2 d_La_feed_30
abbrev ws_La_feed11 : List Cond := Cond.codeWith y_La_feed b_La_feed 7 (some .int) [((0 : Nat), (14 : Nat), (17 : Nat), (13 : Nat)), ((0 : Nat), (14 : Nat), (21 : Nat), (17 : Nat)), ((0 : Nat), (14 : Nat), (25 : Nat), (15 : Nat))] :: aw_G
abbrev rm_La_feed11 : Room := { frames := 8, cells := 1, slots := 6, locals := 178 }
set_option maxHeartbeats 4000000 in
set_option maxRecDepth 100000 in
theorem k_La_feed11 (l : Launch) (hst : l.stackTraces = false) (D : va_G) (g : Nat → ClassId) (ad : Nat → Nat) (G M : Nat → Nat × Nat) (F : Int32) (N0 : Nat) (j : Nat) (bk : Int32) (k : Nat) (mm : Nat) (hj : j < 4) (h0 : 0 < mm) (hk : k + mm ≤ 64) (hs : (G j).1 = 3) (hm : 2 ≤ (G j).2) (hm5 : (G j).2 ≤ 4) : Met l y_La_feed ws_La_feed11 rm_La_feed11 (va_Pc ([.ref (aw_r ad 0), .int (nI j), .int bk, .int (nI k), .int (nI mm), .ref (aw_o ad)] : List Value) (aw_B D g ad G M F N0)) (va_Qi (fun r (_ : Unit) => True) (fun (_ : Unit) t => aw_H D g ad G M F N0 t.heap) (aw_Z N0)) 1 6 (aw_Z N0) := by
  refine va_MetW (cc := b_La_feed) (maxL := 7) (ret := (some .int)) (hh := [((0 : Nat), (14 : Nat), (17 : Nat), (13 : Nat)), ((0 : Nat), (14 : Nat), (21 : Nat), (17 : Nat)), ((0 : Nat), (14 : Nat), (25 : Nat), (15 : Nat))]) (by decide) rfl ?_
  intro p e s m args below meth c s₁ B hml hv
  obtain ⟨rfl, ⟨L, hP, hD, hSh⟩, hU⟩ := hv
  have hx := B.exec
  have hb := B.bytes
  have hr := B.returns
  have hG : ∀ w ∈ aw_G, w.before _ s = true := fun w h => atoms_spec (ws := ws_La_feed11) B.pre w (List.mem_cons_of_mem _ h)
  have htab : c.exceptionTable.toList = tableOf [((0 : Nat), (14 : Nat), (17 : Nat), (13 : Nat)), ((0 : Nat), (14 : Nat), (21 : Nat), (17 : Nat)), ((0 : Nat), (14 : Nat), (25 : Nat), (15 : Nat))] := vx_table (x := y_La_feed) B (atoms_spec (ws := ws_La_feed11) B.pre _ List.mem_cons_self)
  have hown : s.vm.findClass "RuleCiphersLaw" = some m.cls := findClass_of_methodNamed B.named
  have hlocks := B.notSynchronized
  have hE := hU.1
  have hK := hE.1
  have hN := hE.2.1
  have hS : va_S (aw_Z N0) s.heap s.heap [] := va_S.rf
  have hl := lv_entry ([.ref (aw_r ad 0), .int (nI j), .int bk, .int (nI k), .int (nI mm), .ref (aw_o ad)] : List Value) (n := 7) (Nat.le_of_ble_eq_true rfl)
  rw [lg_entry_eq]
  generalize (lg_sl ([.ref (aw_r ad 0), .int (nI j), .int bk, .int (nI k), .int (nI mm), .ref (aw_o ad)] : List Value) ++ List.replicate (7 - (lg_sl ([.ref (aw_r ad 0), .int (nI j), .int bk, .int (nI k), .int (nI mm), .ref (aw_o ad)] : List Value)).length) Slot.unset).toArray = ls at hl ⊢
  have hl : lv_has ls 7 [(0, .ref (aw_r ad 0)), (1, .int (nI j)), (2, .int bk), (3, .int (nI k)), (4, .int (nI mm)), (5, .ref (aw_o ad))] := hl
  refine lv_aload hx hb d_La_feed_0 (lv_at hl 5 rfl) ?_
  refine lv_iconst (v := nI 0) hx hb d_La_feed_2 (by decide +kernel) ?_
  refine lv_aload_n hx hb d_La_feed_3 rfl (lv_at hl 0 rfl) ?_
  refine lv_iload_n hx hb d_La_feed_4 rfl (lv_at hl 1 rfl) ?_
  refine lv_iload_n hx hb d_La_feed_5 rfl (lv_at hl 2 rfl) ?_
  refine lv_iload_n hx hb d_La_feed_6 rfl (lv_at hl 3 rfl) ?_
  refine lv_iload hx hb d_La_feed_7 (lv_at hl 4 rfl) ?_
  have he1 := rd_R0 hSh
  refine va_calli (va_runV (As := [.int (nI j), .int bk, .int (nI k), .int (nI mm)]) (rest := [.int (nI 0), .ref (aw_o ad)]) ⟨hx, hb, hml, hown, hG⟩ (k_Ru_feed11 l D g ad G M F N0 j bk k mm hj h0 hk hs hm hm5) (aw_wV 4 hG gw_7_46 gw_7_43 gw_0_1 gw_7_44 gw_7_45 rfl rfl hd_Ru_feed ⟨Nat.le_of_ble_eq_true rfl, Nat.le_of_ble_eq_true rfl⟩) (aw_qV (va_recv hK hP rfl he1) hP hD hSh hU hS) rfl rfl hl.1 rfl (lv_room (Nat.le_of_ble_eq_true rfl)) d_La_feed_9 ⟨Nat.le_of_ble_eq_true rfl, Nat.le_of_ble_eq_true rfl⟩) hS (fun _ _ h => h) (fun _ h => h) (fun x2 u8 t8 H locs ht _ _ hB _ _ hS => ?_)
  obtain ⟨L, hP, hD, hSh⟩ := hB
  rw [ht] at hP
  clear ht
  refine lv_i2l hx hb d_La_feed_12 rfl ?_
  refine lv_topl (fun y3 _ => ?_)
  obtain ⟨f5, he4⟩ := rd_O0 hSh
  refine aw_lstI hx hb hK hP hD hS 84 1 he4 rfl (k := 0) (by omega) (by decide) d_La_feed_13 (wr_O0 hSh _) (fun H locs L hP hD hSh hS => ?_)
  refine lv_goto (tgt := 29) hx hb d_La_feed_14 (by decide) ?_
  refine lv_iconst (v := nI 0) hx hb d_La_feed_29 (by decide +kernel) ?_
  refine W.widen (k := 1) (n := 6) (Nat.le_of_ble_eq_true rfl) (Nat.le_of_ble_eq_true rfl) ?_
  exact W.iret hx hb hr (fun t ht hW => ⟨⟨_, (), rfl, trivial, aw_Hr ht hP hD hSh⟩, hS.F ht⟩) hS.2.2 d_La_feed_30
abbrev ws_La_feed18 : List Cond := Cond.codeWith y_La_feed b_La_feed 7 (some .int) [((0 : Nat), (14 : Nat), (17 : Nat), (13 : Nat)), ((0 : Nat), (14 : Nat), (21 : Nat), (17 : Nat)), ((0 : Nat), (14 : Nat), (25 : Nat), (15 : Nat))] :: aw_G
abbrev rm_La_feed18 : Room := { frames := 8, cells := 1, slots := 6, locals := 178 }
set_option maxHeartbeats 4000000 in
set_option maxRecDepth 100000 in
theorem k_La_feed18 (l : Launch) (hst : l.stackTraces = false) (D : va_G) (g : Nat → ClassId) (ad : Nat → Nat) (G M : Nat → Nat × Nat) (F : Int32) (N0 : Nat) (j : Nat) (bk : Int32) (k : Nat) (mm : Nat) (hj : j < 4) (h0 : 0 < mm) (hk : k + 8 * mm ≤ 64) (hs : (G j).1 = 3) (hm : (G j).2 ≤ 1) : Met l y_La_feed ws_La_feed18 rm_La_feed18 (va_Pc ([.ref (aw_r ad 0), .int (nI j), .int bk, .int (nI k), .int (nI (8 * mm)), .ref (aw_o ad)] : List Value) (aw_B D g ad G M F N0)) (va_Qi (fun r (_ : Unit) => True) (fun (_ : Unit) t => aw_H D g ad G M F N0 t.heap) (aw_Z N0)) 1 6 (aw_Z N0) := by
  refine va_MetW (cc := b_La_feed) (maxL := 7) (ret := (some .int)) (hh := [((0 : Nat), (14 : Nat), (17 : Nat), (13 : Nat)), ((0 : Nat), (14 : Nat), (21 : Nat), (17 : Nat)), ((0 : Nat), (14 : Nat), (25 : Nat), (15 : Nat))]) (by decide) rfl ?_
  intro p e s m args below meth c s₁ B hml hv
  obtain ⟨rfl, ⟨L, hP, hD, hSh⟩, hU⟩ := hv
  have hx := B.exec
  have hb := B.bytes
  have hr := B.returns
  have hG : ∀ w ∈ aw_G, w.before _ s = true := fun w h => atoms_spec (ws := ws_La_feed18) B.pre w (List.mem_cons_of_mem _ h)
  have htab : c.exceptionTable.toList = tableOf [((0 : Nat), (14 : Nat), (17 : Nat), (13 : Nat)), ((0 : Nat), (14 : Nat), (21 : Nat), (17 : Nat)), ((0 : Nat), (14 : Nat), (25 : Nat), (15 : Nat))] := vx_table (x := y_La_feed) B (atoms_spec (ws := ws_La_feed18) B.pre _ List.mem_cons_self)
  have hown : s.vm.findClass "RuleCiphersLaw" = some m.cls := findClass_of_methodNamed B.named
  have hlocks := B.notSynchronized
  have hE := hU.1
  have hK := hE.1
  have hN := hE.2.1
  have hS : va_S (aw_Z N0) s.heap s.heap [] := va_S.rf
  have hl := lv_entry ([.ref (aw_r ad 0), .int (nI j), .int bk, .int (nI k), .int (nI (8 * mm)), .ref (aw_o ad)] : List Value) (n := 7) (Nat.le_of_ble_eq_true rfl)
  rw [lg_entry_eq]
  generalize (lg_sl ([.ref (aw_r ad 0), .int (nI j), .int bk, .int (nI k), .int (nI (8 * mm)), .ref (aw_o ad)] : List Value) ++ List.replicate (7 - (lg_sl ([.ref (aw_r ad 0), .int (nI j), .int bk, .int (nI k), .int (nI (8 * mm)), .ref (aw_o ad)] : List Value)).length) Slot.unset).toArray = ls at hl ⊢
  have hl : lv_has ls 7 [(0, .ref (aw_r ad 0)), (1, .int (nI j)), (2, .int bk), (3, .int (nI k)), (4, .int (nI (8 * mm))), (5, .ref (aw_o ad))] := hl
  refine lv_aload hx hb d_La_feed_0 (lv_at hl 5 rfl) ?_
  refine lv_iconst (v := nI 0) hx hb d_La_feed_2 (by decide +kernel) ?_
  refine lv_aload_n hx hb d_La_feed_3 rfl (lv_at hl 0 rfl) ?_
  refine lv_iload_n hx hb d_La_feed_4 rfl (lv_at hl 1 rfl) ?_
  refine lv_iload_n hx hb d_La_feed_5 rfl (lv_at hl 2 rfl) ?_
  refine lv_iload_n hx hb d_La_feed_6 rfl (lv_at hl 3 rfl) ?_
  refine lv_iload hx hb d_La_feed_7 (lv_at hl 4 rfl) ?_
  have he1 := rd_R0 hSh
  refine va_calli (va_runV (As := [.int (nI j), .int bk, .int (nI k), .int (nI (8 * mm))]) (rest := [.int (nI 0), .ref (aw_o ad)]) ⟨hx, hb, hml, hown, hG⟩ (k_Ru_feed18 l D g ad G M F N0 j bk k mm hj h0 hk hs hm) (aw_wV 4 hG gw_7_46 gw_7_43 gw_0_1 gw_7_44 gw_7_45 rfl rfl hd_Ru_feed ⟨Nat.le_of_ble_eq_true rfl, Nat.le_of_ble_eq_true rfl⟩) (aw_qV (va_recv hK hP rfl he1) hP hD hSh hU hS) rfl rfl hl.1 rfl (lv_room (Nat.le_of_ble_eq_true rfl)) d_La_feed_9 ⟨Nat.le_of_ble_eq_true rfl, Nat.le_of_ble_eq_true rfl⟩) hS (fun _ _ h => h) (fun _ h => h) (fun x2 u8 t8 H locs ht _ _ hB _ _ hS => ?_)
  obtain ⟨L, hP, hD, hSh⟩ := hB
  rw [ht] at hP
  clear ht
  refine lv_i2l hx hb d_La_feed_12 rfl ?_
  refine lv_topl (fun y3 _ => ?_)
  obtain ⟨f5, he4⟩ := rd_O0 hSh
  refine aw_lstI hx hb hK hP hD hS 84 1 he4 rfl (k := 0) (by omega) (by decide) d_La_feed_13 (wr_O0 hSh _) (fun H locs L hP hD hSh hS => ?_)
  refine lv_goto (tgt := 29) hx hb d_La_feed_14 (by decide) ?_
  refine lv_iconst (v := nI 0) hx hb d_La_feed_29 (by decide +kernel) ?_
  refine W.widen (k := 1) (n := 6) (Nat.le_of_ble_eq_true rfl) (Nat.le_of_ble_eq_true rfl) ?_
  exact W.iret hx hb hr (fun t ht hW => ⟨⟨_, (), rfl, trivial, aw_Hr ht hP hD hSh⟩, hS.F ht⟩) hS.2.2 d_La_feed_30
abbrev ws_La_take10 : List Cond := Cond.codeWith y_La_take b_La_take 6 (some .int) [((0 : Nat), (12 : Nat), (15 : Nat), (13 : Nat)), ((0 : Nat), (12 : Nat), (19 : Nat), (17 : Nat))] :: aw_G
abbrev rm_La_take10 : Room := { frames := 8, cells := 1, slots := 6, locals := 173 }
set_option maxHeartbeats 4000000 in
set_option maxRecDepth 100000 in
theorem k_La_take10 (l : Launch) (hst : l.stackTraces = false) (D : va_G) (g : Nat → ClassId) (ad : Nat → Nat) (G M : Nat → Nat × Nat) (F : Int32) (N0 : Nat) (j : Nat) (fr : Int32) (hj : j < 4) (hs : (G j).1 = 3 ∧ (G j).2 = 5) : Met l y_La_take ws_La_take10 rm_La_take10 (va_Pc ([.ref (aw_r ad 0), .int (nI j), .int fr, .int (nI 0), .ref (aw_o ad)] : List Value) (aw_B D g ad G M F N0)) (va_Qi (fun r (_ : Unit) => True) (fun (_ : Unit) t => aw_H D g ad G M F N0 t.heap) (aw_Z N0)) 1 6 (aw_Z N0) := by
  refine va_MetW (cc := b_La_take) (maxL := 6) (ret := (some .int)) (hh := [((0 : Nat), (12 : Nat), (15 : Nat), (13 : Nat)), ((0 : Nat), (12 : Nat), (19 : Nat), (17 : Nat))]) (by decide) rfl ?_
  intro p e s m args below meth c s₁ B hml hv
  obtain ⟨rfl, ⟨L, hP, hD, hSh⟩, hU⟩ := hv
  have hx := B.exec
  have hb := B.bytes
  have hr := B.returns
  have hG : ∀ w ∈ aw_G, w.before _ s = true := fun w h => atoms_spec (ws := ws_La_take10) B.pre w (List.mem_cons_of_mem _ h)
  have htab : c.exceptionTable.toList = tableOf [((0 : Nat), (12 : Nat), (15 : Nat), (13 : Nat)), ((0 : Nat), (12 : Nat), (19 : Nat), (17 : Nat))] := vx_table (x := y_La_take) B (atoms_spec (ws := ws_La_take10) B.pre _ List.mem_cons_self)
  have hown : s.vm.findClass "RuleCiphersLaw" = some m.cls := findClass_of_methodNamed B.named
  have hlocks := B.notSynchronized
  have hE := hU.1
  have hK := hE.1
  have hN := hE.2.1
  have hS : va_S (aw_Z N0) s.heap s.heap [] := va_S.rf
  have hl := lv_entry ([.ref (aw_r ad 0), .int (nI j), .int fr, .int (nI 0), .ref (aw_o ad)] : List Value) (n := 6) (Nat.le_of_ble_eq_true rfl)
  rw [lg_entry_eq]
  generalize (lg_sl ([.ref (aw_r ad 0), .int (nI j), .int fr, .int (nI 0), .ref (aw_o ad)] : List Value) ++ List.replicate (6 - (lg_sl ([.ref (aw_r ad 0), .int (nI j), .int fr, .int (nI 0), .ref (aw_o ad)] : List Value)).length) Slot.unset).toArray = ls at hl ⊢
  have hl : lv_has ls 6 [(0, .ref (aw_r ad 0)), (1, .int (nI j)), (2, .int fr), (3, .int (nI 0)), (4, .ref (aw_o ad))] := hl
  refine lv_aload hx hb d_La_take_0 (lv_at hl 4 rfl) ?_
  refine lv_iconst (v := nI 0) hx hb d_La_take_2 (by decide +kernel) ?_
  refine lv_aload_n hx hb d_La_take_3 rfl (lv_at hl 0 rfl) ?_
  refine lv_iload_n hx hb d_La_take_4 rfl (lv_at hl 1 rfl) ?_
  refine lv_iload_n hx hb d_La_take_5 rfl (lv_at hl 2 rfl) ?_
  refine lv_iload_n hx hb d_La_take_6 rfl (lv_at hl 3 rfl) ?_
  have he1 := rd_R0 hSh
  refine va_calli (va_runV (As := [.int (nI j), .int fr, .int (nI 0)]) (rest := [.int (nI 0), .ref (aw_o ad)]) ⟨hx, hb, hml, hown, hG⟩ (k_Ru_take10 l D g ad G M F N0 j fr hj hs) (aw_wV 3 hG gw_8_44 gw_8_41 gw_0_1 gw_8_42 gw_8_43 rfl rfl hd_Ru_take ⟨Nat.le_of_ble_eq_true rfl, Nat.le_of_ble_eq_true rfl⟩) (aw_qV (va_recv hK hP rfl he1) hP hD hSh hU hS) rfl rfl hl.1 rfl (lv_room (Nat.le_of_ble_eq_true rfl)) d_La_take_7 ⟨Nat.le_of_ble_eq_true rfl, Nat.le_of_ble_eq_true rfl⟩) hS (fun _ _ h => h) (fun _ h => h) (fun x2 u8 t8 H locs ht _ _ hB _ _ hS => ?_)
  obtain ⟨L, hP, hD, hSh⟩ := hB
  rw [ht] at hP
  clear ht
  refine lv_i2l hx hb d_La_take_10 rfl ?_
  refine lv_topl (fun y3 _ => ?_)
  obtain ⟨f5, he4⟩ := rd_O0 hSh
  refine aw_lstI hx hb hK hP hD hS 84 1 he4 rfl (k := 0) (by omega) (by decide) d_La_take_11 (wr_O0 hSh _) (fun H locs L hP hD hSh hS => ?_)
  refine lv_goto (tgt := 23) hx hb d_La_take_12 (by decide) ?_
  refine lv_iconst (v := nI 0) hx hb d_La_take_23 (by decide +kernel) ?_
  refine W.widen (k := 1) (n := 6) (Nat.le_of_ble_eq_true rfl) (Nat.le_of_ble_eq_true rfl) ?_
  exact W.iret hx hb hr (fun t ht hW => ⟨⟨_, (), rfl, trivial, aw_Hr ht hP hD hSh⟩, hS.F ht⟩) hS.2.2 d_La_take_24
abbrev ws_La_take11 : List Cond := Cond.codeWith y_La_take b_La_take 6 (some .int) [((0 : Nat), (12 : Nat), (15 : Nat), (13 : Nat)), ((0 : Nat), (12 : Nat), (19 : Nat), (17 : Nat))] :: aw_G
abbrev rm_La_take11 : Room := { frames := 8, cells := 1, slots := 6, locals := 173 }
set_option maxHeartbeats 4000000 in
set_option maxRecDepth 100000 in
theorem k_La_take11 (l : Launch) (hst : l.stackTraces = false) (D : va_G) (g : Nat → ClassId) (ad : Nat → Nat) (G M : Nat → Nat × Nat) (F : Int32) (N0 : Nat) (j : Nat) (k : Nat) (mm : Nat) (hj : j < 4) (h0 : 0 < mm) (hk : k + mm ≤ 64) (hs : (G j).1 = 3 ∧ (G j).2 = 5) : Met l y_La_take ws_La_take11 rm_La_take11 (va_Pc ([.ref (aw_r ad 0), .int (nI j), .int (nI k), .int (nI mm), .ref (aw_o ad)] : List Value) (aw_B D g ad G M F N0)) (va_Qi (fun r (_ : Unit) => True) (fun (_ : Unit) t => aw_H D g ad G M F N0 t.heap) (aw_Z N0)) 1 6 (aw_Z N0) := by
  refine va_MetW (cc := b_La_take) (maxL := 6) (ret := (some .int)) (hh := [((0 : Nat), (12 : Nat), (15 : Nat), (13 : Nat)), ((0 : Nat), (12 : Nat), (19 : Nat), (17 : Nat))]) (by decide) rfl ?_
  intro p e s m args below meth c s₁ B hml hv
  obtain ⟨rfl, ⟨L, hP, hD, hSh⟩, hU⟩ := hv
  have hx := B.exec
  have hb := B.bytes
  have hr := B.returns
  have hG : ∀ w ∈ aw_G, w.before _ s = true := fun w h => atoms_spec (ws := ws_La_take11) B.pre w (List.mem_cons_of_mem _ h)
  have htab : c.exceptionTable.toList = tableOf [((0 : Nat), (12 : Nat), (15 : Nat), (13 : Nat)), ((0 : Nat), (12 : Nat), (19 : Nat), (17 : Nat))] := vx_table (x := y_La_take) B (atoms_spec (ws := ws_La_take11) B.pre _ List.mem_cons_self)
  have hown : s.vm.findClass "RuleCiphersLaw" = some m.cls := findClass_of_methodNamed B.named
  have hlocks := B.notSynchronized
  have hE := hU.1
  have hK := hE.1
  have hN := hE.2.1
  have hS : va_S (aw_Z N0) s.heap s.heap [] := va_S.rf
  have hl := lv_entry ([.ref (aw_r ad 0), .int (nI j), .int (nI k), .int (nI mm), .ref (aw_o ad)] : List Value) (n := 6) (Nat.le_of_ble_eq_true rfl)
  rw [lg_entry_eq]
  generalize (lg_sl ([.ref (aw_r ad 0), .int (nI j), .int (nI k), .int (nI mm), .ref (aw_o ad)] : List Value) ++ List.replicate (6 - (lg_sl ([.ref (aw_r ad 0), .int (nI j), .int (nI k), .int (nI mm), .ref (aw_o ad)] : List Value)).length) Slot.unset).toArray = ls at hl ⊢
  have hl : lv_has ls 6 [(0, .ref (aw_r ad 0)), (1, .int (nI j)), (2, .int (nI k)), (3, .int (nI mm)), (4, .ref (aw_o ad))] := hl
  refine lv_aload hx hb d_La_take_0 (lv_at hl 4 rfl) ?_
  refine lv_iconst (v := nI 0) hx hb d_La_take_2 (by decide +kernel) ?_
  refine lv_aload_n hx hb d_La_take_3 rfl (lv_at hl 0 rfl) ?_
  refine lv_iload_n hx hb d_La_take_4 rfl (lv_at hl 1 rfl) ?_
  refine lv_iload_n hx hb d_La_take_5 rfl (lv_at hl 2 rfl) ?_
  refine lv_iload_n hx hb d_La_take_6 rfl (lv_at hl 3 rfl) ?_
  have he1 := rd_R0 hSh
  refine va_calli (va_runV (As := [.int (nI j), .int (nI k), .int (nI mm)]) (rest := [.int (nI 0), .ref (aw_o ad)]) ⟨hx, hb, hml, hown, hG⟩ (k_Ru_take11 l D g ad G M F N0 j k mm hj h0 hk hs) (aw_wV 3 hG gw_8_44 gw_8_41 gw_0_1 gw_8_42 gw_8_43 rfl rfl hd_Ru_take ⟨Nat.le_of_ble_eq_true rfl, Nat.le_of_ble_eq_true rfl⟩) (aw_qV (va_recv hK hP rfl he1) hP hD hSh hU hS) rfl rfl hl.1 rfl (lv_room (Nat.le_of_ble_eq_true rfl)) d_La_take_7 ⟨Nat.le_of_ble_eq_true rfl, Nat.le_of_ble_eq_true rfl⟩) hS (fun _ _ h => h) (fun _ h => h) (fun x2 u8 t8 H locs ht _ _ hB _ _ hS => ?_)
  obtain ⟨L, hP, hD, hSh⟩ := hB
  rw [ht] at hP
  clear ht
  refine lv_i2l hx hb d_La_take_10 rfl ?_
  refine lv_topl (fun y3 _ => ?_)
  obtain ⟨f5, he4⟩ := rd_O0 hSh
  refine aw_lstI hx hb hK hP hD hS 84 1 he4 rfl (k := 0) (by omega) (by decide) d_La_take_11 (wr_O0 hSh _) (fun H locs L hP hD hSh hS => ?_)
  refine lv_goto (tgt := 23) hx hb d_La_take_12 (by decide) ?_
  refine lv_iconst (v := nI 0) hx hb d_La_take_23 (by decide +kernel) ?_
  refine W.widen (k := 1) (n := 6) (Nat.le_of_ble_eq_true rfl) (Nat.le_of_ble_eq_true rfl) ?_
  exact W.iret hx hb hr (fun t ht hW => ⟨⟨_, (), rfl, trivial, aw_Hr ht hP hD hSh⟩, hS.F ht⟩) hS.2.2 d_La_take_24
abbrev ws_La_takeXc : List Cond := Cond.codeWith y_La_take b_La_take 6 (some .int) [((0 : Nat), (12 : Nat), (15 : Nat), (13 : Nat)), ((0 : Nat), (12 : Nat), (19 : Nat), (17 : Nat))] :: aw_G
abbrev rm_La_takeXc : Room := { frames := 8, cells := 1, slots := 6, locals := 173 }
set_option maxHeartbeats 4000000 in
set_option maxRecDepth 100000 in
theorem k_La_takeXc (l : Launch) (hst : l.stackTraces = false) (D : va_G) (g : Nat → ClassId) (ad : Nat → Nat) (G M : Nat → Nat × Nat) (F : Int32) (N0 : Nat) (c0 : Int32) (fr : Int32) (m0 : Int32) (hc : c0 < 0 ∨ (¬ c0 < 0 ∧ ¬ c0 < nI 4)) : Met l y_La_take ws_La_takeXc rm_La_takeXc (va_Pc ([.ref (aw_r ad 0), .int c0, .int fr, .int m0, .ref (aw_o ad)] : List Value) (aw_B D g ad G M F N0)) (va_Qi (fun r (_ : Unit) => True) (fun (_ : Unit) t => aw_H D g ad G M F N0 t.heap) (aw_Z N0)) 1 6 (aw_Z N0) := by
  refine va_MetW (cc := b_La_take) (maxL := 6) (ret := (some .int)) (hh := [((0 : Nat), (12 : Nat), (15 : Nat), (13 : Nat)), ((0 : Nat), (12 : Nat), (19 : Nat), (17 : Nat))]) (by decide) rfl ?_
  intro p e s m args below meth c s₁ B hml hv
  obtain ⟨rfl, ⟨L, hP, hD, hSh⟩, hU⟩ := hv
  have hx := B.exec
  have hb := B.bytes
  have hr := B.returns
  have hG : ∀ w ∈ aw_G, w.before _ s = true := fun w h => atoms_spec (ws := ws_La_takeXc) B.pre w (List.mem_cons_of_mem _ h)
  have htab : c.exceptionTable.toList = tableOf [((0 : Nat), (12 : Nat), (15 : Nat), (13 : Nat)), ((0 : Nat), (12 : Nat), (19 : Nat), (17 : Nat))] := vx_table (x := y_La_take) B (atoms_spec (ws := ws_La_takeXc) B.pre _ List.mem_cons_self)
  have hown : s.vm.findClass "RuleCiphersLaw" = some m.cls := findClass_of_methodNamed B.named
  have hlocks := B.notSynchronized
  have hE := hU.1
  have hK := hE.1
  have hN := hE.2.1
  have hS : va_S (aw_Z N0) s.heap s.heap [] := va_S.rf
  have hl := lv_entry ([.ref (aw_r ad 0), .int c0, .int fr, .int m0, .ref (aw_o ad)] : List Value) (n := 6) (Nat.le_of_ble_eq_true rfl)
  rw [lg_entry_eq]
  generalize (lg_sl ([.ref (aw_r ad 0), .int c0, .int fr, .int m0, .ref (aw_o ad)] : List Value) ++ List.replicate (6 - (lg_sl ([.ref (aw_r ad 0), .int c0, .int fr, .int m0, .ref (aw_o ad)] : List Value)).length) Slot.unset).toArray = ls at hl ⊢
  have hl : lv_has ls 6 [(0, .ref (aw_r ad 0)), (1, .int c0), (2, .int fr), (3, .int m0), (4, .ref (aw_o ad))] := hl
  refine lv_aload hx hb d_La_take_0 (lv_at hl 4 rfl) ?_
  refine lv_iconst (v := nI 0) hx hb d_La_take_2 (by decide +kernel) ?_
  refine lv_aload_n hx hb d_La_take_3 rfl (lv_at hl 0 rfl) ?_
  refine lv_iload_n hx hb d_La_take_4 rfl (lv_at hl 1 rfl) ?_
  refine lv_iload_n hx hb d_La_take_5 rfl (lv_at hl 2 rfl) ?_
  refine lv_iload_n hx hb d_La_take_6 rfl (lv_at hl 3 rfl) ?_
  have he1 := rd_R0 hSh
  refine vx_callv (vx_runV (As := [.int c0, .int fr, .int m0]) (rest := [.int (nI 0), .ref (aw_o ad)]) ⟨hx, hb, hml, hown, hG⟩ (k_Ru_takeXc l hst D g ad G M F N0 c0 fr m0 hc) (aw_wV 3 hG gw_8_44 gw_8_41 gw_0_1 gw_8_42 gw_8_43 rfl rfl hd_Ru_take ⟨Nat.le_of_ble_eq_true rfl, Nat.le_of_ble_eq_true rfl⟩) (aw_qV (va_recv hK hP rfl he1) hP hD hSh hU hS) rfl rfl hl.1 rfl (lv_room (Nat.le_of_ble_eq_true rfl)) d_La_take_7 ⟨Nat.le_of_ble_eq_true rfl, Nat.le_of_ble_eq_true rfl⟩) hS (fun _ _ h => h) (fun _ h => h) (fun _ _ h => h) (fun E ce q9 u t H locs ht _ _ hBX _ _ hS hce hcv hcl => ?_) (fun u t H locs _ _ hF _ _ _ _ => hF.elim)
  obtain ⟨rfl, L, hP, hD, hSh⟩ := hBX
  rw [ht] at hP
  refine vx_catch hown [] ⟨0, 12, 15, 13⟩ [⟨0, 12, 19, 17⟩] htab aw_ps0 (by decide) (by decide) (hG _ gw_2_38) (va_Nw.use rfl (hN _ nw_2)) hce hcv hcl ?_
  refine W.eq (g2 := F0 m 15 ls [.ref q9]) rfl ?_
  refine lv_astore hx hb d_La_take_15 hl (by decide) rfl (fun ls hl => ?_)
  have hl : lv_has ls 6 [(5, .ref q9), (0, .ref (aw_r ad 0)), (1, .int c0), (2, .int fr), (3, .int m0), (4, .ref (aw_o ad))] := hl
  refine lv_iconst (v := nI 1) hx hb d_La_take_17 (by decide +kernel) ?_
  exact W.iret hx hb hr (fun t ht hW => ⟨⟨_, (), rfl, trivial, aw_Hr ht hP hD hSh⟩, hS.F ht⟩) hS.2.2 d_La_take_18
abbrev ws_La_takeXb : List Cond := Cond.codeWith y_La_take b_La_take 6 (some .int) [((0 : Nat), (12 : Nat), (15 : Nat), (13 : Nat)), ((0 : Nat), (12 : Nat), (19 : Nat), (17 : Nat))] :: aw_G
abbrev rm_La_takeXb : Room := { frames := 8, cells := 1, slots := 6, locals := 173 }
set_option maxHeartbeats 4000000 in
set_option maxRecDepth 100000 in
theorem k_La_takeXb (l : Launch) (hst : l.stackTraces = false) (D : va_G) (g : Nat → ClassId) (ad : Nat → Nat) (G M : Nat → Nat × Nat) (F : Int32) (N0 : Nat) (j : Nat) (fr : Int32) (m0 : Int32) (hj : j < 4) (hi : m0 < 0 ∨ (0 < m0 ∧ fr < 0) ∨ (0 < m0 ∧ ¬ fr < 0 ∧ nI 64 - fr < m0)) : Met l y_La_take ws_La_takeXb rm_La_takeXb (va_Pc ([.ref (aw_r ad 0), .int (nI j), .int fr, .int m0, .ref (aw_o ad)] : List Value) (aw_B D g ad G M F N0)) (va_Qi (fun r (_ : Unit) => True) (fun (_ : Unit) t => aw_H D g ad G M F N0 t.heap) (aw_Z N0)) 1 6 (aw_Z N0) := by
  refine va_MetW (cc := b_La_take) (maxL := 6) (ret := (some .int)) (hh := [((0 : Nat), (12 : Nat), (15 : Nat), (13 : Nat)), ((0 : Nat), (12 : Nat), (19 : Nat), (17 : Nat))]) (by decide) rfl ?_
  intro p e s m args below meth c s₁ B hml hv
  obtain ⟨rfl, ⟨L, hP, hD, hSh⟩, hU⟩ := hv
  have hx := B.exec
  have hb := B.bytes
  have hr := B.returns
  have hG : ∀ w ∈ aw_G, w.before _ s = true := fun w h => atoms_spec (ws := ws_La_takeXb) B.pre w (List.mem_cons_of_mem _ h)
  have htab : c.exceptionTable.toList = tableOf [((0 : Nat), (12 : Nat), (15 : Nat), (13 : Nat)), ((0 : Nat), (12 : Nat), (19 : Nat), (17 : Nat))] := vx_table (x := y_La_take) B (atoms_spec (ws := ws_La_takeXb) B.pre _ List.mem_cons_self)
  have hown : s.vm.findClass "RuleCiphersLaw" = some m.cls := findClass_of_methodNamed B.named
  have hlocks := B.notSynchronized
  have hE := hU.1
  have hK := hE.1
  have hN := hE.2.1
  have hS : va_S (aw_Z N0) s.heap s.heap [] := va_S.rf
  have hl := lv_entry ([.ref (aw_r ad 0), .int (nI j), .int fr, .int m0, .ref (aw_o ad)] : List Value) (n := 6) (Nat.le_of_ble_eq_true rfl)
  rw [lg_entry_eq]
  generalize (lg_sl ([.ref (aw_r ad 0), .int (nI j), .int fr, .int m0, .ref (aw_o ad)] : List Value) ++ List.replicate (6 - (lg_sl ([.ref (aw_r ad 0), .int (nI j), .int fr, .int m0, .ref (aw_o ad)] : List Value)).length) Slot.unset).toArray = ls at hl ⊢
  have hl : lv_has ls 6 [(0, .ref (aw_r ad 0)), (1, .int (nI j)), (2, .int fr), (3, .int m0), (4, .ref (aw_o ad))] := hl
  refine lv_aload hx hb d_La_take_0 (lv_at hl 4 rfl) ?_
  refine lv_iconst (v := nI 0) hx hb d_La_take_2 (by decide +kernel) ?_
  refine lv_aload_n hx hb d_La_take_3 rfl (lv_at hl 0 rfl) ?_
  refine lv_iload_n hx hb d_La_take_4 rfl (lv_at hl 1 rfl) ?_
  refine lv_iload_n hx hb d_La_take_5 rfl (lv_at hl 2 rfl) ?_
  refine lv_iload_n hx hb d_La_take_6 rfl (lv_at hl 3 rfl) ?_
  have he1 := rd_R0 hSh
  refine vx_callv (vx_runV (As := [.int (nI j), .int fr, .int m0]) (rest := [.int (nI 0), .ref (aw_o ad)]) ⟨hx, hb, hml, hown, hG⟩ (k_Ru_takeXb l hst D g ad G M F N0 j fr m0 hj hi) (aw_wV 3 hG gw_8_44 gw_8_41 gw_0_1 gw_8_42 gw_8_43 rfl rfl hd_Ru_take ⟨Nat.le_of_ble_eq_true rfl, Nat.le_of_ble_eq_true rfl⟩) (aw_qV (va_recv hK hP rfl he1) hP hD hSh hU hS) rfl rfl hl.1 rfl (lv_room (Nat.le_of_ble_eq_true rfl)) d_La_take_7 ⟨Nat.le_of_ble_eq_true rfl, Nat.le_of_ble_eq_true rfl⟩) hS (fun _ _ h => h) (fun _ h => h) (fun _ _ h => h) (fun E ce q9 u t H locs ht _ _ hBX _ _ hS hce hcv hcl => ?_) (fun u t H locs _ _ hF _ _ _ _ => hF.elim)
  obtain ⟨rfl, L, hP, hD, hSh⟩ := hBX
  rw [ht] at hP
  refine vx_catch hown [] ⟨0, 12, 15, 13⟩ [⟨0, 12, 19, 17⟩] htab aw_ps0 (by decide) (by decide) (hG _ gw_2_38) (va_Nw.use rfl (hN _ nw_2)) hce hcv hcl ?_
  refine W.eq (g2 := F0 m 15 ls [.ref q9]) rfl ?_
  refine lv_astore hx hb d_La_take_15 hl (by decide) rfl (fun ls hl => ?_)
  have hl : lv_has ls 6 [(5, .ref q9), (0, .ref (aw_r ad 0)), (1, .int (nI j)), (2, .int fr), (3, .int m0), (4, .ref (aw_o ad))] := hl
  refine lv_iconst (v := nI 1) hx hb d_La_take_17 (by decide +kernel) ?_
  exact W.iret hx hb hr (fun t ht hW => ⟨⟨_, (), rfl, trivial, aw_Hr ht hP hD hSh⟩, hS.F ht⟩) hS.2.2 d_La_take_18
abbrev ws_La_takeXs0 : List Cond := Cond.codeWith y_La_take b_La_take 6 (some .int) [((0 : Nat), (12 : Nat), (15 : Nat), (13 : Nat)), ((0 : Nat), (12 : Nat), (19 : Nat), (17 : Nat))] :: aw_G
abbrev rm_La_takeXs0 : Room := { frames := 8, cells := 1, slots := 6, locals := 173 }
set_option maxHeartbeats 4000000 in
set_option maxRecDepth 100000 in
theorem k_La_takeXs0 (l : Launch) (hst : l.stackTraces = false) (D : va_G) (g : Nat → ClassId) (ad : Nat → Nat) (G M : Nat → Nat × Nat) (F : Int32) (N0 : Nat) (j : Nat) (fr : Int32) (hj : j < 4) (hs : (G j).1 ≤ 2 ∨ ((G j).1 = 3 ∧ (G j).2 ≠ 5)) : Met l y_La_take ws_La_takeXs0 rm_La_takeXs0 (va_Pc ([.ref (aw_r ad 0), .int (nI j), .int fr, .int (nI 0), .ref (aw_o ad)] : List Value) (aw_B D g ad G M F N0)) (va_Qi (fun r (_ : Unit) => True) (fun (_ : Unit) t => aw_H D g ad G M F N0 t.heap) (aw_Z N0)) 1 6 (aw_Z N0) := by
  refine va_MetW (cc := b_La_take) (maxL := 6) (ret := (some .int)) (hh := [((0 : Nat), (12 : Nat), (15 : Nat), (13 : Nat)), ((0 : Nat), (12 : Nat), (19 : Nat), (17 : Nat))]) (by decide) rfl ?_
  intro p e s m args below meth c s₁ B hml hv
  obtain ⟨rfl, ⟨L, hP, hD, hSh⟩, hU⟩ := hv
  have hx := B.exec
  have hb := B.bytes
  have hr := B.returns
  have hG : ∀ w ∈ aw_G, w.before _ s = true := fun w h => atoms_spec (ws := ws_La_takeXs0) B.pre w (List.mem_cons_of_mem _ h)
  have htab : c.exceptionTable.toList = tableOf [((0 : Nat), (12 : Nat), (15 : Nat), (13 : Nat)), ((0 : Nat), (12 : Nat), (19 : Nat), (17 : Nat))] := vx_table (x := y_La_take) B (atoms_spec (ws := ws_La_takeXs0) B.pre _ List.mem_cons_self)
  have hown : s.vm.findClass "RuleCiphersLaw" = some m.cls := findClass_of_methodNamed B.named
  have hlocks := B.notSynchronized
  have hE := hU.1
  have hK := hE.1
  have hN := hE.2.1
  have hS : va_S (aw_Z N0) s.heap s.heap [] := va_S.rf
  have hl := lv_entry ([.ref (aw_r ad 0), .int (nI j), .int fr, .int (nI 0), .ref (aw_o ad)] : List Value) (n := 6) (Nat.le_of_ble_eq_true rfl)
  rw [lg_entry_eq]
  generalize (lg_sl ([.ref (aw_r ad 0), .int (nI j), .int fr, .int (nI 0), .ref (aw_o ad)] : List Value) ++ List.replicate (6 - (lg_sl ([.ref (aw_r ad 0), .int (nI j), .int fr, .int (nI 0), .ref (aw_o ad)] : List Value)).length) Slot.unset).toArray = ls at hl ⊢
  have hl : lv_has ls 6 [(0, .ref (aw_r ad 0)), (1, .int (nI j)), (2, .int fr), (3, .int (nI 0)), (4, .ref (aw_o ad))] := hl
  refine lv_aload hx hb d_La_take_0 (lv_at hl 4 rfl) ?_
  refine lv_iconst (v := nI 0) hx hb d_La_take_2 (by decide +kernel) ?_
  refine lv_aload_n hx hb d_La_take_3 rfl (lv_at hl 0 rfl) ?_
  refine lv_iload_n hx hb d_La_take_4 rfl (lv_at hl 1 rfl) ?_
  refine lv_iload_n hx hb d_La_take_5 rfl (lv_at hl 2 rfl) ?_
  refine lv_iload_n hx hb d_La_take_6 rfl (lv_at hl 3 rfl) ?_
  have he1 := rd_R0 hSh
  refine vx_callv (vx_runV (As := [.int (nI j), .int fr, .int (nI 0)]) (rest := [.int (nI 0), .ref (aw_o ad)]) ⟨hx, hb, hml, hown, hG⟩ (k_Ru_takeXs0 l hst D g ad G M F N0 j fr hj hs) (aw_wV 3 hG gw_8_44 gw_8_41 gw_0_1 gw_8_42 gw_8_43 rfl rfl hd_Ru_take ⟨Nat.le_of_ble_eq_true rfl, Nat.le_of_ble_eq_true rfl⟩) (aw_qV (va_recv hK hP rfl he1) hP hD hSh hU hS) rfl rfl hl.1 rfl (lv_room (Nat.le_of_ble_eq_true rfl)) d_La_take_7 ⟨Nat.le_of_ble_eq_true rfl, Nat.le_of_ble_eq_true rfl⟩) hS (fun _ _ h => h) (fun _ h => h) (fun _ _ h => h) (fun E ce q9 u t H locs ht _ _ hBX _ _ hS hce hcv hcl => ?_) (fun u t H locs _ _ hF _ _ _ _ => hF.elim)
  obtain ⟨rfl, L, hP, hD, hSh⟩ := hBX
  rw [ht] at hP
  refine vx_catch hown [⟨0, 12, 15, 13⟩] ⟨0, 12, 19, 17⟩ [] htab (aw_psc (Or.inr ⟨by decide, "java/lang/IndexOutOfBoundsException", hG _ gw_2_38, aw_nc_S_I hE⟩) aw_ps0) (by decide) (by decide) (hG _ gw_2_40) (va_Nw.use rfl (hN _ nw_10)) hce hcv hcl ?_
  refine W.eq (g2 := F0 m 19 ls [.ref q9]) rfl ?_
  refine lv_astore hx hb d_La_take_19 hl (by decide) rfl (fun ls hl => ?_)
  have hl : lv_has ls 6 [(5, .ref q9), (0, .ref (aw_r ad 0)), (1, .int (nI j)), (2, .int fr), (3, .int (nI 0)), (4, .ref (aw_o ad))] := hl
  refine lv_iconst (v := nI 2) hx hb d_La_take_21 (by decide +kernel) ?_
  exact W.iret hx hb hr (fun t ht hW => ⟨⟨_, (), rfl, trivial, aw_Hr ht hP hD hSh⟩, hS.F ht⟩) hS.2.2 d_La_take_22
abbrev ws_La_takeXs1 : List Cond := Cond.codeWith y_La_take b_La_take 6 (some .int) [((0 : Nat), (12 : Nat), (15 : Nat), (13 : Nat)), ((0 : Nat), (12 : Nat), (19 : Nat), (17 : Nat))] :: aw_G
abbrev rm_La_takeXs1 : Room := { frames := 8, cells := 1, slots := 6, locals := 173 }
set_option maxHeartbeats 4000000 in
set_option maxRecDepth 100000 in
theorem k_La_takeXs1 (l : Launch) (hst : l.stackTraces = false) (D : va_G) (g : Nat → ClassId) (ad : Nat → Nat) (G M : Nat → Nat × Nat) (F : Int32) (N0 : Nat) (j : Nat) (k : Nat) (mm : Nat) (hj : j < 4) (h0 : 0 < mm) (hk : k + mm ≤ 64) (hs : (G j).1 ≤ 2 ∨ ((G j).1 = 3 ∧ (G j).2 ≠ 5)) : Met l y_La_take ws_La_takeXs1 rm_La_takeXs1 (va_Pc ([.ref (aw_r ad 0), .int (nI j), .int (nI k), .int (nI mm), .ref (aw_o ad)] : List Value) (aw_B D g ad G M F N0)) (va_Qi (fun r (_ : Unit) => True) (fun (_ : Unit) t => aw_H D g ad G M F N0 t.heap) (aw_Z N0)) 1 6 (aw_Z N0) := by
  refine va_MetW (cc := b_La_take) (maxL := 6) (ret := (some .int)) (hh := [((0 : Nat), (12 : Nat), (15 : Nat), (13 : Nat)), ((0 : Nat), (12 : Nat), (19 : Nat), (17 : Nat))]) (by decide) rfl ?_
  intro p e s m args below meth c s₁ B hml hv
  obtain ⟨rfl, ⟨L, hP, hD, hSh⟩, hU⟩ := hv
  have hx := B.exec
  have hb := B.bytes
  have hr := B.returns
  have hG : ∀ w ∈ aw_G, w.before _ s = true := fun w h => atoms_spec (ws := ws_La_takeXs1) B.pre w (List.mem_cons_of_mem _ h)
  have htab : c.exceptionTable.toList = tableOf [((0 : Nat), (12 : Nat), (15 : Nat), (13 : Nat)), ((0 : Nat), (12 : Nat), (19 : Nat), (17 : Nat))] := vx_table (x := y_La_take) B (atoms_spec (ws := ws_La_takeXs1) B.pre _ List.mem_cons_self)
  have hown : s.vm.findClass "RuleCiphersLaw" = some m.cls := findClass_of_methodNamed B.named
  have hlocks := B.notSynchronized
  have hE := hU.1
  have hK := hE.1
  have hN := hE.2.1
  have hS : va_S (aw_Z N0) s.heap s.heap [] := va_S.rf
  have hl := lv_entry ([.ref (aw_r ad 0), .int (nI j), .int (nI k), .int (nI mm), .ref (aw_o ad)] : List Value) (n := 6) (Nat.le_of_ble_eq_true rfl)
  rw [lg_entry_eq]
  generalize (lg_sl ([.ref (aw_r ad 0), .int (nI j), .int (nI k), .int (nI mm), .ref (aw_o ad)] : List Value) ++ List.replicate (6 - (lg_sl ([.ref (aw_r ad 0), .int (nI j), .int (nI k), .int (nI mm), .ref (aw_o ad)] : List Value)).length) Slot.unset).toArray = ls at hl ⊢
  have hl : lv_has ls 6 [(0, .ref (aw_r ad 0)), (1, .int (nI j)), (2, .int (nI k)), (3, .int (nI mm)), (4, .ref (aw_o ad))] := hl
  refine lv_aload hx hb d_La_take_0 (lv_at hl 4 rfl) ?_
  refine lv_iconst (v := nI 0) hx hb d_La_take_2 (by decide +kernel) ?_
  refine lv_aload_n hx hb d_La_take_3 rfl (lv_at hl 0 rfl) ?_
  refine lv_iload_n hx hb d_La_take_4 rfl (lv_at hl 1 rfl) ?_
  refine lv_iload_n hx hb d_La_take_5 rfl (lv_at hl 2 rfl) ?_
  refine lv_iload_n hx hb d_La_take_6 rfl (lv_at hl 3 rfl) ?_
  have he1 := rd_R0 hSh
  refine vx_callv (vx_runV (As := [.int (nI j), .int (nI k), .int (nI mm)]) (rest := [.int (nI 0), .ref (aw_o ad)]) ⟨hx, hb, hml, hown, hG⟩ (k_Ru_takeXs1 l hst D g ad G M F N0 j k mm hj h0 hk hs) (aw_wV 3 hG gw_8_44 gw_8_41 gw_0_1 gw_8_42 gw_8_43 rfl rfl hd_Ru_take ⟨Nat.le_of_ble_eq_true rfl, Nat.le_of_ble_eq_true rfl⟩) (aw_qV (va_recv hK hP rfl he1) hP hD hSh hU hS) rfl rfl hl.1 rfl (lv_room (Nat.le_of_ble_eq_true rfl)) d_La_take_7 ⟨Nat.le_of_ble_eq_true rfl, Nat.le_of_ble_eq_true rfl⟩) hS (fun _ _ h => h) (fun _ h => h) (fun _ _ h => h) (fun E ce q9 u t H locs ht _ _ hBX _ _ hS hce hcv hcl => ?_) (fun u t H locs _ _ hF _ _ _ _ => hF.elim)
  obtain ⟨rfl, L, hP, hD, hSh⟩ := hBX
  rw [ht] at hP
  refine vx_catch hown [⟨0, 12, 15, 13⟩] ⟨0, 12, 19, 17⟩ [] htab (aw_psc (Or.inr ⟨by decide, "java/lang/IndexOutOfBoundsException", hG _ gw_2_38, aw_nc_S_I hE⟩) aw_ps0) (by decide) (by decide) (hG _ gw_2_40) (va_Nw.use rfl (hN _ nw_10)) hce hcv hcl ?_
  refine W.eq (g2 := F0 m 19 ls [.ref q9]) rfl ?_
  refine lv_astore hx hb d_La_take_19 hl (by decide) rfl (fun ls hl => ?_)
  have hl : lv_has ls 6 [(5, .ref q9), (0, .ref (aw_r ad 0)), (1, .int (nI j)), (2, .int (nI k)), (3, .int (nI mm)), (4, .ref (aw_o ad))] := hl
  refine lv_iconst (v := nI 2) hx hb d_La_take_21 (by decide +kernel) ?_
  exact W.iret hx hb hr (fun t ht hW => ⟨⟨_, (), rfl, trivial, aw_Hr ht hP hD hSh⟩, hS.F ht⟩) hS.2.2 d_La_take_22
abbrev ws_La_tag1 : List Cond := Cond.codeWith y_La_tag b_La_tag 4 (some .int) [((0 : Nat), (8 : Nat), (11 : Nat), (13 : Nat)), ((0 : Nat), (8 : Nat), (14 : Nat), (17 : Nat))] :: aw_G
abbrev rm_La_tag1 : Room := { frames := 8, cells := 1, slots := 6, locals := 148 }
set_option maxHeartbeats 4000000 in
set_option maxRecDepth 100000 in
theorem k_La_tag1 (l : Launch) (hst : l.stackTraces = false) (D : va_G) (g : Nat → ClassId) (ad : Nat → Nat) (G M : Nat → Nat × Nat) (F : Int32) (N0 : Nat) (j : Nat) (hj : j < 4) (hs : (G j).1 = 3 ∧ (G j).2 = 5) : Met l y_La_tag ws_La_tag1 rm_La_tag1 (va_Pc ([.ref (aw_r ad 0), .int (nI j), .ref (aw_o ad)] : List Value) (aw_B D g ad G M F N0)) (va_Qi (fun r (_ : Unit) => True) (fun (_ : Unit) t => aw_H D g ad G M F N0 t.heap) (aw_Z N0)) 1 6 (aw_Z N0) := by
  refine va_MetW (cc := b_La_tag) (maxL := 4) (ret := (some .int)) (hh := [((0 : Nat), (8 : Nat), (11 : Nat), (13 : Nat)), ((0 : Nat), (8 : Nat), (14 : Nat), (17 : Nat))]) (by decide) rfl ?_
  intro p e s m args below meth c s₁ B hml hv
  obtain ⟨rfl, ⟨L, hP, hD, hSh⟩, hU⟩ := hv
  have hx := B.exec
  have hb := B.bytes
  have hr := B.returns
  have hG : ∀ w ∈ aw_G, w.before _ s = true := fun w h => atoms_spec (ws := ws_La_tag1) B.pre w (List.mem_cons_of_mem _ h)
  have htab : c.exceptionTable.toList = tableOf [((0 : Nat), (8 : Nat), (11 : Nat), (13 : Nat)), ((0 : Nat), (8 : Nat), (14 : Nat), (17 : Nat))] := vx_table (x := y_La_tag) B (atoms_spec (ws := ws_La_tag1) B.pre _ List.mem_cons_self)
  have hown : s.vm.findClass "RuleCiphersLaw" = some m.cls := findClass_of_methodNamed B.named
  have hlocks := B.notSynchronized
  have hE := hU.1
  have hK := hE.1
  have hN := hE.2.1
  have hS : va_S (aw_Z N0) s.heap s.heap [] := va_S.rf
  have hl := lv_entry ([.ref (aw_r ad 0), .int (nI j), .ref (aw_o ad)] : List Value) (n := 4) (Nat.le_of_ble_eq_true rfl)
  rw [lg_entry_eq]
  generalize (lg_sl ([.ref (aw_r ad 0), .int (nI j), .ref (aw_o ad)] : List Value) ++ List.replicate (4 - (lg_sl ([.ref (aw_r ad 0), .int (nI j), .ref (aw_o ad)] : List Value)).length) Slot.unset).toArray = ls at hl ⊢
  have hl : lv_has ls 4 [(0, .ref (aw_r ad 0)), (1, .int (nI j)), (2, .ref (aw_o ad))] := hl
  refine lv_aload_n hx hb d_La_tag_0 rfl (lv_at hl 2 rfl) ?_
  refine lv_iconst (v := nI 0) hx hb d_La_tag_1 (by decide +kernel) ?_
  refine lv_aload_n hx hb d_La_tag_2 rfl (lv_at hl 0 rfl) ?_
  refine lv_iload_n hx hb d_La_tag_3 rfl (lv_at hl 1 rfl) ?_
  have he1 := rd_R0 hSh
  refine va_calll (va_runV (As := [.int (nI j)]) (rest := [.int (nI 0), .ref (aw_o ad)]) ⟨hx, hb, hml, hown, hG⟩ (k_Ru_tag1 l D g ad G M F N0 j hj hs) (aw_wV 1 hG gw_9_6 gw_9_3 gw_0_1 gw_9_4 gw_9_5 rfl rfl hd_Ru_tag ⟨Nat.le_of_ble_eq_true rfl, Nat.le_of_ble_eq_true rfl⟩) (aw_qV (va_recv hK hP rfl he1) hP hD hSh hU hS) rfl rfl hl.1 rfl (lv_room (Nat.le_of_ble_eq_true rfl)) d_La_tag_4 ⟨Nat.le_of_ble_eq_true rfl, Nat.le_of_ble_eq_true rfl⟩) hS (fun _ _ h => h) (fun _ h => h) (fun y2 u8 t8 H locs ht _ _ hB _ _ hS => ?_)
  obtain ⟨L, hP, hD, hSh⟩ := hB
  rw [ht] at hP
  clear ht
  obtain ⟨f4, he3⟩ := rd_O0 hSh
  refine aw_lstI hx hb hK hP hD hS 84 1 he3 rfl (k := 0) (by omega) (by decide) d_La_tag_7 (wr_O0 hSh _) (fun H locs L hP hD hSh hS => ?_)
  refine lv_goto (tgt := 17) hx hb d_La_tag_8 (by decide) ?_
  refine lv_iconst (v := nI 0) hx hb d_La_tag_17 (by decide +kernel) ?_
  refine W.widen (k := 1) (n := 6) (Nat.le_of_ble_eq_true rfl) (Nat.le_of_ble_eq_true rfl) ?_
  exact W.iret hx hb hr (fun t ht hW => ⟨⟨_, (), rfl, trivial, aw_Hr ht hP hD hSh⟩, hS.F ht⟩) hS.2.2 d_La_tag_18
abbrev ws_La_tagXc : List Cond := Cond.codeWith y_La_tag b_La_tag 4 (some .int) [((0 : Nat), (8 : Nat), (11 : Nat), (13 : Nat)), ((0 : Nat), (8 : Nat), (14 : Nat), (17 : Nat))] :: aw_G
abbrev rm_La_tagXc : Room := { frames := 8, cells := 1, slots := 6, locals := 148 }
set_option maxHeartbeats 4000000 in
set_option maxRecDepth 100000 in
theorem k_La_tagXc (l : Launch) (hst : l.stackTraces = false) (D : va_G) (g : Nat → ClassId) (ad : Nat → Nat) (G M : Nat → Nat × Nat) (F : Int32) (N0 : Nat) (c0 : Int32) (hc : c0 < 0 ∨ (¬ c0 < 0 ∧ ¬ c0 < nI 4)) : Met l y_La_tag ws_La_tagXc rm_La_tagXc (va_Pc ([.ref (aw_r ad 0), .int c0, .ref (aw_o ad)] : List Value) (aw_B D g ad G M F N0)) (va_Qi (fun r (_ : Unit) => True) (fun (_ : Unit) t => aw_H D g ad G M F N0 t.heap) (aw_Z N0)) 1 6 (aw_Z N0) := by
  refine va_MetW (cc := b_La_tag) (maxL := 4) (ret := (some .int)) (hh := [((0 : Nat), (8 : Nat), (11 : Nat), (13 : Nat)), ((0 : Nat), (8 : Nat), (14 : Nat), (17 : Nat))]) (by decide) rfl ?_
  intro p e s m args below meth c s₁ B hml hv
  obtain ⟨rfl, ⟨L, hP, hD, hSh⟩, hU⟩ := hv
  have hx := B.exec
  have hb := B.bytes
  have hr := B.returns
  have hG : ∀ w ∈ aw_G, w.before _ s = true := fun w h => atoms_spec (ws := ws_La_tagXc) B.pre w (List.mem_cons_of_mem _ h)
  have htab : c.exceptionTable.toList = tableOf [((0 : Nat), (8 : Nat), (11 : Nat), (13 : Nat)), ((0 : Nat), (8 : Nat), (14 : Nat), (17 : Nat))] := vx_table (x := y_La_tag) B (atoms_spec (ws := ws_La_tagXc) B.pre _ List.mem_cons_self)
  have hown : s.vm.findClass "RuleCiphersLaw" = some m.cls := findClass_of_methodNamed B.named
  have hlocks := B.notSynchronized
  have hE := hU.1
  have hK := hE.1
  have hN := hE.2.1
  have hS : va_S (aw_Z N0) s.heap s.heap [] := va_S.rf
  have hl := lv_entry ([.ref (aw_r ad 0), .int c0, .ref (aw_o ad)] : List Value) (n := 4) (Nat.le_of_ble_eq_true rfl)
  rw [lg_entry_eq]
  generalize (lg_sl ([.ref (aw_r ad 0), .int c0, .ref (aw_o ad)] : List Value) ++ List.replicate (4 - (lg_sl ([.ref (aw_r ad 0), .int c0, .ref (aw_o ad)] : List Value)).length) Slot.unset).toArray = ls at hl ⊢
  have hl : lv_has ls 4 [(0, .ref (aw_r ad 0)), (1, .int c0), (2, .ref (aw_o ad))] := hl
  refine lv_aload_n hx hb d_La_tag_0 rfl (lv_at hl 2 rfl) ?_
  refine lv_iconst (v := nI 0) hx hb d_La_tag_1 (by decide +kernel) ?_
  refine lv_aload_n hx hb d_La_tag_2 rfl (lv_at hl 0 rfl) ?_
  refine lv_iload_n hx hb d_La_tag_3 rfl (lv_at hl 1 rfl) ?_
  have he1 := rd_R0 hSh
  refine vx_callv (vx_runV (As := [.int c0]) (rest := [.int (nI 0), .ref (aw_o ad)]) ⟨hx, hb, hml, hown, hG⟩ (k_Ru_tagXc l hst D g ad G M F N0 c0 hc) (aw_wV 1 hG gw_9_6 gw_9_3 gw_0_1 gw_9_4 gw_9_5 rfl rfl hd_Ru_tag ⟨Nat.le_of_ble_eq_true rfl, Nat.le_of_ble_eq_true rfl⟩) (aw_qV (va_recv hK hP rfl he1) hP hD hSh hU hS) rfl rfl hl.1 rfl (lv_room (Nat.le_of_ble_eq_true rfl)) d_La_tag_4 ⟨Nat.le_of_ble_eq_true rfl, Nat.le_of_ble_eq_true rfl⟩) hS (fun _ _ h => h) (fun _ h => h) (fun _ _ h => h) (fun E ce q9 u t H locs ht _ _ hBX _ _ hS hce hcv hcl => ?_) (fun u t H locs _ _ hF _ _ _ _ => hF.elim)
  obtain ⟨rfl, L, hP, hD, hSh⟩ := hBX
  rw [ht] at hP
  refine vx_catch hown [] ⟨0, 8, 11, 13⟩ [⟨0, 8, 14, 17⟩] htab aw_ps0 (by decide) (by decide) (hG _ gw_2_38) (va_Nw.use rfl (hN _ nw_2)) hce hcv hcl ?_
  refine W.eq (g2 := F0 m 11 ls [.ref q9]) rfl ?_
  refine lv_astore_n hx hb d_La_tag_11 rfl hl (by decide) rfl (fun ls hl => ?_)
  have hl : lv_has ls 4 [(3, .ref q9), (0, .ref (aw_r ad 0)), (1, .int c0), (2, .ref (aw_o ad))] := hl
  refine lv_iconst (v := nI 1) hx hb d_La_tag_12 (by decide +kernel) ?_
  exact W.iret hx hb hr (fun t ht hW => ⟨⟨_, (), rfl, trivial, aw_Hr ht hP hD hSh⟩, hS.F ht⟩) hS.2.2 d_La_tag_13
abbrev ws_La_tagXs : List Cond := Cond.codeWith y_La_tag b_La_tag 4 (some .int) [((0 : Nat), (8 : Nat), (11 : Nat), (13 : Nat)), ((0 : Nat), (8 : Nat), (14 : Nat), (17 : Nat))] :: aw_G
abbrev rm_La_tagXs : Room := { frames := 8, cells := 1, slots := 6, locals := 148 }
set_option maxHeartbeats 4000000 in
set_option maxRecDepth 100000 in
theorem k_La_tagXs (l : Launch) (hst : l.stackTraces = false) (D : va_G) (g : Nat → ClassId) (ad : Nat → Nat) (G M : Nat → Nat × Nat) (F : Int32) (N0 : Nat) (j : Nat) (hj : j < 4) (hs : (G j).1 ≤ 2 ∨ ((G j).1 = 3 ∧ (G j).2 ≠ 5)) : Met l y_La_tag ws_La_tagXs rm_La_tagXs (va_Pc ([.ref (aw_r ad 0), .int (nI j), .ref (aw_o ad)] : List Value) (aw_B D g ad G M F N0)) (va_Qi (fun r (_ : Unit) => True) (fun (_ : Unit) t => aw_H D g ad G M F N0 t.heap) (aw_Z N0)) 1 6 (aw_Z N0) := by
  refine va_MetW (cc := b_La_tag) (maxL := 4) (ret := (some .int)) (hh := [((0 : Nat), (8 : Nat), (11 : Nat), (13 : Nat)), ((0 : Nat), (8 : Nat), (14 : Nat), (17 : Nat))]) (by decide) rfl ?_
  intro p e s m args below meth c s₁ B hml hv
  obtain ⟨rfl, ⟨L, hP, hD, hSh⟩, hU⟩ := hv
  have hx := B.exec
  have hb := B.bytes
  have hr := B.returns
  have hG : ∀ w ∈ aw_G, w.before _ s = true := fun w h => atoms_spec (ws := ws_La_tagXs) B.pre w (List.mem_cons_of_mem _ h)
  have htab : c.exceptionTable.toList = tableOf [((0 : Nat), (8 : Nat), (11 : Nat), (13 : Nat)), ((0 : Nat), (8 : Nat), (14 : Nat), (17 : Nat))] := vx_table (x := y_La_tag) B (atoms_spec (ws := ws_La_tagXs) B.pre _ List.mem_cons_self)
  have hown : s.vm.findClass "RuleCiphersLaw" = some m.cls := findClass_of_methodNamed B.named
  have hlocks := B.notSynchronized
  have hE := hU.1
  have hK := hE.1
  have hN := hE.2.1
  have hS : va_S (aw_Z N0) s.heap s.heap [] := va_S.rf
  have hl := lv_entry ([.ref (aw_r ad 0), .int (nI j), .ref (aw_o ad)] : List Value) (n := 4) (Nat.le_of_ble_eq_true rfl)
  rw [lg_entry_eq]
  generalize (lg_sl ([.ref (aw_r ad 0), .int (nI j), .ref (aw_o ad)] : List Value) ++ List.replicate (4 - (lg_sl ([.ref (aw_r ad 0), .int (nI j), .ref (aw_o ad)] : List Value)).length) Slot.unset).toArray = ls at hl ⊢
  have hl : lv_has ls 4 [(0, .ref (aw_r ad 0)), (1, .int (nI j)), (2, .ref (aw_o ad))] := hl
  refine lv_aload_n hx hb d_La_tag_0 rfl (lv_at hl 2 rfl) ?_
  refine lv_iconst (v := nI 0) hx hb d_La_tag_1 (by decide +kernel) ?_
  refine lv_aload_n hx hb d_La_tag_2 rfl (lv_at hl 0 rfl) ?_
  refine lv_iload_n hx hb d_La_tag_3 rfl (lv_at hl 1 rfl) ?_
  have he1 := rd_R0 hSh
  refine vx_callv (vx_runV (As := [.int (nI j)]) (rest := [.int (nI 0), .ref (aw_o ad)]) ⟨hx, hb, hml, hown, hG⟩ (k_Ru_tagXs l hst D g ad G M F N0 j hj hs) (aw_wV 1 hG gw_9_6 gw_9_3 gw_0_1 gw_9_4 gw_9_5 rfl rfl hd_Ru_tag ⟨Nat.le_of_ble_eq_true rfl, Nat.le_of_ble_eq_true rfl⟩) (aw_qV (va_recv hK hP rfl he1) hP hD hSh hU hS) rfl rfl hl.1 rfl (lv_room (Nat.le_of_ble_eq_true rfl)) d_La_tag_4 ⟨Nat.le_of_ble_eq_true rfl, Nat.le_of_ble_eq_true rfl⟩) hS (fun _ _ h => h) (fun _ h => h) (fun _ _ h => h) (fun E ce q9 u t H locs ht _ _ hBX _ _ hS hce hcv hcl => ?_) (fun u t H locs _ _ hF _ _ _ _ => hF.elim)
  obtain ⟨rfl, L, hP, hD, hSh⟩ := hBX
  rw [ht] at hP
  refine vx_catch hown [⟨0, 8, 11, 13⟩] ⟨0, 8, 14, 17⟩ [] htab (aw_psc (Or.inr ⟨by decide, "java/lang/IndexOutOfBoundsException", hG _ gw_2_38, aw_nc_S_I hE⟩) aw_ps0) (by decide) (by decide) (hG _ gw_2_40) (va_Nw.use rfl (hN _ nw_10)) hce hcv hcl ?_
  refine W.eq (g2 := F0 m 14 ls [.ref q9]) rfl ?_
  refine lv_astore_n hx hb d_La_tag_14 rfl hl (by decide) rfl (fun ls hl => ?_)
  have hl : lv_has ls 4 [(3, .ref q9), (0, .ref (aw_r ad 0)), (1, .int (nI j)), (2, .ref (aw_o ad))] := hl
  refine lv_iconst (v := nI 2) hx hb d_La_tag_15 (by decide +kernel) ?_
  exact W.iret hx hb hr (fun t ht hW => ⟨⟨_, (), rfl, trivial, aw_Hr ht hP hD hSh⟩, hS.F ht⟩) hS.2.2 d_La_tag_16
