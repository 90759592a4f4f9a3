abbrev ws_Id_keyed13 : List Cond := Cond.code y_Id_keyed b_Id_keyed 8 (some .long) :: aw_G
abbrev rm_Id_keyed13 : Room := { frames := 1, cells := 0, slots := 0, locals := 27 }
set_option maxHeartbeats 4000000 in
set_option maxRecDepth 100000 in
theorem k_Id_keyed13 (l : Launch) (D : va_G) (g : Nat → ClassId) (ad : Nat → Nat) (G M : Nat → Nat × Nat) (F : Int32) (N0 : Nat) (j : Nat) (k : Nat) (b : Int64) (hj : j < 4) (hk : k ≤ 48) : Met l y_Id_keyed ws_Id_keyed13 rm_Id_keyed13 (va_Pc ([.long b, .ref (aw_c ad j 13), .int (nI k)] : List Value) (aw_B D g ad G M F N0)) (va_Ql (fun r (_ : Unit) => True) (fun (_ : Unit) t => aw_H D g ad G M F N0 t.heap) (aw_Z N0)) 0 0 (aw_Z N0) := by
  refine Met.ofW (cc := b_Id_keyed) (maxL := 8) (ret := (some .long)) (by decide) rfl ?_
  intro p e s m args below meth c s₁ B hml hv
  obtain ⟨rfl, ⟨L, hP, hD, hSh⟩, hU⟩ := hv
  have hx := B.exec
  have hb := B.bytes
  have hr := B.returns
  have hG : ∀ w ∈ aw_G, w.before _ s = true := fun w h => atoms_spec (ws := ws_Id_keyed13) B.pre w (List.mem_cons_of_mem _ h)
  have hown : s.vm.findClass "RuleCiphers$Idea" = some m.cls := findClass_of_methodNamed B.named
  have hlocks := B.notSynchronized
  have hE := hU.1
  have hK := hE.1
  have hN := hE.2.1
  have hS : va_S (aw_Z N0) s.heap s.heap [] := va_S.rf
  have hl := lv_entry ([.long b, .ref (aw_c ad j 13), .int (nI k)] : List Value) (n := 8) (Nat.le_of_ble_eq_true rfl)
  rw [lg_entry_eq]
  generalize (lg_sl ([.long b, .ref (aw_c ad j 13), .int (nI k)] : List Value) ++ List.replicate (8 - (lg_sl ([.long b, .ref (aw_c ad j 13), .int (nI k)] : List Value)).length) Slot.unset).toArray = ls at hl ⊢
  have hl : lv_has ls 8 [(0, .long b), (2, .ref (aw_c ad j 13)), (3, .int (nI k))] := hl
  refine lv_lload_n hx hb d_Id_keyed_0 rfl (lv_at hl 0 rfl) ?_
  refine lv_iconst (v := nI 0) hx hb d_Id_keyed_1 (by decide +kernel) ?_
  refine aw_ci ((va_runS (As := [.long b, .int (nI 0)]) (rest := []) ⟨hx, hb, hml, hown, hG⟩ (k_Id_quarterOf l b (nI 0)) (aw_wS 2 hG gw_4_35 gw_4_33 gw_0_8 gw_4_34 rfl rfl hd_Id_quarterOf ⟨Nat.le_of_ble_eq_true rfl, Nat.le_of_ble_eq_true rfl⟩) aw_p0 rfl rfl hl.1 rfl (lv_room (Nat.le_of_ble_eq_true rfl)) d_Id_keyed_2 ⟨Nat.le_of_ble_eq_true rfl, Nat.le_of_ble_eq_true rfl⟩).run) (fun x1 hx1 => ?_)
  refine lv_aload_n hx hb d_Id_keyed_5 rfl (lv_at hl 1 rfl) ?_
  refine lv_iload_n hx hb d_Id_keyed_6 rfl (lv_at hl 2 rfl) ?_
  obtain ⟨f3, he2⟩ := rd_C13 hSh hj
  refine aw_ild hx hb hK hP (3 + 16 * j + 13) 0 he2 rfl (k := k) (by omega) (by decide) d_Id_keyed_7 ?_
  refine lv_topi (fun x4 _ => ?_)
  refine aw_ci ((va_runS (As := [.int x1, .int x4]) (rest := []) ⟨hx, hb, hml, hown, hG⟩ (k_Id_times l x1 x4) (aw_wS 2 hG gw_4_42 gw_4_40 gw_0_8 gw_4_41 rfl rfl hd_Id_times ⟨Nat.le_of_ble_eq_true rfl, Nat.le_of_ble_eq_true rfl⟩) aw_p0 rfl rfl hl.1 rfl (lv_room (Nat.le_of_ble_eq_true rfl)) d_Id_keyed_8 ⟨Nat.le_of_ble_eq_true rfl, Nat.le_of_ble_eq_true rfl⟩).run) (fun x5 hx5 => ?_)
  refine lv_istore hx hb d_Id_keyed_11 hl (by decide) rfl (fun ls hl => ?_)
  have hl : lv_has ls 8 [(4, .int x5), (0, .long b), (2, .ref (aw_c ad j 13)), (3, .int (nI k))] := hl
  refine lv_lload_n hx hb d_Id_keyed_13 rfl (lv_at hl 1 rfl) ?_
  refine lv_iconst (v := nI 1) hx hb d_Id_keyed_14 (by decide +kernel) ?_
  refine aw_ci ((va_runS (As := [.long b, .int (nI 1)]) (rest := []) ⟨hx, hb, hml, hown, hG⟩ (k_Id_quarterOf l b (nI 1)) (aw_wS 2 hG gw_4_35 gw_4_33 gw_0_8 gw_4_34 rfl rfl hd_Id_quarterOf ⟨Nat.le_of_ble_eq_true rfl, Nat.le_of_ble_eq_true rfl⟩) aw_p0 rfl rfl hl.1 rfl (lv_room (Nat.le_of_ble_eq_true rfl)) d_Id_keyed_15 ⟨Nat.le_of_ble_eq_true rfl, Nat.le_of_ble_eq_true rfl⟩).run) (fun x6 hx6 => ?_)
  refine lv_aload_n hx hb d_Id_keyed_18 rfl (lv_at hl 2 rfl) ?_
  refine lv_iload_n hx hb d_Id_keyed_19 rfl (lv_at hl 3 rfl) ?_
  refine lv_iconst (v := nI 1) hx hb d_Id_keyed_20 (by decide +kernel) ?_
  refine lv_iadd hx hb d_Id_keyed_21 ?_
  refine aw_ti (nI_add k 1) ?_
  obtain ⟨f8, he7⟩ := rd_C13 hSh hj
  refine aw_ild hx hb hK hP (3 + 16 * j + 13) 0 he7 rfl (k := (k + 1)) (by omega) (by decide) d_Id_keyed_22 ?_
  refine lv_topi (fun x9 _ => ?_)
  refine lv_iadd hx hb d_Id_keyed_23 ?_
  refine lv_topi (fun x10 _ => ?_)
  refine lv_istore hx hb d_Id_keyed_24 hl (by decide) rfl (fun ls hl => ?_)
  have hl : lv_has ls 8 [(5, .int x10), (4, .int x5), (0, .long b), (2, .ref (aw_c ad j 13)), (3, .int (nI k))] := hl
  refine lv_lload_n hx hb d_Id_keyed_26 rfl (lv_at hl 2 rfl) ?_
  refine lv_iconst (v := nI 2) hx hb d_Id_keyed_27 (by decide +kernel) ?_
  refine aw_ci ((va_runS (As := [.long b, .int (nI 2)]) (rest := []) ⟨hx, hb, hml, hown, hG⟩ (k_Id_quarterOf l b (nI 2)) (aw_wS 2 hG gw_4_35 gw_4_33 gw_0_8 gw_4_34 rfl rfl hd_Id_quarterOf ⟨Nat.le_of_ble_eq_true rfl, Nat.le_of_ble_eq_true rfl⟩) aw_p0 rfl rfl hl.1 rfl (lv_room (Nat.le_of_ble_eq_true rfl)) d_Id_keyed_28 ⟨Nat.le_of_ble_eq_true rfl, Nat.le_of_ble_eq_true rfl⟩).run) (fun x11 hx11 => ?_)
  refine lv_aload_n hx hb d_Id_keyed_31 rfl (lv_at hl 3 rfl) ?_
  refine lv_iload_n hx hb d_Id_keyed_32 rfl (lv_at hl 4 rfl) ?_
  refine lv_iconst (v := nI 2) hx hb d_Id_keyed_33 (by decide +kernel) ?_
  refine lv_iadd hx hb d_Id_keyed_34 ?_
  refine aw_ti (nI_add k 2) ?_
  obtain ⟨f13, he12⟩ := rd_C13 hSh hj
  refine aw_ild hx hb hK hP (3 + 16 * j + 13) 0 he12 rfl (k := (k + 2)) (by omega) (by decide) d_Id_keyed_35 ?_
  refine lv_topi (fun x14 _ => ?_)
  refine lv_iadd hx hb d_Id_keyed_36 ?_
  refine lv_topi (fun x15 _ => ?_)
  refine lv_istore hx hb d_Id_keyed_37 hl (by decide) rfl (fun ls hl => ?_)
  have hl : lv_has ls 8 [(6, .int x15), (5, .int x10), (4, .int x5), (0, .long b), (2, .ref (aw_c ad j 13)), (3, .int (nI k))] := hl
  refine lv_lload_n hx hb d_Id_keyed_39 rfl (lv_at hl 3 rfl) ?_
  refine lv_iconst (v := nI 3) hx hb d_Id_keyed_40 (by decide +kernel) ?_
  refine aw_ci ((va_runS (As := [.long b, .int (nI 3)]) (rest := []) ⟨hx, hb, hml, hown, hG⟩ (k_Id_quarterOf l b (nI 3)) (aw_wS 2 hG gw_4_35 gw_4_33 gw_0_8 gw_4_34 rfl rfl hd_Id_quarterOf ⟨Nat.le_of_ble_eq_true rfl, Nat.le_of_ble_eq_true rfl⟩) aw_p0 rfl rfl hl.1 rfl (lv_room (Nat.le_of_ble_eq_true rfl)) d_Id_keyed_41 ⟨Nat.le_of_ble_eq_true rfl, Nat.le_of_ble_eq_true rfl⟩).run) (fun x16 hx16 => ?_)
  refine lv_aload_n hx hb d_Id_keyed_44 rfl (lv_at hl 4 rfl) ?_
  refine lv_iload_n hx hb d_Id_keyed_45 rfl (lv_at hl 5 rfl) ?_
  refine lv_iconst (v := nI 3) hx hb d_Id_keyed_46 (by decide +kernel) ?_
  refine lv_iadd hx hb d_Id_keyed_47 ?_
  refine aw_ti (nI_add k 3) ?_
  obtain ⟨f18, he17⟩ := rd_C13 hSh hj
  refine aw_ild hx hb hK hP (3 + 16 * j + 13) 0 he17 rfl (k := (k + 3)) (by omega) (by decide) d_Id_keyed_48 ?_
  refine lv_topi (fun x19 _ => ?_)
  refine aw_ci ((va_runS (As := [.int x16, .int x19]) (rest := []) ⟨hx, hb, hml, hown, hG⟩ (k_Id_times l x16 x19) (aw_wS 2 hG gw_4_42 gw_4_40 gw_0_8 gw_4_41 rfl rfl hd_Id_times ⟨Nat.le_of_ble_eq_true rfl, Nat.le_of_ble_eq_true rfl⟩) aw_p0 rfl rfl hl.1 rfl (lv_room (Nat.le_of_ble_eq_true rfl)) d_Id_keyed_49 ⟨Nat.le_of_ble_eq_true rfl, Nat.le_of_ble_eq_true rfl⟩).run) (fun x20 hx20 => ?_)
  refine lv_istore hx hb d_Id_keyed_52 hl (by decide) rfl (fun ls hl => ?_)
  have hl : lv_has ls 8 [(7, .int x20), (6, .int x15), (5, .int x10), (4, .int x5), (0, .long b), (2, .ref (aw_c ad j 13)), (3, .int (nI k))] := hl
  refine lv_iload hx hb d_Id_keyed_54 (lv_at hl 3 rfl) ?_
  refine lv_i2l hx hb d_Id_keyed_56 rfl ?_
  refine lv_topl (fun y21 _ => ?_)
  refine lv_iload hx hb d_Id_keyed_57 (lv_at hl 2 rfl) ?_
  refine lv_i2l hx hb d_Id_keyed_59 rfl ?_
  refine lv_topl (fun y22 _ => ?_)
  refine lv_iload hx hb d_Id_keyed_60 (lv_at hl 1 rfl) ?_
  refine lv_i2l hx hb d_Id_keyed_62 rfl ?_
  refine lv_topl (fun y23 _ => ?_)
  refine lv_iload hx hb d_Id_keyed_63 (lv_at hl 0 rfl) ?_
  refine lv_i2l hx hb d_Id_keyed_65 rfl ?_
  refine lv_topl (fun y24 _ => ?_)
  refine aw_cl ((va_runS (As := [.long y21, .long y22, .long y23, .long y24]) (rest := []) ⟨hx, hb, hml, hown, hG⟩ (k_Id_ofQuarters l y21 y22 y23 y24) (aw_wS 4 hG gw_6_19 gw_6_17 gw_0_8 gw_6_18 rfl rfl hd_Id_ofQuarters ⟨Nat.le_of_ble_eq_true rfl, Nat.le_of_ble_eq_true rfl⟩) aw_p0 rfl rfl hl.1 rfl (lv_room (Nat.le_of_ble_eq_true rfl)) d_Id_keyed_66 ⟨Nat.le_of_ble_eq_true rfl, Nat.le_of_ble_eq_true rfl⟩).run) (fun y25 hy25 => ?_)
  exact W.lret hx hb hr (fun t ht hW => ⟨⟨_, (), rfl, trivial, aw_Hr ht hP hD hSh⟩, hS.F ht⟩) hS.2.2 d_Id_keyed_69
abbrev ws_Id_keyed14 : List Cond := Cond.code y_Id_keyed b_Id_keyed 8 (some .long) :: aw_G
abbrev rm_Id_keyed14 : Room := { frames := 1, cells := 0, slots := 0, locals := 27 }
set_option maxHeartbeats 4000000 in
set_option maxRecDepth 100000 in
theorem k_Id_keyed14 (l : Launch) (D : va_G) (g : Nat → ClassId) (ad : Nat → Nat) (G M : Nat → Nat × Nat) (F : Int32) (N0 : Nat) (j : Nat) (k : Nat) (b : Int64) (hj : j < 4) (hk : k ≤ 48) : Met l y_Id_keyed ws_Id_keyed14 rm_Id_keyed14 (va_Pc ([.long b, .ref (aw_c ad j 14), .int (nI k)] : List Value) (aw_B D g ad G M F N0)) (va_Ql (fun r (_ : Unit) => True) (fun (_ : Unit) t => aw_H D g ad G M F N0 t.heap) (aw_Z N0)) 0 0 (aw_Z N0) := by
  refine Met.ofW (cc := b_Id_keyed) (maxL := 8) (ret := (some .long)) (by decide) rfl ?_
  intro p e s m args below meth c s₁ B hml hv
  obtain ⟨rfl, ⟨L, hP, hD, hSh⟩, hU⟩ := hv
  have hx := B.exec
  have hb := B.bytes
  have hr := B.returns
  have hG : ∀ w ∈ aw_G, w.before _ s = true := fun w h => atoms_spec (ws := ws_Id_keyed14) B.pre w (List.mem_cons_of_mem _ h)
  have hown : s.vm.findClass "RuleCiphers$Idea" = some m.cls := findClass_of_methodNamed B.named
  have hlocks := B.notSynchronized
  have hE := hU.1
  have hK := hE.1
  have hN := hE.2.1
  have hS : va_S (aw_Z N0) s.heap s.heap [] := va_S.rf
  have hl := lv_entry ([.long b, .ref (aw_c ad j 14), .int (nI k)] : List Value) (n := 8) (Nat.le_of_ble_eq_true rfl)
  rw [lg_entry_eq]
  generalize (lg_sl ([.long b, .ref (aw_c ad j 14), .int (nI k)] : List Value) ++ List.replicate (8 - (lg_sl ([.long b, .ref (aw_c ad j 14), .int (nI k)] : List Value)).length) Slot.unset).toArray = ls at hl ⊢
  have hl : lv_has ls 8 [(0, .long b), (2, .ref (aw_c ad j 14)), (3, .int (nI k))] := hl
  refine lv_lload_n hx hb d_Id_keyed_0 rfl (lv_at hl 0 rfl) ?_
  refine lv_iconst (v := nI 0) hx hb d_Id_keyed_1 (by decide +kernel) ?_
  refine aw_ci ((va_runS (As := [.long b, .int (nI 0)]) (rest := []) ⟨hx, hb, hml, hown, hG⟩ (k_Id_quarterOf l b (nI 0)) (aw_wS 2 hG gw_4_35 gw_4_33 gw_0_8 gw_4_34 rfl rfl hd_Id_quarterOf ⟨Nat.le_of_ble_eq_true rfl, Nat.le_of_ble_eq_true rfl⟩) aw_p0 rfl rfl hl.1 rfl (lv_room (Nat.le_of_ble_eq_true rfl)) d_Id_keyed_2 ⟨Nat.le_of_ble_eq_true rfl, Nat.le_of_ble_eq_true rfl⟩).run) (fun x1 hx1 => ?_)
  refine lv_aload_n hx hb d_Id_keyed_5 rfl (lv_at hl 1 rfl) ?_
  refine lv_iload_n hx hb d_Id_keyed_6 rfl (lv_at hl 2 rfl) ?_
  obtain ⟨f3, he2⟩ := rd_C14 hSh hj
  refine aw_ild hx hb hK hP (3 + 16 * j + 14) 0 he2 rfl (k := k) (by omega) (by decide) d_Id_keyed_7 ?_
  refine lv_topi (fun x4 _ => ?_)
  refine aw_ci ((va_runS (As := [.int x1, .int x4]) (rest := []) ⟨hx, hb, hml, hown, hG⟩ (k_Id_times l x1 x4) (aw_wS 2 hG gw_4_42 gw_4_40 gw_0_8 gw_4_41 rfl rfl hd_Id_times ⟨Nat.le_of_ble_eq_true rfl, Nat.le_of_ble_eq_true rfl⟩) aw_p0 rfl rfl hl.1 rfl (lv_room (Nat.le_of_ble_eq_true rfl)) d_Id_keyed_8 ⟨Nat.le_of_ble_eq_true rfl, Nat.le_of_ble_eq_true rfl⟩).run) (fun x5 hx5 => ?_)
  refine lv_istore hx hb d_Id_keyed_11 hl (by decide) rfl (fun ls hl => ?_)
  have hl : lv_has ls 8 [(4, .int x5), (0, .long b), (2, .ref (aw_c ad j 14)), (3, .int (nI k))] := hl
  refine lv_lload_n hx hb d_Id_keyed_13 rfl (lv_at hl 1 rfl) ?_
  refine lv_iconst (v := nI 1) hx hb d_Id_keyed_14 (by decide +kernel) ?_
  refine aw_ci ((va_runS (As := [.long b, .int (nI 1)]) (rest := []) ⟨hx, hb, hml, hown, hG⟩ (k_Id_quarterOf l b (nI 1)) (aw_wS 2 hG gw_4_35 gw_4_33 gw_0_8 gw_4_34 rfl rfl hd_Id_quarterOf ⟨Nat.le_of_ble_eq_true rfl, Nat.le_of_ble_eq_true rfl⟩) aw_p0 rfl rfl hl.1 rfl (lv_room (Nat.le_of_ble_eq_true rfl)) d_Id_keyed_15 ⟨Nat.le_of_ble_eq_true rfl, Nat.le_of_ble_eq_true rfl⟩).run) (fun x6 hx6 => ?_)
  refine lv_aload_n hx hb d_Id_keyed_18 rfl (lv_at hl 2 rfl) ?_
  refine lv_iload_n hx hb d_Id_keyed_19 rfl (lv_at hl 3 rfl) ?_
  refine lv_iconst (v := nI 1) hx hb d_Id_keyed_20 (by decide +kernel) ?_
  refine lv_iadd hx hb d_Id_keyed_21 ?_
  refine aw_ti (nI_add k 1) ?_
  obtain ⟨f8, he7⟩ := rd_C14 hSh hj
  refine aw_ild hx hb hK hP (3 + 16 * j + 14) 0 he7 rfl (k := (k + 1)) (by omega) (by decide) d_Id_keyed_22 ?_
  refine lv_topi (fun x9 _ => ?_)
  refine lv_iadd hx hb d_Id_keyed_23 ?_
  refine lv_topi (fun x10 _ => ?_)
  refine lv_istore hx hb d_Id_keyed_24 hl (by decide) rfl (fun ls hl => ?_)
  have hl : lv_has ls 8 [(5, .int x10), (4, .int x5), (0, .long b), (2, .ref (aw_c ad j 14)), (3, .int (nI k))] := hl
  refine lv_lload_n hx hb d_Id_keyed_26 rfl (lv_at hl 2 rfl) ?_
  refine lv_iconst (v := nI 2) hx hb d_Id_keyed_27 (by decide +kernel) ?_
  refine aw_ci ((va_runS (As := [.long b, .int (nI 2)]) (rest := []) ⟨hx, hb, hml, hown, hG⟩ (k_Id_quarterOf l b (nI 2)) (aw_wS 2 hG gw_4_35 gw_4_33 gw_0_8 gw_4_34 rfl rfl hd_Id_quarterOf ⟨Nat.le_of_ble_eq_true rfl, Nat.le_of_ble_eq_true rfl⟩) aw_p0 rfl rfl hl.1 rfl (lv_room (Nat.le_of_ble_eq_true rfl)) d_Id_keyed_28 ⟨Nat.le_of_ble_eq_true rfl, Nat.le_of_ble_eq_true rfl⟩).run) (fun x11 hx11 => ?_)
  refine lv_aload_n hx hb d_Id_keyed_31 rfl (lv_at hl 3 rfl) ?_
  refine lv_iload_n hx hb d_Id_keyed_32 rfl (lv_at hl 4 rfl) ?_
  refine lv_iconst (v := nI 2) hx hb d_Id_keyed_33 (by decide +kernel) ?_
  refine lv_iadd hx hb d_Id_keyed_34 ?_
  refine aw_ti (nI_add k 2) ?_
  obtain ⟨f13, he12⟩ := rd_C14 hSh hj
  refine aw_ild hx hb hK hP (3 + 16 * j + 14) 0 he12 rfl (k := (k + 2)) (by omega) (by decide) d_Id_keyed_35 ?_
  refine lv_topi (fun x14 _ => ?_)
  refine lv_iadd hx hb d_Id_keyed_36 ?_
  refine lv_topi (fun x15 _ => ?_)
  refine lv_istore hx hb d_Id_keyed_37 hl (by decide) rfl (fun ls hl => ?_)
  have hl : lv_has ls 8 [(6, .int x15), (5, .int x10), (4, .int x5), (0, .long b), (2, .ref (aw_c ad j 14)), (3, .int (nI k))] := hl
  refine lv_lload_n hx hb d_Id_keyed_39 rfl (lv_at hl 3 rfl) ?_
  refine lv_iconst (v := nI 3) hx hb d_Id_keyed_40 (by decide +kernel) ?_
  refine aw_ci ((va_runS (As := [.long b, .int (nI 3)]) (rest := []) ⟨hx, hb, hml, hown, hG⟩ (k_Id_quarterOf l b (nI 3)) (aw_wS 2 hG gw_4_35 gw_4_33 gw_0_8 gw_4_34 rfl rfl hd_Id_quarterOf ⟨Nat.le_of_ble_eq_true rfl, Nat.le_of_ble_eq_true rfl⟩) aw_p0 rfl rfl hl.1 rfl (lv_room (Nat.le_of_ble_eq_true rfl)) d_Id_keyed_41 ⟨Nat.le_of_ble_eq_true rfl, Nat.le_of_ble_eq_true rfl⟩).run) (fun x16 hx16 => ?_)
  refine lv_aload_n hx hb d_Id_keyed_44 rfl (lv_at hl 4 rfl) ?_
  refine lv_iload_n hx hb d_Id_keyed_45 rfl (lv_at hl 5 rfl) ?_
  refine lv_iconst (v := nI 3) hx hb d_Id_keyed_46 (by decide +kernel) ?_
  refine lv_iadd hx hb d_Id_keyed_47 ?_
  refine aw_ti (nI_add k 3) ?_
  obtain ⟨f18, he17⟩ := rd_C14 hSh hj
  refine aw_ild hx hb hK hP (3 + 16 * j + 14) 0 he17 rfl (k := (k + 3)) (by omega) (by decide) d_Id_keyed_48 ?_
  refine lv_topi (fun x19 _ => ?_)
  refine aw_ci ((va_runS (As := [.int x16, .int x19]) (rest := []) ⟨hx, hb, hml, hown, hG⟩ (k_Id_times l x16 x19) (aw_wS 2 hG gw_4_42 gw_4_40 gw_0_8 gw_4_41 rfl rfl hd_Id_times ⟨Nat.le_of_ble_eq_true rfl, Nat.le_of_ble_eq_true rfl⟩) aw_p0 rfl rfl hl.1 rfl (lv_room (Nat.le_of_ble_eq_true rfl)) d_Id_keyed_49 ⟨Nat.le_of_ble_eq_true rfl, Nat.le_of_ble_eq_true rfl⟩).run) (fun x20 hx20 => ?_)
  refine lv_istore hx hb d_Id_keyed_52 hl (by decide) rfl (fun ls hl => ?_)
  have hl : lv_has ls 8 [(7, .int x20), (6, .int x15), (5, .int x10), (4, .int x5), (0, .long b), (2, .ref (aw_c ad j 14)), (3, .int (nI k))] := hl
  refine lv_iload hx hb d_Id_keyed_54 (lv_at hl 3 rfl) ?_
  refine lv_i2l hx hb d_Id_keyed_56 rfl ?_
  refine lv_topl (fun y21 _ => ?_)
  refine lv_iload hx hb d_Id_keyed_57 (lv_at hl 2 rfl) ?_
  refine lv_i2l hx hb d_Id_keyed_59 rfl ?_
  refine lv_topl (fun y22 _ => ?_)
  refine lv_iload hx hb d_Id_keyed_60 (lv_at hl 1 rfl) ?_
  refine lv_i2l hx hb d_Id_keyed_62 rfl ?_
  refine lv_topl (fun y23 _ => ?_)
  refine lv_iload hx hb d_Id_keyed_63 (lv_at hl 0 rfl) ?_
  refine lv_i2l hx hb d_Id_keyed_65 rfl ?_
  refine lv_topl (fun y24 _ => ?_)
  refine aw_cl ((va_runS (As := [.long y21, .long y22, .long y23, .long y24]) (rest := []) ⟨hx, hb, hml, hown, hG⟩ (k_Id_ofQuarters l y21 y22 y23 y24) (aw_wS 4 hG gw_6_19 gw_6_17 gw_0_8 gw_6_18 rfl rfl hd_Id_ofQuarters ⟨Nat.le_of_ble_eq_true rfl, Nat.le_of_ble_eq_true rfl⟩) aw_p0 rfl rfl hl.1 rfl (lv_room (Nat.le_of_ble_eq_true rfl)) d_Id_keyed_66 ⟨Nat.le_of_ble_eq_true rfl, Nat.le_of_ble_eq_true rfl⟩).run) (fun y25 hy25 => ?_)
  exact W.lret hx hb hr (fun t ht hW => ⟨⟨_, (), rfl, trivial, aw_Hr ht hP hD hSh⟩, hS.F ht⟩) hS.2.2 d_Id_keyed_69
abbrev ws_Id_mixed : List Cond := Cond.code y_Id_mixed b_Id_mixed 7 (some .long) :: aw_G
abbrev rm_Id_mixed : Room := { frames := 1, cells := 0, slots := 0, locals := 27 }
set_option maxHeartbeats 4000000 in
set_option maxRecDepth 100000 in
theorem k_Id_mixed (l : Launch) (D : va_G) (g : Nat → ClassId) (ad : Nat → Nat) (G M : Nat → Nat × Nat) (F : Int32) (N0 : Nat) (j : Nat) (k : Nat) (b : Int64) (hj : j < 4) (hk : k ≤ 50) : Met l y_Id_mixed ws_Id_mixed rm_Id_mixed (va_Pc ([.ref (aw_c ad j 12), .long b, .int (nI k)] : List Value) (aw_B D g ad G M F N0)) (va_Ql (fun r (_ : Unit) => True) (fun (_ : Unit) t => aw_H D g ad G M F N0 t.heap) (aw_Z N0)) 0 0 (aw_Z N0) := by
  refine Met.ofW (cc := b_Id_mixed) (maxL := 7) (ret := (some .long)) (by decide) rfl ?_
  intro p e s m args below meth c s₁ B hml hv
  obtain ⟨rfl, ⟨L, hP, hD, hSh⟩, hU⟩ := hv
  have hx := B.exec
  have hb := B.bytes
  have hr := B.returns
  have hG : ∀ w ∈ aw_G, w.before _ s = true := fun w h => atoms_spec (ws := ws_Id_mixed) B.pre w (List.mem_cons_of_mem _ h)
  have hown : s.vm.findClass "RuleCiphers$Idea" = some m.cls := findClass_of_methodNamed B.named
  have hlocks := B.notSynchronized
  have hE := hU.1
  have hK := hE.1
  have hN := hE.2.1
  have hS : va_S (aw_Z N0) s.heap s.heap [] := va_S.rf
  have hl := lv_entry ([.ref (aw_c ad j 12), .long b, .int (nI k)] : List Value) (n := 7) (Nat.le_of_ble_eq_true rfl)
  rw [lg_entry_eq]
  generalize (lg_sl ([.ref (aw_c ad j 12), .long b, .int (nI k)] : List Value) ++ List.replicate (7 - (lg_sl ([.ref (aw_c ad j 12), .long b, .int (nI k)] : List Value)).length) Slot.unset).toArray = ls at hl ⊢
  have hl : lv_has ls 7 [(0, .ref (aw_c ad j 12)), (1, .long b), (3, .int (nI k))] := hl
  refine lv_lload_n hx hb d_Id_mixed_0 rfl (lv_at hl 1 rfl) ?_
  refine lv_iconst (v := nI 0) hx hb d_Id_mixed_1 (by decide +kernel) ?_
  refine aw_ci ((va_runS (As := [.long b, .int (nI 0)]) (rest := []) ⟨hx, hb, hml, hown, hG⟩ (k_Id_quarterOf l b (nI 0)) (aw_wS 2 hG gw_4_35 gw_4_33 gw_0_8 gw_4_34 rfl rfl hd_Id_quarterOf ⟨Nat.le_of_ble_eq_true rfl, Nat.le_of_ble_eq_true rfl⟩) aw_p0 rfl rfl hl.1 rfl (lv_room (Nat.le_of_ble_eq_true rfl)) d_Id_mixed_2 ⟨Nat.le_of_ble_eq_true rfl, Nat.le_of_ble_eq_true rfl⟩).run) (fun x1 hx1 => ?_)
  refine lv_lload_n hx hb d_Id_mixed_5 rfl (lv_at hl 1 rfl) ?_
  refine lv_iconst (v := nI 2) hx hb d_Id_mixed_6 (by decide +kernel) ?_
  refine aw_ci ((va_runS (As := [.long b, .int (nI 2)]) (rest := [.int x1]) ⟨hx, hb, hml, hown, hG⟩ (k_Id_quarterOf l b (nI 2)) (aw_wS 2 hG gw_4_35 gw_4_33 gw_0_8 gw_4_34 rfl rfl hd_Id_quarterOf ⟨Nat.le_of_ble_eq_true rfl, Nat.le_of_ble_eq_true rfl⟩) aw_p0 rfl rfl hl.1 rfl (lv_room (Nat.le_of_ble_eq_true rfl)) d_Id_mixed_7 ⟨Nat.le_of_ble_eq_true rfl, Nat.le_of_ble_eq_true rfl⟩).run) (fun x2 hx2 => ?_)
  refine lv_ixor hx hb d_Id_mixed_10 ?_
  refine lv_topi (fun x3 _ => ?_)
  refine lv_aload_n hx hb d_Id_mixed_11 rfl (lv_at hl 0 rfl) ?_
  have he4 := rd_C12 hSh hj
  refine va_get (C := R_Id) (T := T_Id) (N := 2) (v := .ref (aw_c ad j 13)) hx hb hG in_Id hown hK hP (3 + 16 * j + 12) he4 rfl 0 (by decide) (hG _ gw_0_46) (fun x9 h9 => u_same (hG _ gw_0_47) x9 h9) rfl d_Id_mixed_12 ?_
  refine lv_iload_n hx hb d_Id_mixed_15 rfl (lv_at hl 2 rfl) ?_
  obtain ⟨f6, he5⟩ := rd_C13 hSh hj
  refine aw_ild hx hb hK hP (3 + 16 * j + 13) 0 he5 rfl (k := k) (by omega) (by decide) d_Id_mixed_16 ?_
  refine lv_topi (fun x7 _ => ?_)
  refine aw_ci ((va_runS (As := [.int x3, .int x7]) (rest := []) ⟨hx, hb, hml, hown, hG⟩ (k_Id_times l x3 x7) (aw_wS 2 hG gw_4_42 gw_4_40 gw_0_8 gw_4_41 rfl rfl hd_Id_times ⟨Nat.le_of_ble_eq_true rfl, Nat.le_of_ble_eq_true rfl⟩) aw_p0 rfl rfl hl.1 rfl (lv_room (Nat.le_of_ble_eq_true rfl)) d_Id_mixed_17 ⟨Nat.le_of_ble_eq_true rfl, Nat.le_of_ble_eq_true rfl⟩).run) (fun x8 hx8 => ?_)
  refine lv_istore hx hb d_Id_mixed_20 hl (by decide) rfl (fun ls hl => ?_)
  have hl : lv_has ls 7 [(4, .int x8), (0, .ref (aw_c ad j 12)), (1, .long b), (3, .int (nI k))] := hl
  refine lv_iload hx hb d_Id_mixed_22 (lv_at hl 0 rfl) ?_
  refine lv_lload_n hx hb d_Id_mixed_24 rfl (lv_at hl 2 rfl) ?_
  refine lv_iconst (v := nI 1) hx hb d_Id_mixed_25 (by decide +kernel) ?_
  refine aw_ci ((va_runS (As := [.long b, .int (nI 1)]) (rest := [.int x8]) ⟨hx, hb, hml, hown, hG⟩ (k_Id_quarterOf l b (nI 1)) (aw_wS 2 hG gw_4_35 gw_4_33 gw_0_8 gw_4_34 rfl rfl hd_Id_quarterOf ⟨Nat.le_of_ble_eq_true rfl, Nat.le_of_ble_eq_true rfl⟩) aw_p0 rfl rfl hl.1 rfl (lv_room (Nat.le_of_ble_eq_true rfl)) d_Id_mixed_26 ⟨Nat.le_of_ble_eq_true rfl, Nat.le_of_ble_eq_true rfl⟩).run) (fun x9 hx9 => ?_)
  refine lv_lload_n hx hb d_Id_mixed_29 rfl (lv_at hl 2 rfl) ?_
  refine lv_iconst (v := nI 3) hx hb d_Id_mixed_30 (by decide +kernel) ?_
  refine aw_ci ((va_runS (As := [.long b, .int (nI 3)]) (rest := [.int x9, .int x8]) ⟨hx, hb, hml, hown, hG⟩ (k_Id_quarterOf l b (nI 3)) (aw_wS 2 hG gw_4_35 gw_4_33 gw_0_8 gw_4_34 rfl rfl hd_Id_quarterOf ⟨Nat.le_of_ble_eq_true rfl, Nat.le_of_ble_eq_true rfl⟩) aw_p0 rfl rfl hl.1 rfl (lv_room (Nat.le_of_ble_eq_true rfl)) d_Id_mixed_31 ⟨Nat.le_of_ble_eq_true rfl, Nat.le_of_ble_eq_true rfl⟩).run) (fun x10 hx10 => ?_)
  refine lv_ixor hx hb d_Id_mixed_34 ?_
  refine lv_topi (fun x11 _ => ?_)
  refine lv_iadd hx hb d_Id_mixed_35 ?_
  refine lv_topi (fun x12 _ => ?_)
  refine lv_ldc (v := 65535) hx hb hown (hG _ gw_4_36) d_Id_mixed_36 ?_
  refine lv_iand hx hb d_Id_mixed_38 ?_
  refine lv_topi (fun x13 _ => ?_)
  refine lv_aload_n hx hb d_Id_mixed_39 rfl (lv_at hl 1 rfl) ?_
  have he14 := rd_C12 hSh hj
  refine va_get (C := R_Id) (T := T_Id) (N := 2) (v := .ref (aw_c ad j 13)) hx hb hG in_Id hown hK hP (3 + 16 * j + 12) he14 rfl 0 (by decide) (hG _ gw_0_46) (fun x9 h9 => u_same (hG _ gw_0_47) x9 h9) rfl d_Id_mixed_40 ?_
  refine lv_iload_n hx hb d_Id_mixed_43 rfl (lv_at hl 3 rfl) ?_
  refine lv_iconst (v := nI 1) hx hb d_Id_mixed_44 (by decide +kernel) ?_
  refine lv_iadd hx hb d_Id_mixed_45 ?_
  refine aw_ti (nI_add k 1) ?_
  obtain ⟨f16, he15⟩ := rd_C13 hSh hj
  refine aw_ild hx hb hK hP (3 + 16 * j + 13) 0 he15 rfl (k := (k + 1)) (by omega) (by decide) d_Id_mixed_46 ?_
  refine lv_topi (fun x17 _ => ?_)
  refine aw_ci ((va_runS (As := [.int x13, .int x17]) (rest := []) ⟨hx, hb, hml, hown, hG⟩ (k_Id_times l x13 x17) (aw_wS 2 hG gw_4_42 gw_4_40 gw_0_8 gw_4_41 rfl rfl hd_Id_times ⟨Nat.le_of_ble_eq_true rfl, Nat.le_of_ble_eq_true rfl⟩) aw_p0 rfl rfl hl.1 rfl (lv_room (Nat.le_of_ble_eq_true rfl)) d_Id_mixed_47 ⟨Nat.le_of_ble_eq_true rfl, Nat.le_of_ble_eq_true rfl⟩).run) (fun x18 hx18 => ?_)
  refine lv_istore hx hb d_Id_mixed_50 hl (by decide) rfl (fun ls hl => ?_)
  have hl : lv_has ls 7 [(5, .int x18), (4, .int x8), (0, .ref (aw_c ad j 12)), (1, .long b), (3, .int (nI k))] := hl
  refine lv_iload hx hb d_Id_mixed_52 (lv_at hl 1 rfl) ?_
  refine lv_iload hx hb d_Id_mixed_54 (lv_at hl 0 rfl) ?_
  refine lv_iadd hx hb d_Id_mixed_56 ?_
  refine lv_topi (fun x19 _ => ?_)
  refine lv_istore hx hb d_Id_mixed_57 hl (by decide) rfl (fun ls hl => ?_)
  have hl : lv_has ls 7 [(6, .int x19), (5, .int x18), (4, .int x8), (0, .ref (aw_c ad j 12)), (1, .long b), (3, .int (nI k))] := hl
  refine lv_lload_n hx hb d_Id_mixed_59 rfl (lv_at hl 4 rfl) ?_
  refine lv_iload hx hb d_Id_mixed_60 (lv_at hl 1 rfl) ?_
  refine lv_i2l hx hb d_Id_mixed_62 rfl ?_
  refine lv_topl (fun y20 _ => ?_)
  refine lv_iload hx hb d_Id_mixed_63 (lv_at hl 0 rfl) ?_
  refine lv_i2l hx hb d_Id_mixed_65 rfl ?_
  refine lv_topl (fun y21 _ => ?_)
  refine lv_iload hx hb d_Id_mixed_66 (lv_at hl 1 rfl) ?_
  refine lv_i2l hx hb d_Id_mixed_68 rfl ?_
  refine lv_topl (fun y22 _ => ?_)
  refine lv_iload hx hb d_Id_mixed_69 (lv_at hl 0 rfl) ?_
  refine lv_i2l hx hb d_Id_mixed_71 rfl ?_
  refine lv_topl (fun y23 _ => ?_)
  refine aw_cl ((va_runS (As := [.long y20, .long y21, .long y22, .long y23]) (rest := [.long b]) ⟨hx, hb, hml, hown, hG⟩ (k_Id_ofQuarters l y20 y21 y22 y23) (aw_wS 4 hG gw_6_19 gw_6_17 gw_0_8 gw_6_18 rfl rfl hd_Id_ofQuarters ⟨Nat.le_of_ble_eq_true rfl, Nat.le_of_ble_eq_true rfl⟩) aw_p0 rfl rfl hl.1 rfl (lv_room (Nat.le_of_ble_eq_true rfl)) d_Id_mixed_72 ⟨Nat.le_of_ble_eq_true rfl, Nat.le_of_ble_eq_true rfl⟩).run) (fun y24 hy24 => ?_)
  refine lv_lxor hx hb d_Id_mixed_75 ?_
  refine lv_topl (fun y25 _ => ?_)
  exact W.lret hx hb hr (fun t ht hW => ⟨⟨_, (), rfl, trivial, aw_Hr ht hP hD hSh⟩, hS.F ht⟩) hS.2.2 d_Id_mixed_76
abbrev ws_Id_on : List Cond := Cond.code y_Id_on b_Id_on 6 (some .long) :: aw_G
abbrev rm_Id_on : Room := { frames := 2, cells := 0, slots := 0, locals := 54 }
set_option maxHeartbeats 4000000 in
set_option maxRecDepth 100000 in
theorem k_Id_on (l : Launch) (D : va_G) (g : Nat → ClassId) (ad : Nat → Nat) (G M : Nat → Nat × Nat) (F : Int32) (N0 : Nat) (j : Nat) (b : Int64) (hj : j < 4) : Met l y_Id_on ws_Id_on rm_Id_on (va_Pc ([.ref (aw_c ad j 12), .long b] : List Value) (aw_B D g ad G M F N0)) (va_Ql (fun r (_ : Unit) => True) (fun (_ : Unit) t => aw_H D g ad G M F N0 t.heap) (aw_Z N0)) 0 0 (aw_Z N0) := by
  refine Met.ofW (cc := b_Id_on) (maxL := 6) (ret := (some .long)) (by decide) rfl ?_
  intro p e s m args below meth c s₁ B hml hv
  obtain ⟨rfl, ⟨L, hP, hD, hSh⟩, hU⟩ := hv
  have hx := B.exec
  have hb := B.bytes
  have hr := B.returns
  have hG : ∀ w ∈ aw_G, w.before _ s = true := fun w h => atoms_spec (ws := ws_Id_on) B.pre w (List.mem_cons_of_mem _ h)
  have hown : s.vm.findClass "RuleCiphers$Idea" = some m.cls := findClass_of_methodNamed B.named
  have hlocks := B.notSynchronized
  have hE := hU.1
  have hK := hE.1
  have hN := hE.2.1
  have hS : va_S (aw_Z N0) s.heap s.heap [] := va_S.rf
  have hl := lv_entry ([.ref (aw_c ad j 12), .long b] : List Value) (n := 6) (Nat.le_of_ble_eq_true rfl)
  rw [lg_entry_eq]
  generalize (lg_sl ([.ref (aw_c ad j 12), .long b] : List Value) ++ List.replicate (6 - (lg_sl ([.ref (aw_c ad j 12), .long b] : List Value)).length) Slot.unset).toArray = ls at hl ⊢
  have hl : lv_has ls 6 [(0, .ref (aw_c ad j 12)), (1, .long b)] := hl
  refine lv_lload_n hx hb d_Id_on_0 rfl (lv_at hl 1 rfl) ?_
  refine lv_lstore_n hx hb d_Id_on_1 rfl hl (by decide) rfl (fun ls hl => ?_)
  have hl : lv_has ls 6 [(3, .long b), (0, .ref (aw_c ad j 12)), (1, .long b)] := hl
  refine lv_iconst (v := nI 0) hx hb d_Id_on_2 (by decide +kernel) ?_
  refine lv_istore hx hb d_Id_on_3 hl (by decide) rfl (fun ls hl => ?_)
  have hl : lv_has ls 6 [(5, .int (nI 0)), (3, .long b), (0, .ref (aw_c ad j 12)), (1, .long b)] := hl
  have L5 : ∀ (d t : Nat) (y1 : Int64) (H : Heap) (locs : List Loc) (L : va_W) (ls : Array Slot), t + d = 8 → va_P D aw_C L H → va_D (aw_Z N0) L → aw_Sh g ad G M F L → va_S (aw_Z N0) s.heap H locs → lv_has ls 6 [(0, .ref (aw_c ad j 12)), (1, .long b), (3, .long y1), (5, .int (nI t))] → W p l e (headSpec ws_Id_on rm_Id_on).room s m ([.ref (aw_c ad j 12), .long b] : List Value).toArray below meth c H locs 0 0 (MQ below (va_Ql (fun r (_ : Unit) => True) (fun (_ : Unit) t => aw_H D g ad G M F N0 t.heap) (aw_Z N0)) ([.ref (aw_c ad j 12), .long b] : List Value).toArray s 0 0 (aw_Z N0)) (F0 m 5 ls []) := by
    clear hP hD hSh hS
    clear hl
    intro d
    induction d with
    | zero => 
      intro t y1 H locs L ls ht0 hP hD hSh hS hl
      refine lv_iload hx hb d_Id_on_5 (lv_at hl 3 rfl) ?_
      refine lv_bipush (v := nI 8) hx hb d_Id_on_7 (by decide +kernel) ?_
      refine lv_icmp_ge (tgt := 46) hx hb d_Id_on_9 (by decide) (fun _ => ?_) (fun h => absurd (show nI 8 ≤ nI t from (nI_leI (by omega) (by omega)).mpr (by omega)) h)
      refine lv_lload_n hx hb d_Id_on_46 rfl (lv_at hl 2 rfl) ?_
      refine aw_cl ((va_runS (As := [.long y1]) (rest := []) ⟨hx, hb, hml, hown, hG⟩ (k_Id_middleSwapped l y1) (aw_wS 1 hG gw_6_23 gw_6_21 gw_0_8 gw_6_22 rfl rfl hd_Id_middleSwapped ⟨Nat.le_of_ble_eq_true rfl, Nat.le_of_ble_eq_true rfl⟩) aw_p0 rfl rfl hl.1 rfl (lv_room (Nat.le_of_ble_eq_true rfl)) d_Id_on_47 ⟨Nat.le_of_ble_eq_true rfl, Nat.le_of_ble_eq_true rfl⟩).run) (fun y2 hy2 => ?_)
      refine lv_aload_n hx hb d_Id_on_50 rfl (lv_at hl 0 rfl) ?_
      have he3 := rd_C12 hSh hj
      refine va_get (C := R_Id) (T := T_Id) (N := 2) (v := .ref (aw_c ad j 13)) hx hb hG in_Id hown hK hP (3 + 16 * j + 12) he3 rfl 0 (by decide) (hG _ gw_0_46) (fun x9 h9 => u_same (hG _ gw_0_47) x9 h9) rfl d_Id_on_51 ?_
      refine lv_bipush (v := nI 48) hx hb d_Id_on_54 (by decide +kernel) ?_
      refine va_calll (va_runS (As := [.long y2, .ref (aw_c ad j 13), .int (nI 48)]) (rest := []) ⟨hx, hb, hml, hown, hG⟩ (k_Id_keyed13 l D g ad G M F N0 j 48 y2 hj (by omega)) (aw_wS 3 hG gw_6_16 gw_6_14 gw_0_8 gw_6_15 rfl rfl hd_Id_keyed ⟨Nat.le_of_ble_eq_true rfl, Nat.le_of_ble_eq_true rfl⟩) (aw_qS hP hD hSh hU hS) rfl rfl hl.1 rfl (lv_room (Nat.le_of_ble_eq_true rfl)) d_Id_on_56 ⟨Nat.le_of_ble_eq_true rfl, Nat.le_of_ble_eq_true rfl⟩) hS (fun _ _ h => h) (fun _ h => h) (fun y4 u8 t8 H locs ht _ _ hB _ _ hS => ?_)
      obtain ⟨L, hP, hD, hSh⟩ := hB
      rw [ht] at hP
      clear ht
      exact W.lret hx hb hr (fun t ht hW => ⟨⟨_, (), rfl, trivial, aw_Hr ht hP hD hSh⟩, hS.F ht⟩) hS.2.2 d_Id_on_59
    | succ d ih => 
      intro t y1 H locs L ls ht0 hP hD hSh hS hl
      refine lv_iload hx hb d_Id_on_5 (lv_at hl 3 rfl) ?_
      refine lv_bipush (v := nI 8) hx hb d_Id_on_7 (by decide +kernel) ?_
      refine lv_icmp_ge (tgt := 46) hx hb d_Id_on_9 (by decide) (fun h => absurd h (show ¬ nI 8 ≤ nI t from fun h9 => absurd ((nI_leI (by omega) (by omega)).mp h9) (by omega))) (fun _ => ?_)
      refine lv_aload_n hx hb d_Id_on_12 rfl (lv_at hl 0 rfl) ?_
      refine lv_lload_n hx hb d_Id_on_13 rfl (lv_at hl 2 rfl) ?_
      refine lv_aload_n hx hb d_Id_on_14 rfl (lv_at hl 0 rfl) ?_
      have he5 := rd_C12 hSh hj
      refine va_get (C := R_Id) (T := T_Id) (N := 2) (v := .ref (aw_c ad j 13)) hx hb hG in_Id hown hK hP (3 + 16 * j + 12) he5 rfl 0 (by decide) (hG _ gw_0_46) (fun x9 h9 => u_same (hG _ gw_0_47) x9 h9) rfl d_Id_on_15 ?_
      refine lv_bipush (v := nI 6) hx hb d_Id_on_18 (by decide +kernel) ?_
      refine lv_iload hx hb d_Id_on_20 (lv_at hl 3 rfl) ?_
      refine lv_imul hx hb d_Id_on_22 ?_
      refine aw_ti (pk_mul 6 t) ?_
      refine va_calll (va_runS (As := [.long y1, .ref (aw_c ad j 13), .int (nI (6 * t))]) (rest := [.ref (aw_c ad j 12)]) ⟨hx, hb, hml, hown, hG⟩ (k_Id_keyed13 l D g ad G M F N0 j (6 * t) y1 hj (by omega)) (aw_wS 3 hG gw_6_16 gw_6_14 gw_0_8 gw_6_15 rfl rfl hd_Id_keyed ⟨Nat.le_of_ble_eq_true rfl, Nat.le_of_ble_eq_true rfl⟩) (aw_qS hP hD hSh hU hS) rfl rfl hl.1 rfl (lv_room (Nat.le_of_ble_eq_true rfl)) d_Id_on_23 ⟨Nat.le_of_ble_eq_true rfl, Nat.le_of_ble_eq_true rfl⟩) hS (fun _ _ h => h) (fun _ h => h) (fun y6 u8 t8 H locs ht _ _ hB _ _ hS => ?_)
      obtain ⟨L, hP, hD, hSh⟩ := hB
      rw [ht] at hP
      clear ht
      refine lv_bipush (v := nI 6) hx hb d_Id_on_26 (by decide +kernel) ?_
      refine lv_iload hx hb d_Id_on_28 (lv_at hl 3 rfl) ?_
      refine lv_imul hx hb d_Id_on_30 ?_
      refine aw_ti (pk_mul 6 t) ?_
      refine lv_iconst (v := nI 4) hx hb d_Id_on_31 (by decide +kernel) ?_
      refine lv_iadd hx hb d_Id_on_32 ?_
      refine aw_ti (nI_add (6 * t) 4) ?_
      have he7 := rd_C12 hSh hj
      refine va_calll (va_runV (As := [.long y6, .int (nI ((6 * t) + 4))]) (rest := []) ⟨hx, hb, hml, hown, hG⟩ (k_Id_mixed l D g ad G M F N0 j ((6 * t) + 4) y6 hj (by omega)) (aw_wV 2 hG gw_6_26 gw_6_24 gw_0_8 gw_6_25 gw_p_2 rfl rfl hd_Id_mixed ⟨Nat.le_of_ble_eq_true rfl, Nat.le_of_ble_eq_true rfl⟩) (aw_qV (va_recv hK hP rfl he7) hP hD hSh hU hS) rfl rfl hl.1 rfl (lv_room (Nat.le_of_ble_eq_true rfl)) d_Id_on_33 ⟨Nat.le_of_ble_eq_true rfl, Nat.le_of_ble_eq_true rfl⟩) hS (fun _ _ h => h) (fun _ h => h) (fun y8 u8 t8 H locs ht _ _ hB _ _ hS => ?_)
      obtain ⟨L, hP, hD, hSh⟩ := hB
      rw [ht] at hP
      clear ht
      refine aw_cl ((va_runS (As := [.long y8]) (rest := []) ⟨hx, hb, hml, hown, hG⟩ (k_Id_middleSwapped l y8) (aw_wS 1 hG gw_6_23 gw_6_21 gw_0_8 gw_6_22 rfl rfl hd_Id_middleSwapped ⟨Nat.le_of_ble_eq_true rfl, Nat.le_of_ble_eq_true rfl⟩) aw_p0 rfl rfl hl.1 rfl (lv_room (Nat.le_of_ble_eq_true rfl)) d_Id_on_36 ⟨Nat.le_of_ble_eq_true rfl, Nat.le_of_ble_eq_true rfl⟩).run) (fun y9 hy9 => ?_)
      refine lv_lstore_n hx hb d_Id_on_39 rfl hl (by decide) rfl (fun ls hl => ?_)
      have hl : lv_has ls 6 [(3, .long y9), (0, .ref (aw_c ad j 12)), (1, .long b), (5, .int (nI t))] := hl
      refine lv_iinc (k := 3) (v := nI (t + 1)) hx hb d_Id_on_40 hl rfl (aw_inc t 1 1 (by decide +kernel)) (by decide) rfl (fun ls hl => ?_)
      have hl : lv_has ls 6 [(5, .int (nI (t + 1))), (3, .long y9), (0, .ref (aw_c ad j 12)), (1, .long b)] := hl
      refine lv_goto (tgt := 5) hx hb d_Id_on_43 (by decide) ?_
      have hl := lv_sub hl (l' := [(0, .ref (aw_c ad j 12)), (1, .long b), (3, .long y9), (5, .int (nI (t + 1)))]) [2, 3, 1, 0] rfl
      exact ih (t + 1) y9 H locs L ls (by omega) hP hD hSh hS (by first | exact hl | simpa [Nat.add_assoc, Nat.mul_add, Nat.add_comm] using hl)
  have hl := lv_sub hl (l' := [(0, .ref (aw_c ad j 12)), (1, .long b), (3, .long b), (5, .int (nI 0))]) [2, 3, 1, 0] rfl
  exact L5 8 0 b _ _ _ ls (by omega) hP hD hSh hS (by first | exact hl | simpa using hl)
abbrev ws_Id_back : List Cond := Cond.code y_Id_back b_Id_back 6 (some .long) :: aw_G
abbrev rm_Id_back : Room := { frames := 2, cells := 0, slots := 0, locals := 54 }
set_option maxHeartbeats 4000000 in
set_option maxRecDepth 100000 in
theorem k_Id_back (l : Launch) (D : va_G) (g : Nat → ClassId) (ad : Nat → Nat) (G M : Nat → Nat × Nat) (F : Int32) (N0 : Nat) (j : Nat) (b : Int64) (hj : j < 4) : Met l y_Id_back ws_Id_back rm_Id_back (va_Pc ([.ref (aw_c ad j 12), .long b] : List Value) (aw_B D g ad G M F N0)) (va_Ql (fun r (_ : Unit) => True) (fun (_ : Unit) t => aw_H D g ad G M F N0 t.heap) (aw_Z N0)) 0 0 (aw_Z N0) := by
  refine Met.ofW (cc := b_Id_back) (maxL := 6) (ret := (some .long)) (by decide) rfl ?_
  intro p e s m args below meth c s₁ B hml hv
  obtain ⟨rfl, ⟨L, hP, hD, hSh⟩, hU⟩ := hv
  have hx := B.exec
  have hb := B.bytes
  have hr := B.returns
  have hG : ∀ w ∈ aw_G, w.before _ s = true := fun w h => atoms_spec (ws := ws_Id_back) B.pre w (List.mem_cons_of_mem _ h)
  have hown : s.vm.findClass "RuleCiphers$Idea" = some m.cls := findClass_of_methodNamed B.named
  have hlocks := B.notSynchronized
  have hE := hU.1
  have hK := hE.1
  have hN := hE.2.1
  have hS : va_S (aw_Z N0) s.heap s.heap [] := va_S.rf
  have hl := lv_entry ([.ref (aw_c ad j 12), .long b] : List Value) (n := 6) (Nat.le_of_ble_eq_true rfl)
  rw [lg_entry_eq]
  generalize (lg_sl ([.ref (aw_c ad j 12), .long b] : List Value) ++ List.replicate (6 - (lg_sl ([.ref (aw_c ad j 12), .long b] : List Value)).length) Slot.unset).toArray = ls at hl ⊢
  have hl : lv_has ls 6 [(0, .ref (aw_c ad j 12)), (1, .long b)] := hl
  refine lv_lload_n hx hb d_Id_back_0 rfl (lv_at hl 1 rfl) ?_
  refine lv_aload_n hx hb d_Id_back_1 rfl (lv_at hl 0 rfl) ?_
  have he1 := rd_C12 hSh hj
  refine va_get (C := R_Id) (T := T_Id) (N := 2) (v := .ref (aw_c ad j 14)) hx hb hG in_Id hown hK hP (3 + 16 * j + 12) he1 rfl 1 (by decide) (hG _ gw_1_31) (fun _ h => h) rfl d_Id_back_2 ?_
  refine lv_bipush (v := nI 48) hx hb d_Id_back_5 (by decide +kernel) ?_
  refine va_calll (va_runS (As := [.long b, .ref (aw_c ad j 14), .int (nI 48)]) (rest := []) ⟨hx, hb, hml, hown, hG⟩ (k_Id_keyed14 l D g ad G M F N0 j 48 b hj (by omega)) (aw_wS 3 hG gw_6_16 gw_6_14 gw_0_8 gw_6_15 rfl rfl hd_Id_keyed ⟨Nat.le_of_ble_eq_true rfl, Nat.le_of_ble_eq_true rfl⟩) (aw_qS hP hD hSh hU hS) rfl rfl hl.1 rfl (lv_room (Nat.le_of_ble_eq_true rfl)) d_Id_back_7 ⟨Nat.le_of_ble_eq_true rfl, Nat.le_of_ble_eq_true rfl⟩) hS (fun _ _ h => h) (fun _ h => h) (fun y2 u8 t8 H locs ht _ _ hB _ _ hS => ?_)
  obtain ⟨L, hP, hD, hSh⟩ := hB
  rw [ht] at hP
  clear ht
  refine aw_cl ((va_runS (As := [.long y2]) (rest := []) ⟨hx, hb, hml, hown, hG⟩ (k_Id_middleSwapped l y2) (aw_wS 1 hG gw_6_23 gw_6_21 gw_0_8 gw_6_22 rfl rfl hd_Id_middleSwapped ⟨Nat.le_of_ble_eq_true rfl, Nat.le_of_ble_eq_true rfl⟩) aw_p0 rfl rfl hl.1 rfl (lv_room (Nat.le_of_ble_eq_true rfl)) d_Id_back_10 ⟨Nat.le_of_ble_eq_true rfl, Nat.le_of_ble_eq_true rfl⟩).run) (fun y3 hy3 => ?_)
  refine lv_lstore_n hx hb d_Id_back_13 rfl hl (by decide) rfl (fun ls hl => ?_)
  have hl : lv_has ls 6 [(3, .long y3), (0, .ref (aw_c ad j 12)), (1, .long b)] := hl
  refine lv_bipush (v := nI 7) hx hb d_Id_back_14 (by decide +kernel) ?_
  refine lv_istore hx hb d_Id_back_16 hl (by decide) rfl (fun ls hl => ?_)
  have hl : lv_has ls 6 [(5, .int (nI 7)), (3, .long y3), (0, .ref (aw_c ad j 12)), (1, .long b)] := hl
  have L18 : ∀ (d t : Nat) (y4 : Int64) (H : Heap) (locs : List Loc) (L : va_W) (ls : Array Slot), t + d = 8 → va_P D aw_C L H → va_D (aw_Z N0) L → aw_Sh g ad G M F L → va_S (aw_Z N0) s.heap H locs → lv_has ls 6 [(0, .ref (aw_c ad j 12)), (1, .long b), (3, .long y4), (5, .int (aw_dn d))] → W p l e (headSpec ws_Id_back rm_Id_back).room s m ([.ref (aw_c ad j 12), .long b] : List Value).toArray below meth c H locs 0 0 (MQ below (va_Ql (fun r (_ : Unit) => True) (fun (_ : Unit) t => aw_H D g ad G M F N0 t.heap) (aw_Z N0)) ([.ref (aw_c ad j 12), .long b] : List Value).toArray s 0 0 (aw_Z N0)) (F0 m 18 ls []) := by
    clear hP hD hSh hS
    clear hl
    intro d
    induction d with
    | zero => 
      intro t y4 H locs L ls ht0 hP hD hSh hS hl
      have hl : lv_has ls 6 [(0, .ref (aw_c ad j 12)), (1, .long b), (3, .long y4), (5, .int (aw_dn 0))] := hl
      refine lv_iload hx hb d_Id_back_18 (lv_at hl 3 rfl) ?_
      refine lv_if_lt (tgt := 57) hx hb d_Id_back_20 (by decide) (fun _ => ?_) (fun h => absurd (by decide +kernel) h)
      refine lv_lload_n hx hb d_Id_back_57 rfl (lv_at hl 2 rfl) ?_
      exact W.lret hx hb hr (fun t ht hW => ⟨⟨_, (), rfl, trivial, aw_Hr ht hP hD hSh⟩, hS.F ht⟩) hS.2.2 d_Id_back_58
    | succ d ih => 
      intro t y4 H locs L ls ht0 hP hD hSh hS hl
      have hl : lv_has ls 6 [(0, .ref (aw_c ad j 12)), (1, .long b), (3, .long y4), (5, .int (nI d))] := hl
      refine lv_iload hx hb d_Id_back_18 (lv_at hl 3 rfl) ?_
      refine lv_if_lt (tgt := 57) hx hb d_Id_back_20 (by decide) (fun h => absurd h (show ¬ nI d < nI 0 from fun h9 => absurd ((nI_ltI (by omega) (by omega)).mp h9) (by omega))) (fun _ => ?_)
      refine lv_aload_n hx hb d_Id_back_23 rfl (lv_at hl 0 rfl) ?_
      refine lv_lload_n hx hb d_Id_back_24 rfl (lv_at hl 2 rfl) ?_
      refine aw_cl ((va_runS (As := [.long y4]) (rest := [.ref (aw_c ad j 12)]) ⟨hx, hb, hml, hown, hG⟩ (k_Id_middleSwapped l y4) (aw_wS 1 hG gw_6_23 gw_6_21 gw_0_8 gw_6_22 rfl rfl hd_Id_middleSwapped ⟨Nat.le_of_ble_eq_true rfl, Nat.le_of_ble_eq_true rfl⟩) aw_p0 rfl rfl hl.1 rfl (lv_room (Nat.le_of_ble_eq_true rfl)) d_Id_back_25 ⟨Nat.le_of_ble_eq_true rfl, Nat.le_of_ble_eq_true rfl⟩).run) (fun y5 hy5 => ?_)
      refine lv_bipush (v := nI 6) hx hb d_Id_back_28 (by decide +kernel) ?_
      refine lv_iload hx hb d_Id_back_30 (lv_at hl 3 rfl) ?_
      refine lv_imul hx hb d_Id_back_32 ?_
      refine aw_ti (pk_mul 6 d) ?_
      refine lv_iconst (v := nI 4) hx hb d_Id_back_33 (by decide +kernel) ?_
      refine lv_iadd hx hb d_Id_back_34 ?_
      refine aw_ti (nI_add (6 * d) 4) ?_
      have he6 := rd_C12 hSh hj
      refine va_calll (va_runV (As := [.long y5, .int (nI ((6 * d) + 4))]) (rest := []) ⟨hx, hb, hml, hown, hG⟩ (k_Id_mixed l D g ad G M F N0 j ((6 * d) + 4) y5 hj (by omega)) (aw_wV 2 hG gw_6_26 gw_6_24 gw_0_8 gw_6_25 gw_p_2 rfl rfl hd_Id_mixed ⟨Nat.le_of_ble_eq_true rfl, Nat.le_of_ble_eq_true rfl⟩) (aw_qV (va_recv hK hP rfl he6) hP hD hSh hU hS) rfl rfl hl.1 rfl (lv_room (Nat.le_of_ble_eq_true rfl)) d_Id_back_35 ⟨Nat.le_of_ble_eq_true rfl, Nat.le_of_ble_eq_true rfl⟩) hS (fun _ _ h => h) (fun _ h => h) (fun y7 u8 t8 H locs ht _ _ hB _ _ hS => ?_)
      obtain ⟨L, hP, hD, hSh⟩ := hB
      rw [ht] at hP
      clear ht
      refine lv_aload_n hx hb d_Id_back_38 rfl (lv_at hl 0 rfl) ?_
      have he8 := rd_C12 hSh hj
      refine va_get (C := R_Id) (T := T_Id) (N := 2) (v := .ref (aw_c ad j 14)) hx hb hG in_Id hown hK hP (3 + 16 * j + 12) he8 rfl 1 (by decide) (hG _ gw_1_31) (fun _ h => h) rfl d_Id_back_39 ?_
      refine lv_bipush (v := nI 6) hx hb d_Id_back_42 (by decide +kernel) ?_
      refine lv_iload hx hb d_Id_back_44 (lv_at hl 3 rfl) ?_
      refine lv_imul hx hb d_Id_back_46 ?_
      refine aw_ti (pk_mul 6 d) ?_
      refine va_calll (va_runS (As := [.long y7, .ref (aw_c ad j 14), .int (nI (6 * d))]) (rest := []) ⟨hx, hb, hml, hown, hG⟩ (k_Id_keyed14 l D g ad G M F N0 j (6 * d) y7 hj (by omega)) (aw_wS 3 hG gw_6_16 gw_6_14 gw_0_8 gw_6_15 rfl rfl hd_Id_keyed ⟨Nat.le_of_ble_eq_true rfl, Nat.le_of_ble_eq_true rfl⟩) (aw_qS hP hD hSh hU hS) rfl rfl hl.1 rfl (lv_room (Nat.le_of_ble_eq_true rfl)) d_Id_back_47 ⟨Nat.le_of_ble_eq_true rfl, Nat.le_of_ble_eq_true rfl⟩) hS (fun _ _ h => h) (fun _ h => h) (fun y9 u8 t8 H locs ht _ _ hB _ _ hS => ?_)
      obtain ⟨L, hP, hD, hSh⟩ := hB
      rw [ht] at hP
      clear ht
      refine lv_lstore_n hx hb d_Id_back_50 rfl hl (by decide) rfl (fun ls hl => ?_)
      have hl : lv_has ls 6 [(3, .long y9), (0, .ref (aw_c ad j 12)), (1, .long b), (5, .int (nI d))] := hl
      refine lv_iinc (k := 3) (v := aw_dn d) hx hb d_Id_back_51 hl rfl (aw_dn_i d) (by decide) rfl (fun ls hl => ?_)
      have hl : lv_has ls 6 [(5, .int (aw_dn d)), (3, .long y9), (0, .ref (aw_c ad j 12)), (1, .long b)] := hl
      refine lv_goto (tgt := 18) hx hb d_Id_back_54 (by decide) ?_
      have hl := lv_sub hl (l' := [(0, .ref (aw_c ad j 12)), (1, .long b), (3, .long y9), (5, .int (aw_dn d))]) [2, 3, 1, 0] rfl
      exact ih (t + 1) y9 H locs L ls (by omega) hP hD hSh hS (by first | exact hl | simpa [Nat.add_assoc, Nat.mul_add, Nat.add_comm] using hl)
  have hl := lv_sub hl (l' := [(0, .ref (aw_c ad j 12)), (1, .long b), (3, .long y3), (5, .int (nI 7))]) [2, 3, 1, 0] rfl
  exact L18 8 0 y3 _ _ _ ls (by omega) hP hD hSh hS (by first | exact hl | simpa using hl)
