noncomputable def v_Id_keyed13V (zA : Nat → Nat → Nat → Int32) (j : Nat) (k : Nat) (b : Int64) : Int64 := v_Id_ofQuartersV (Int32.toInt64 (v_Id_timesV (v_Id_quarterOfV b (nI 0)) (zA j 13 k))) (Int32.toInt64 ((v_Id_quarterOfV b (nI 1)) + (zA j 13 (k + 1)))) (Int32.toInt64 ((v_Id_quarterOfV b (nI 2)) + (zA j 13 (k + 2)))) (Int32.toInt64 (v_Id_timesV (v_Id_quarterOfV b (nI 3)) (zA j 13 (k + 3))))
abbrev ws_Id_keyed13V : List Cond := Cond.code y_Id_keyed b_Id_keyed 8 (some .long) :: aw_G
abbrev rm_Id_keyed13V : Room := { frames := 1, cells := 0, slots := 0, locals := 27 }
set_option maxHeartbeats 4000000 in
set_option maxRecDepth 100000 in
theorem k_Id_keyed13V (l : Launch) (D : va_G) (g : Nat → ClassId) (ad : Nat → Nat) (N0 : Nat) (zG : Nat → Nat × Nat) (zO : Nat → Nat) (zX : Nat → Nat → Int64) (zY : Nat → Nat → Int32) (zA : Nat → Nat → Nat → Int32) (zB : Nat → Int32) (zM : Nat → Nat × Nat) (zI : Nat → Nat → Int32) (zL : Nat → Nat → Int64) (zK : Int32) (zN : Nat) (zF : Int32) (zQ : Int64) (j : Nat) (k : Nat) (b : Int64) (hj : j < 4) (hk : k ≤ 48) : Met l y_Id_keyed ws_Id_keyed13V rm_Id_keyed13V (va_Pc ([.long b, .ref (aw_c ad j 13), .int (nI k)] : List Value) (ag_B D g N0 (az_Sh g ad zG zO zX zY zA zB zM zI zL zK zN zF zQ))) (va_Ql (fun r (_ : Unit) => r = v_Id_keyed13V zA j k b) (fun (_ : Unit) t => ag_H D N0 (az_Sh g ad zG zO zX zY zA zB zM zI zL zK zN zF zQ) t.heap) (aw_Z N0)) 0 0 (aw_Z N0) := by
  refine Met.ofW (cc := b_Id_keyed) (maxL := 8) (ret := (some .long)) (by decide) rfl ?_
  intro p e s m args below meth c s₁ B hml hv
  obtain ⟨rfl, ⟨L, hP, hD, hSh⟩, hU⟩ := hv
  have hx := B.exec
  have hb := B.bytes
  have hr := B.returns
  have hG : ∀ w ∈ aw_G, w.before _ s = true := fun w h => atoms_spec (ws := ws_Id_keyed13V) B.pre w (List.mem_cons_of_mem _ h)
  have hown : s.vm.findClass "RuleCiphers$Idea" = some m.cls := findClass_of_methodNamed B.named
  have hlocks := B.notSynchronized
  have hE := hU.1
  have hK := hE.1
  have hN := hE.2.1
  have hS : va_S (aw_Z N0) s.heap s.heap [] := va_S.rf
  have hl := lv_entry ([.long b, .ref (aw_c ad j 13), .int (nI k)] : List Value) (n := 8) (Nat.le_of_ble_eq_true rfl)
  rw [lg_entry_eq]
  generalize (lg_sl ([.long b, .ref (aw_c ad j 13), .int (nI k)] : List Value) ++ List.replicate (8 - (lg_sl ([.long b, .ref (aw_c ad j 13), .int (nI k)] : List Value)).length) Slot.unset).toArray = ls at hl ⊢
  have hl : lv_has ls 8 [(0, .long b), (2, .ref (aw_c ad j 13)), (3, .int (nI k))] := hl
  refine lv_lload_n hx hb d_Id_keyed_0 rfl (lv_at hl 0 rfl) ?_
  refine lv_iconst (v := nI 0) hx hb d_Id_keyed_1 (by decide +kernel) ?_
  refine aw_ci ((va_runS (As := [.long b, .int (nI 0)]) (rest := []) ⟨hx, hb, hml, hown, hG⟩ (k_Id_quarterOfV l b (nI 0)) (aw_wS 2 hG gw_4_35 gw_4_33 gw_0_8 gw_4_34 rfl rfl hd_Id_quarterOf ⟨Nat.le_of_ble_eq_true rfl, Nat.le_of_ble_eq_true rfl⟩) aw_p0 rfl rfl hl.1 rfl (lv_room (Nat.le_of_ble_eq_true rfl)) d_Id_keyed_2 ⟨Nat.le_of_ble_eq_true rfl, Nat.le_of_ble_eq_true rfl⟩).run) (fun x1 ex1 => ?_)
  have ex1 := ex1.symm
  refine lv_aload_n hx hb d_Id_keyed_5 rfl (lv_at hl 1 rfl) ?_
  refine lv_iload_n hx hb d_Id_keyed_6 rfl (lv_at hl 2 rfl) ?_
  have he2 := zr_C13 hSh hj
  refine aw_ild hx hb hK hP (3 + 16 * j + 13) 0 he2 rfl (k := k) (by omega) (by decide) d_Id_keyed_7 ?_
  clear he2
  refine ag_topi (fun x3 ex3 => ?_)
  refine aw_ci ((va_runS (As := [.int x1, .int x3]) (rest := []) ⟨hx, hb, hml, hown, hG⟩ (k_Id_timesV l x1 x3) (aw_wS 2 hG gw_4_42 gw_4_40 gw_0_8 gw_4_41 rfl rfl hd_Id_times ⟨Nat.le_of_ble_eq_true rfl, Nat.le_of_ble_eq_true rfl⟩) aw_p0 rfl rfl hl.1 rfl (lv_room (Nat.le_of_ble_eq_true rfl)) d_Id_keyed_8 ⟨Nat.le_of_ble_eq_true rfl, Nat.le_of_ble_eq_true rfl⟩).run) (fun x4 ex4 => ?_)
  have ex4 := ex4.symm
  refine lv_istore hx hb d_Id_keyed_11 hl (by decide) rfl (fun ls hl => ?_)
  have hl : lv_has ls 8 [(4, .int x4), (0, .long b), (2, .ref (aw_c ad j 13)), (3, .int (nI k))] := hl
  refine lv_lload_n hx hb d_Id_keyed_13 rfl (lv_at hl 1 rfl) ?_
  refine lv_iconst (v := nI 1) hx hb d_Id_keyed_14 (by decide +kernel) ?_
  refine aw_ci ((va_runS (As := [.long b, .int (nI 1)]) (rest := []) ⟨hx, hb, hml, hown, hG⟩ (k_Id_quarterOfV l b (nI 1)) (aw_wS 2 hG gw_4_35 gw_4_33 gw_0_8 gw_4_34 rfl rfl hd_Id_quarterOf ⟨Nat.le_of_ble_eq_true rfl, Nat.le_of_ble_eq_true rfl⟩) aw_p0 rfl rfl hl.1 rfl (lv_room (Nat.le_of_ble_eq_true rfl)) d_Id_keyed_15 ⟨Nat.le_of_ble_eq_true rfl, Nat.le_of_ble_eq_true rfl⟩).run) (fun x5 ex5 => ?_)
  have ex5 := ex5.symm
  refine lv_aload_n hx hb d_Id_keyed_18 rfl (lv_at hl 2 rfl) ?_
  refine lv_iload_n hx hb d_Id_keyed_19 rfl (lv_at hl 3 rfl) ?_
  refine lv_iconst (v := nI 1) hx hb d_Id_keyed_20 (by decide +kernel) ?_
  refine lv_iadd hx hb d_Id_keyed_21 ?_
  refine aw_ti (nI_add k 1) ?_
  have he6 := zr_C13 hSh hj
  refine aw_ild hx hb hK hP (3 + 16 * j + 13) 0 he6 rfl (k := (k + 1)) (by omega) (by decide) d_Id_keyed_22 ?_
  clear he6
  refine ag_topi (fun x7 ex7 => ?_)
  refine lv_iadd hx hb d_Id_keyed_23 ?_
  refine ag_topi (fun x8 ex8 => ?_)
  refine lv_istore hx hb d_Id_keyed_24 hl (by decide) rfl (fun ls hl => ?_)
  have hl : lv_has ls 8 [(5, .int x8), (4, .int x4), (0, .long b), (2, .ref (aw_c ad j 13)), (3, .int (nI k))] := hl
  refine lv_lload_n hx hb d_Id_keyed_26 rfl (lv_at hl 2 rfl) ?_
  refine lv_iconst (v := nI 2) hx hb d_Id_keyed_27 (by decide +kernel) ?_
  refine aw_ci ((va_runS (As := [.long b, .int (nI 2)]) (rest := []) ⟨hx, hb, hml, hown, hG⟩ (k_Id_quarterOfV l b (nI 2)) (aw_wS 2 hG gw_4_35 gw_4_33 gw_0_8 gw_4_34 rfl rfl hd_Id_quarterOf ⟨Nat.le_of_ble_eq_true rfl, Nat.le_of_ble_eq_true rfl⟩) aw_p0 rfl rfl hl.1 rfl (lv_room (Nat.le_of_ble_eq_true rfl)) d_Id_keyed_28 ⟨Nat.le_of_ble_eq_true rfl, Nat.le_of_ble_eq_true rfl⟩).run) (fun x9 ex9 => ?_)
  have ex9 := ex9.symm
  refine lv_aload_n hx hb d_Id_keyed_31 rfl (lv_at hl 3 rfl) ?_
  refine lv_iload_n hx hb d_Id_keyed_32 rfl (lv_at hl 4 rfl) ?_
  refine lv_iconst (v := nI 2) hx hb d_Id_keyed_33 (by decide +kernel) ?_
  refine lv_iadd hx hb d_Id_keyed_34 ?_
  refine aw_ti (nI_add k 2) ?_
  have he10 := zr_C13 hSh hj
  refine aw_ild hx hb hK hP (3 + 16 * j + 13) 0 he10 rfl (k := (k + 2)) (by omega) (by decide) d_Id_keyed_35 ?_
  clear he10
  refine ag_topi (fun x11 ex11 => ?_)
  refine lv_iadd hx hb d_Id_keyed_36 ?_
  refine ag_topi (fun x12 ex12 => ?_)
  refine lv_istore hx hb d_Id_keyed_37 hl (by decide) rfl (fun ls hl => ?_)
  have hl : lv_has ls 8 [(6, .int x12), (5, .int x8), (4, .int x4), (0, .long b), (2, .ref (aw_c ad j 13)), (3, .int (nI k))] := hl
  refine lv_lload_n hx hb d_Id_keyed_39 rfl (lv_at hl 3 rfl) ?_
  refine lv_iconst (v := nI 3) hx hb d_Id_keyed_40 (by decide +kernel) ?_
  refine aw_ci ((va_runS (As := [.long b, .int (nI 3)]) (rest := []) ⟨hx, hb, hml, hown, hG⟩ (k_Id_quarterOfV l b (nI 3)) (aw_wS 2 hG gw_4_35 gw_4_33 gw_0_8 gw_4_34 rfl rfl hd_Id_quarterOf ⟨Nat.le_of_ble_eq_true rfl, Nat.le_of_ble_eq_true rfl⟩) aw_p0 rfl rfl hl.1 rfl (lv_room (Nat.le_of_ble_eq_true rfl)) d_Id_keyed_41 ⟨Nat.le_of_ble_eq_true rfl, Nat.le_of_ble_eq_true rfl⟩).run) (fun x13 ex13 => ?_)
  have ex13 := ex13.symm
  refine lv_aload_n hx hb d_Id_keyed_44 rfl (lv_at hl 4 rfl) ?_
  refine lv_iload_n hx hb d_Id_keyed_45 rfl (lv_at hl 5 rfl) ?_
  refine lv_iconst (v := nI 3) hx hb d_Id_keyed_46 (by decide +kernel) ?_
  refine lv_iadd hx hb d_Id_keyed_47 ?_
  refine aw_ti (nI_add k 3) ?_
  have he14 := zr_C13 hSh hj
  refine aw_ild hx hb hK hP (3 + 16 * j + 13) 0 he14 rfl (k := (k + 3)) (by omega) (by decide) d_Id_keyed_48 ?_
  clear he14
  refine ag_topi (fun x15 ex15 => ?_)
  refine aw_ci ((va_runS (As := [.int x13, .int x15]) (rest := []) ⟨hx, hb, hml, hown, hG⟩ (k_Id_timesV l x13 x15) (aw_wS 2 hG gw_4_42 gw_4_40 gw_0_8 gw_4_41 rfl rfl hd_Id_times ⟨Nat.le_of_ble_eq_true rfl, Nat.le_of_ble_eq_true rfl⟩) aw_p0 rfl rfl hl.1 rfl (lv_room (Nat.le_of_ble_eq_true rfl)) d_Id_keyed_49 ⟨Nat.le_of_ble_eq_true rfl, Nat.le_of_ble_eq_true rfl⟩).run) (fun x16 ex16 => ?_)
  have ex16 := ex16.symm
  refine lv_istore hx hb d_Id_keyed_52 hl (by decide) rfl (fun ls hl => ?_)
  have hl : lv_has ls 8 [(7, .int x16), (6, .int x12), (5, .int x8), (4, .int x4), (0, .long b), (2, .ref (aw_c ad j 13)), (3, .int (nI k))] := hl
  refine lv_iload hx hb d_Id_keyed_54 (lv_at hl 3 rfl) ?_
  refine lv_i2l hx hb d_Id_keyed_56 rfl ?_
  refine ag_topl (fun y17 ey17 => ?_)
  refine lv_iload hx hb d_Id_keyed_57 (lv_at hl 2 rfl) ?_
  refine lv_i2l hx hb d_Id_keyed_59 rfl ?_
  refine ag_topl (fun y18 ey18 => ?_)
  refine lv_iload hx hb d_Id_keyed_60 (lv_at hl 1 rfl) ?_
  refine lv_i2l hx hb d_Id_keyed_62 rfl ?_
  refine ag_topl (fun y19 ey19 => ?_)
  refine lv_iload hx hb d_Id_keyed_63 (lv_at hl 0 rfl) ?_
  refine lv_i2l hx hb d_Id_keyed_65 rfl ?_
  refine ag_topl (fun y20 ey20 => ?_)
  refine aw_cl ((va_runS (As := [.long y17, .long y18, .long y19, .long y20]) (rest := []) ⟨hx, hb, hml, hown, hG⟩ (k_Id_ofQuartersV l y17 y18 y19 y20) (aw_wS 4 hG gw_6_19 gw_6_17 gw_0_8 gw_6_18 rfl rfl hd_Id_ofQuarters ⟨Nat.le_of_ble_eq_true rfl, Nat.le_of_ble_eq_true rfl⟩) aw_p0 rfl rfl hl.1 rfl (lv_room (Nat.le_of_ble_eq_true rfl)) d_Id_keyed_66 ⟨Nat.le_of_ble_eq_true rfl, Nat.le_of_ble_eq_true rfl⟩).run) (fun y21 ey21 => ?_)
  have ey21 := ey21.symm
  exact W.lret hx hb hr (fun t ht hW => ⟨⟨_, (), rfl, (by subst ey21 ey20 ey19 ey18 ey17 ex16 ex15 ex13 ex12 ex11 ex9 ex8 ex7 ex5 ex4 ex3 ex1; rfl), ag_Hr ht hP hD hSh⟩, hS.F ht⟩) hS.2.2 d_Id_keyed_69
noncomputable def v_Id_keyed14V (zA : Nat → Nat → Nat → Int32) (j : Nat) (k : Nat) (b : Int64) : Int64 := v_Id_ofQuartersV (Int32.toInt64 (v_Id_timesV (v_Id_quarterOfV b (nI 0)) (zA j 14 k))) (Int32.toInt64 ((v_Id_quarterOfV b (nI 1)) + (zA j 14 (k + 1)))) (Int32.toInt64 ((v_Id_quarterOfV b (nI 2)) + (zA j 14 (k + 2)))) (Int32.toInt64 (v_Id_timesV (v_Id_quarterOfV b (nI 3)) (zA j 14 (k + 3))))
abbrev ws_Id_keyed14V : List Cond := Cond.code y_Id_keyed b_Id_keyed 8 (some .long) :: aw_G
abbrev rm_Id_keyed14V : Room := { frames := 1, cells := 0, slots := 0, locals := 27 }
set_option maxHeartbeats 4000000 in
set_option maxRecDepth 100000 in
theorem k_Id_keyed14V (l : Launch) (D : va_G) (g : Nat → ClassId) (ad : Nat → Nat) (N0 : Nat) (zG : Nat → Nat × Nat) (zO : Nat → Nat) (zX : Nat → Nat → Int64) (zY : Nat → Nat → Int32) (zA : Nat → Nat → Nat → Int32) (zB : Nat → Int32) (zM : Nat → Nat × Nat) (zI : Nat → Nat → Int32) (zL : Nat → Nat → Int64) (zK : Int32) (zN : Nat) (zF : Int32) (zQ : Int64) (j : Nat) (k : Nat) (b : Int64) (hj : j < 4) (hk : k ≤ 48) : Met l y_Id_keyed ws_Id_keyed14V rm_Id_keyed14V (va_Pc ([.long b, .ref (aw_c ad j 14), .int (nI k)] : List Value) (ag_B D g N0 (az_Sh g ad zG zO zX zY zA zB zM zI zL zK zN zF zQ))) (va_Ql (fun r (_ : Unit) => r = v_Id_keyed14V zA j k b) (fun (_ : Unit) t => ag_H D N0 (az_Sh g ad zG zO zX zY zA zB zM zI zL zK zN zF zQ) t.heap) (aw_Z N0)) 0 0 (aw_Z N0) := by
  refine Met.ofW (cc := b_Id_keyed) (maxL := 8) (ret := (some .long)) (by decide) rfl ?_
  intro p e s m args below meth c s₁ B hml hv
  obtain ⟨rfl, ⟨L, hP, hD, hSh⟩, hU⟩ := hv
  have hx := B.exec
  have hb := B.bytes
  have hr := B.returns
  have hG : ∀ w ∈ aw_G, w.before _ s = true := fun w h => atoms_spec (ws := ws_Id_keyed14V) B.pre w (List.mem_cons_of_mem _ h)
  have hown : s.vm.findClass "RuleCiphers$Idea" = some m.cls := findClass_of_methodNamed B.named
  have hlocks := B.notSynchronized
  have hE := hU.1
  have hK := hE.1
  have hN := hE.2.1
  have hS : va_S (aw_Z N0) s.heap s.heap [] := va_S.rf
  have hl := lv_entry ([.long b, .ref (aw_c ad j 14), .int (nI k)] : List Value) (n := 8) (Nat.le_of_ble_eq_true rfl)
  rw [lg_entry_eq]
  generalize (lg_sl ([.long b, .ref (aw_c ad j 14), .int (nI k)] : List Value) ++ List.replicate (8 - (lg_sl ([.long b, .ref (aw_c ad j 14), .int (nI k)] : List Value)).length) Slot.unset).toArray = ls at hl ⊢
  have hl : lv_has ls 8 [(0, .long b), (2, .ref (aw_c ad j 14)), (3, .int (nI k))] := hl
  refine lv_lload_n hx hb d_Id_keyed_0 rfl (lv_at hl 0 rfl) ?_
  refine lv_iconst (v := nI 0) hx hb d_Id_keyed_1 (by decide +kernel) ?_
  refine aw_ci ((va_runS (As := [.long b, .int (nI 0)]) (rest := []) ⟨hx, hb, hml, hown, hG⟩ (k_Id_quarterOfV l b (nI 0)) (aw_wS 2 hG gw_4_35 gw_4_33 gw_0_8 gw_4_34 rfl rfl hd_Id_quarterOf ⟨Nat.le_of_ble_eq_true rfl, Nat.le_of_ble_eq_true rfl⟩) aw_p0 rfl rfl hl.1 rfl (lv_room (Nat.le_of_ble_eq_true rfl)) d_Id_keyed_2 ⟨Nat.le_of_ble_eq_true rfl, Nat.le_of_ble_eq_true rfl⟩).run) (fun x1 ex1 => ?_)
  have ex1 := ex1.symm
  refine lv_aload_n hx hb d_Id_keyed_5 rfl (lv_at hl 1 rfl) ?_
  refine lv_iload_n hx hb d_Id_keyed_6 rfl (lv_at hl 2 rfl) ?_
  have he2 := zr_C14 hSh hj
  refine aw_ild hx hb hK hP (3 + 16 * j + 14) 0 he2 rfl (k := k) (by omega) (by decide) d_Id_keyed_7 ?_
  clear he2
  refine ag_topi (fun x3 ex3 => ?_)
  refine aw_ci ((va_runS (As := [.int x1, .int x3]) (rest := []) ⟨hx, hb, hml, hown, hG⟩ (k_Id_timesV l x1 x3) (aw_wS 2 hG gw_4_42 gw_4_40 gw_0_8 gw_4_41 rfl rfl hd_Id_times ⟨Nat.le_of_ble_eq_true rfl, Nat.le_of_ble_eq_true rfl⟩) aw_p0 rfl rfl hl.1 rfl (lv_room (Nat.le_of_ble_eq_true rfl)) d_Id_keyed_8 ⟨Nat.le_of_ble_eq_true rfl, Nat.le_of_ble_eq_true rfl⟩).run) (fun x4 ex4 => ?_)
  have ex4 := ex4.symm
  refine lv_istore hx hb d_Id_keyed_11 hl (by decide) rfl (fun ls hl => ?_)
  have hl : lv_has ls 8 [(4, .int x4), (0, .long b), (2, .ref (aw_c ad j 14)), (3, .int (nI k))] := hl
  refine lv_lload_n hx hb d_Id_keyed_13 rfl (lv_at hl 1 rfl) ?_
  refine lv_iconst (v := nI 1) hx hb d_Id_keyed_14 (by decide +kernel) ?_
  refine aw_ci ((va_runS (As := [.long b, .int (nI 1)]) (rest := []) ⟨hx, hb, hml, hown, hG⟩ (k_Id_quarterOfV l b (nI 1)) (aw_wS 2 hG gw_4_35 gw_4_33 gw_0_8 gw_4_34 rfl rfl hd_Id_quarterOf ⟨Nat.le_of_ble_eq_true rfl, Nat.le_of_ble_eq_true rfl⟩) aw_p0 rfl rfl hl.1 rfl (lv_room (Nat.le_of_ble_eq_true rfl)) d_Id_keyed_15 ⟨Nat.le_of_ble_eq_true rfl, Nat.le_of_ble_eq_true rfl⟩).run) (fun x5 ex5 => ?_)
  have ex5 := ex5.symm
  refine lv_aload_n hx hb d_Id_keyed_18 rfl (lv_at hl 2 rfl) ?_
  refine lv_iload_n hx hb d_Id_keyed_19 rfl (lv_at hl 3 rfl) ?_
  refine lv_iconst (v := nI 1) hx hb d_Id_keyed_20 (by decide +kernel) ?_
  refine lv_iadd hx hb d_Id_keyed_21 ?_
  refine aw_ti (nI_add k 1) ?_
  have he6 := zr_C14 hSh hj
  refine aw_ild hx hb hK hP (3 + 16 * j + 14) 0 he6 rfl (k := (k + 1)) (by omega) (by decide) d_Id_keyed_22 ?_
  clear he6
  refine ag_topi (fun x7 ex7 => ?_)
  refine lv_iadd hx hb d_Id_keyed_23 ?_
  refine ag_topi (fun x8 ex8 => ?_)
  refine lv_istore hx hb d_Id_keyed_24 hl (by decide) rfl (fun ls hl => ?_)
  have hl : lv_has ls 8 [(5, .int x8), (4, .int x4), (0, .long b), (2, .ref (aw_c ad j 14)), (3, .int (nI k))] := hl
  refine lv_lload_n hx hb d_Id_keyed_26 rfl (lv_at hl 2 rfl) ?_
  refine lv_iconst (v := nI 2) hx hb d_Id_keyed_27 (by decide +kernel) ?_
  refine aw_ci ((va_runS (As := [.long b, .int (nI 2)]) (rest := []) ⟨hx, hb, hml, hown, hG⟩ (k_Id_quarterOfV l b (nI 2)) (aw_wS 2 hG gw_4_35 gw_4_33 gw_0_8 gw_4_34 rfl rfl hd_Id_quarterOf ⟨Nat.le_of_ble_eq_true rfl, Nat.le_of_ble_eq_true rfl⟩) aw_p0 rfl rfl hl.1 rfl (lv_room (Nat.le_of_ble_eq_true rfl)) d_Id_keyed_28 ⟨Nat.le_of_ble_eq_true rfl, Nat.le_of_ble_eq_true rfl⟩).run) (fun x9 ex9 => ?_)
  have ex9 := ex9.symm
  refine lv_aload_n hx hb d_Id_keyed_31 rfl (lv_at hl 3 rfl) ?_
  refine lv_iload_n hx hb d_Id_keyed_32 rfl (lv_at hl 4 rfl) ?_
  refine lv_iconst (v := nI 2) hx hb d_Id_keyed_33 (by decide +kernel) ?_
  refine lv_iadd hx hb d_Id_keyed_34 ?_
  refine aw_ti (nI_add k 2) ?_
  have he10 := zr_C14 hSh hj
  refine aw_ild hx hb hK hP (3 + 16 * j + 14) 0 he10 rfl (k := (k + 2)) (by omega) (by decide) d_Id_keyed_35 ?_
  clear he10
  refine ag_topi (fun x11 ex11 => ?_)
  refine lv_iadd hx hb d_Id_keyed_36 ?_
  refine ag_topi (fun x12 ex12 => ?_)
  refine lv_istore hx hb d_Id_keyed_37 hl (by decide) rfl (fun ls hl => ?_)
  have hl : lv_has ls 8 [(6, .int x12), (5, .int x8), (4, .int x4), (0, .long b), (2, .ref (aw_c ad j 14)), (3, .int (nI k))] := hl
  refine lv_lload_n hx hb d_Id_keyed_39 rfl (lv_at hl 3 rfl) ?_
  refine lv_iconst (v := nI 3) hx hb d_Id_keyed_40 (by decide +kernel) ?_
  refine aw_ci ((va_runS (As := [.long b, .int (nI 3)]) (rest := []) ⟨hx, hb, hml, hown, hG⟩ (k_Id_quarterOfV l b (nI 3)) (aw_wS 2 hG gw_4_35 gw_4_33 gw_0_8 gw_4_34 rfl rfl hd_Id_quarterOf ⟨Nat.le_of_ble_eq_true rfl, Nat.le_of_ble_eq_true rfl⟩) aw_p0 rfl rfl hl.1 rfl (lv_room (Nat.le_of_ble_eq_true rfl)) d_Id_keyed_41 ⟨Nat.le_of_ble_eq_true rfl, Nat.le_of_ble_eq_true rfl⟩).run) (fun x13 ex13 => ?_)
  have ex13 := ex13.symm
  refine lv_aload_n hx hb d_Id_keyed_44 rfl (lv_at hl 4 rfl) ?_
  refine lv_iload_n hx hb d_Id_keyed_45 rfl (lv_at hl 5 rfl) ?_
  refine lv_iconst (v := nI 3) hx hb d_Id_keyed_46 (by decide +kernel) ?_
  refine lv_iadd hx hb d_Id_keyed_47 ?_
  refine aw_ti (nI_add k 3) ?_
  have he14 := zr_C14 hSh hj
  refine aw_ild hx hb hK hP (3 + 16 * j + 14) 0 he14 rfl (k := (k + 3)) (by omega) (by decide) d_Id_keyed_48 ?_
  clear he14
  refine ag_topi (fun x15 ex15 => ?_)
  refine aw_ci ((va_runS (As := [.int x13, .int x15]) (rest := []) ⟨hx, hb, hml, hown, hG⟩ (k_Id_timesV l x13 x15) (aw_wS 2 hG gw_4_42 gw_4_40 gw_0_8 gw_4_41 rfl rfl hd_Id_times ⟨Nat.le_of_ble_eq_true rfl, Nat.le_of_ble_eq_true rfl⟩) aw_p0 rfl rfl hl.1 rfl (lv_room (Nat.le_of_ble_eq_true rfl)) d_Id_keyed_49 ⟨Nat.le_of_ble_eq_true rfl, Nat.le_of_ble_eq_true rfl⟩).run) (fun x16 ex16 => ?_)
  have ex16 := ex16.symm
  refine lv_istore hx hb d_Id_keyed_52 hl (by decide) rfl (fun ls hl => ?_)
  have hl : lv_has ls 8 [(7, .int x16), (6, .int x12), (5, .int x8), (4, .int x4), (0, .long b), (2, .ref (aw_c ad j 14)), (3, .int (nI k))] := hl
  refine lv_iload hx hb d_Id_keyed_54 (lv_at hl 3 rfl) ?_
  refine lv_i2l hx hb d_Id_keyed_56 rfl ?_
  refine ag_topl (fun y17 ey17 => ?_)
  refine lv_iload hx hb d_Id_keyed_57 (lv_at hl 2 rfl) ?_
  refine lv_i2l hx hb d_Id_keyed_59 rfl ?_
  refine ag_topl (fun y18 ey18 => ?_)
  refine lv_iload hx hb d_Id_keyed_60 (lv_at hl 1 rfl) ?_
  refine lv_i2l hx hb d_Id_keyed_62 rfl ?_
  refine ag_topl (fun y19 ey19 => ?_)
  refine lv_iload hx hb d_Id_keyed_63 (lv_at hl 0 rfl) ?_
  refine lv_i2l hx hb d_Id_keyed_65 rfl ?_
  refine ag_topl (fun y20 ey20 => ?_)
  refine aw_cl ((va_runS (As := [.long y17, .long y18, .long y19, .long y20]) (rest := []) ⟨hx, hb, hml, hown, hG⟩ (k_Id_ofQuartersV l y17 y18 y19 y20) (aw_wS 4 hG gw_6_19 gw_6_17 gw_0_8 gw_6_18 rfl rfl hd_Id_ofQuarters ⟨Nat.le_of_ble_eq_true rfl, Nat.le_of_ble_eq_true rfl⟩) aw_p0 rfl rfl hl.1 rfl (lv_room (Nat.le_of_ble_eq_true rfl)) d_Id_keyed_66 ⟨Nat.le_of_ble_eq_true rfl, Nat.le_of_ble_eq_true rfl⟩).run) (fun y21 ey21 => ?_)
  have ey21 := ey21.symm
  exact W.lret hx hb hr (fun t ht hW => ⟨⟨_, (), rfl, (by subst ey21 ey20 ey19 ey18 ey17 ex16 ex15 ex13 ex12 ex11 ex9 ex8 ex7 ex5 ex4 ex3 ex1; rfl), ag_Hr ht hP hD hSh⟩, hS.F ht⟩) hS.2.2 d_Id_keyed_69
noncomputable def v_Id_mixedV (zA : Nat → Nat → Nat → Int32) (j : Nat) (k : Nat) (b : Int64) : Int64 := (b ^^^ (v_Id_ofQuartersV (Int32.toInt64 (v_Id_timesV (((v_Id_timesV ((v_Id_quarterOfV b (nI 0)) ^^^ (v_Id_quarterOfV b (nI 2))) (zA j 13 k)) + ((v_Id_quarterOfV b (nI 1)) ^^^ (v_Id_quarterOfV b (nI 3)))) &&& 65535) (zA j 13 (k + 1)))) (Int32.toInt64 ((v_Id_timesV ((v_Id_quarterOfV b (nI 0)) ^^^ (v_Id_quarterOfV b (nI 2))) (zA j 13 k)) + (v_Id_timesV (((v_Id_timesV ((v_Id_quarterOfV b (nI 0)) ^^^ (v_Id_quarterOfV b (nI 2))) (zA j 13 k)) + ((v_Id_quarterOfV b (nI 1)) ^^^ (v_Id_quarterOfV b (nI 3)))) &&& 65535) (zA j 13 (k + 1))))) (Int32.toInt64 (v_Id_timesV (((v_Id_timesV ((v_Id_quarterOfV b (nI 0)) ^^^ (v_Id_quarterOfV b (nI 2))) (zA j 13 k)) + ((v_Id_quarterOfV b (nI 1)) ^^^ (v_Id_quarterOfV b (nI 3)))) &&& 65535) (zA j 13 (k + 1)))) (Int32.toInt64 ((v_Id_timesV ((v_Id_quarterOfV b (nI 0)) ^^^ (v_Id_quarterOfV b (nI 2))) (zA j 13 k)) + (v_Id_timesV (((v_Id_timesV ((v_Id_quarterOfV b (nI 0)) ^^^ (v_Id_quarterOfV b (nI 2))) (zA j 13 k)) + ((v_Id_quarterOfV b (nI 1)) ^^^ (v_Id_quarterOfV b (nI 3)))) &&& 65535) (zA j 13 (k + 1)))))))
abbrev ws_Id_mixedV : List Cond := Cond.code y_Id_mixed b_Id_mixed 7 (some .long) :: aw_G
abbrev rm_Id_mixedV : Room := { frames := 1, cells := 0, slots := 0, locals := 27 }
set_option maxHeartbeats 4000000 in
set_option maxRecDepth 100000 in
theorem k_Id_mixedV (l : Launch) (D : va_G) (g : Nat → ClassId) (ad : Nat → Nat) (N0 : Nat) (zG : Nat → Nat × Nat) (zO : Nat → Nat) (zX : Nat → Nat → Int64) (zY : Nat → Nat → Int32) (zA : Nat → Nat → Nat → Int32) (zB : Nat → Int32) (zM : Nat → Nat × Nat) (zI : Nat → Nat → Int32) (zL : Nat → Nat → Int64) (zK : Int32) (zN : Nat) (zF : Int32) (zQ : Int64) (j : Nat) (k : Nat) (b : Int64) (hj : j < 4) (hk : k ≤ 50) : Met l y_Id_mixed ws_Id_mixedV rm_Id_mixedV (va_Pc ([.ref (aw_c ad j 12), .long b, .int (nI k)] : List Value) (ag_B D g N0 (az_Sh g ad zG zO zX zY zA zB zM zI zL zK zN zF zQ))) (va_Ql (fun r (_ : Unit) => r = v_Id_mixedV zA j k b) (fun (_ : Unit) t => ag_H D N0 (az_Sh g ad zG zO zX zY zA zB zM zI zL zK zN zF zQ) t.heap) (aw_Z N0)) 0 0 (aw_Z N0) := by
  refine Met.ofW (cc := b_Id_mixed) (maxL := 7) (ret := (some .long)) (by decide) rfl ?_
  intro p e s m args below meth c s₁ B hml hv
  obtain ⟨rfl, ⟨L, hP, hD, hSh⟩, hU⟩ := hv
  have hx := B.exec
  have hb := B.bytes
  have hr := B.returns
  have hG : ∀ w ∈ aw_G, w.before _ s = true := fun w h => atoms_spec (ws := ws_Id_mixedV) B.pre w (List.mem_cons_of_mem _ h)
  have hown : s.vm.findClass "RuleCiphers$Idea" = some m.cls := findClass_of_methodNamed B.named
  have hlocks := B.notSynchronized
  have hE := hU.1
  have hK := hE.1
  have hN := hE.2.1
  have hS : va_S (aw_Z N0) s.heap s.heap [] := va_S.rf
  have hl := lv_entry ([.ref (aw_c ad j 12), .long b, .int (nI k)] : List Value) (n := 7) (Nat.le_of_ble_eq_true rfl)
  rw [lg_entry_eq]
  generalize (lg_sl ([.ref (aw_c ad j 12), .long b, .int (nI k)] : List Value) ++ List.replicate (7 - (lg_sl ([.ref (aw_c ad j 12), .long b, .int (nI k)] : List Value)).length) Slot.unset).toArray = ls at hl ⊢
  have hl : lv_has ls 7 [(0, .ref (aw_c ad j 12)), (1, .long b), (3, .int (nI k))] := hl
  refine lv_lload_n hx hb d_Id_mixed_0 rfl (lv_at hl 1 rfl) ?_
  refine lv_iconst (v := nI 0) hx hb d_Id_mixed_1 (by decide +kernel) ?_
  refine aw_ci ((va_runS (As := [.long b, .int (nI 0)]) (rest := []) ⟨hx, hb, hml, hown, hG⟩ (k_Id_quarterOfV l b (nI 0)) (aw_wS 2 hG gw_4_35 gw_4_33 gw_0_8 gw_4_34 rfl rfl hd_Id_quarterOf ⟨Nat.le_of_ble_eq_true rfl, Nat.le_of_ble_eq_true rfl⟩) aw_p0 rfl rfl hl.1 rfl (lv_room (Nat.le_of_ble_eq_true rfl)) d_Id_mixed_2 ⟨Nat.le_of_ble_eq_true rfl, Nat.le_of_ble_eq_true rfl⟩).run) (fun x1 ex1 => ?_)
  have ex1 := ex1.symm
  refine lv_lload_n hx hb d_Id_mixed_5 rfl (lv_at hl 1 rfl) ?_
  refine lv_iconst (v := nI 2) hx hb d_Id_mixed_6 (by decide +kernel) ?_
  refine aw_ci ((va_runS (As := [.long b, .int (nI 2)]) (rest := [.int x1]) ⟨hx, hb, hml, hown, hG⟩ (k_Id_quarterOfV l b (nI 2)) (aw_wS 2 hG gw_4_35 gw_4_33 gw_0_8 gw_4_34 rfl rfl hd_Id_quarterOf ⟨Nat.le_of_ble_eq_true rfl, Nat.le_of_ble_eq_true rfl⟩) aw_p0 rfl rfl hl.1 rfl (lv_room (Nat.le_of_ble_eq_true rfl)) d_Id_mixed_7 ⟨Nat.le_of_ble_eq_true rfl, Nat.le_of_ble_eq_true rfl⟩).run) (fun x2 ex2 => ?_)
  have ex2 := ex2.symm
  refine lv_ixor hx hb d_Id_mixed_10 ?_
  refine ag_topi (fun x3 ex3 => ?_)
  refine lv_aload_n hx hb d_Id_mixed_11 rfl (lv_at hl 0 rfl) ?_
  have he4 := zr_C12 hSh hj
  refine va_get (C := R_Id) (T := T_Id) (N := 2) (v := .ref (aw_c ad j 13)) hx hb hG in_Id hown hK hP (3 + 16 * j + 12) he4 rfl 0 (by decide) (hG _ gw_0_46) (fun x9 h9 => u_same (hG _ gw_0_47) x9 h9) rfl d_Id_mixed_12 ?_
  clear he4
  refine lv_iload_n hx hb d_Id_mixed_15 rfl (lv_at hl 2 rfl) ?_
  have he5 := zr_C13 hSh hj
  refine aw_ild hx hb hK hP (3 + 16 * j + 13) 0 he5 rfl (k := k) (by omega) (by decide) d_Id_mixed_16 ?_
  clear he5
  refine ag_topi (fun x6 ex6 => ?_)
  refine aw_ci ((va_runS (As := [.int x3, .int x6]) (rest := []) ⟨hx, hb, hml, hown, hG⟩ (k_Id_timesV l x3 x6) (aw_wS 2 hG gw_4_42 gw_4_40 gw_0_8 gw_4_41 rfl rfl hd_Id_times ⟨Nat.le_of_ble_eq_true rfl, Nat.le_of_ble_eq_true rfl⟩) aw_p0 rfl rfl hl.1 rfl (lv_room (Nat.le_of_ble_eq_true rfl)) d_Id_mixed_17 ⟨Nat.le_of_ble_eq_true rfl, Nat.le_of_ble_eq_true rfl⟩).run) (fun x7 ex7 => ?_)
  have ex7 := ex7.symm
  refine lv_istore hx hb d_Id_mixed_20 hl (by decide) rfl (fun ls hl => ?_)
  have hl : lv_has ls 7 [(4, .int x7), (0, .ref (aw_c ad j 12)), (1, .long b), (3, .int (nI k))] := hl
  refine lv_iload hx hb d_Id_mixed_22 (lv_at hl 0 rfl) ?_
  refine lv_lload_n hx hb d_Id_mixed_24 rfl (lv_at hl 2 rfl) ?_
  refine lv_iconst (v := nI 1) hx hb d_Id_mixed_25 (by decide +kernel) ?_
  refine aw_ci ((va_runS (As := [.long b, .int (nI 1)]) (rest := [.int x7]) ⟨hx, hb, hml, hown, hG⟩ (k_Id_quarterOfV l b (nI 1)) (aw_wS 2 hG gw_4_35 gw_4_33 gw_0_8 gw_4_34 rfl rfl hd_Id_quarterOf ⟨Nat.le_of_ble_eq_true rfl, Nat.le_of_ble_eq_true rfl⟩) aw_p0 rfl rfl hl.1 rfl (lv_room (Nat.le_of_ble_eq_true rfl)) d_Id_mixed_26 ⟨Nat.le_of_ble_eq_true rfl, Nat.le_of_ble_eq_true rfl⟩).run) (fun x8 ex8 => ?_)
  have ex8 := ex8.symm
  refine lv_lload_n hx hb d_Id_mixed_29 rfl (lv_at hl 2 rfl) ?_
  refine lv_iconst (v := nI 3) hx hb d_Id_mixed_30 (by decide +kernel) ?_
  refine aw_ci ((va_runS (As := [.long b, .int (nI 3)]) (rest := [.int x8, .int x7]) ⟨hx, hb, hml, hown, hG⟩ (k_Id_quarterOfV l b (nI 3)) (aw_wS 2 hG gw_4_35 gw_4_33 gw_0_8 gw_4_34 rfl rfl hd_Id_quarterOf ⟨Nat.le_of_ble_eq_true rfl, Nat.le_of_ble_eq_true rfl⟩) aw_p0 rfl rfl hl.1 rfl (lv_room (Nat.le_of_ble_eq_true rfl)) d_Id_mixed_31 ⟨Nat.le_of_ble_eq_true rfl, Nat.le_of_ble_eq_true rfl⟩).run) (fun x9 ex9 => ?_)
  have ex9 := ex9.symm
  refine lv_ixor hx hb d_Id_mixed_34 ?_
  refine ag_topi (fun x10 ex10 => ?_)
  refine lv_iadd hx hb d_Id_mixed_35 ?_
  refine ag_topi (fun x11 ex11 => ?_)
  refine lv_ldc (v := 65535) hx hb hown (hG _ gw_4_36) d_Id_mixed_36 ?_
  refine lv_iand hx hb d_Id_mixed_38 ?_
  refine ag_topi (fun x12 ex12 => ?_)
  refine lv_aload_n hx hb d_Id_mixed_39 rfl (lv_at hl 1 rfl) ?_
  have he13 := zr_C12 hSh hj
  refine va_get (C := R_Id) (T := T_Id) (N := 2) (v := .ref (aw_c ad j 13)) hx hb hG in_Id hown hK hP (3 + 16 * j + 12) he13 rfl 0 (by decide) (hG _ gw_0_46) (fun x9 h9 => u_same (hG _ gw_0_47) x9 h9) rfl d_Id_mixed_40 ?_
  clear he13
  refine lv_iload_n hx hb d_Id_mixed_43 rfl (lv_at hl 3 rfl) ?_
  refine lv_iconst (v := nI 1) hx hb d_Id_mixed_44 (by decide +kernel) ?_
  refine lv_iadd hx hb d_Id_mixed_45 ?_
  refine aw_ti (nI_add k 1) ?_
  have he14 := zr_C13 hSh hj
  refine aw_ild hx hb hK hP (3 + 16 * j + 13) 0 he14 rfl (k := (k + 1)) (by omega) (by decide) d_Id_mixed_46 ?_
  clear he14
  refine ag_topi (fun x15 ex15 => ?_)
  refine aw_ci ((va_runS (As := [.int x12, .int x15]) (rest := []) ⟨hx, hb, hml, hown, hG⟩ (k_Id_timesV l x12 x15) (aw_wS 2 hG gw_4_42 gw_4_40 gw_0_8 gw_4_41 rfl rfl hd_Id_times ⟨Nat.le_of_ble_eq_true rfl, Nat.le_of_ble_eq_true rfl⟩) aw_p0 rfl rfl hl.1 rfl (lv_room (Nat.le_of_ble_eq_true rfl)) d_Id_mixed_47 ⟨Nat.le_of_ble_eq_true rfl, Nat.le_of_ble_eq_true rfl⟩).run) (fun x16 ex16 => ?_)
  have ex16 := ex16.symm
  refine lv_istore hx hb d_Id_mixed_50 hl (by decide) rfl (fun ls hl => ?_)
  have hl : lv_has ls 7 [(5, .int x16), (4, .int x7), (0, .ref (aw_c ad j 12)), (1, .long b), (3, .int (nI k))] := hl
  refine lv_iload hx hb d_Id_mixed_52 (lv_at hl 1 rfl) ?_
  refine lv_iload hx hb d_Id_mixed_54 (lv_at hl 0 rfl) ?_
  refine lv_iadd hx hb d_Id_mixed_56 ?_
  refine ag_topi (fun x17 ex17 => ?_)
  refine lv_istore hx hb d_Id_mixed_57 hl (by decide) rfl (fun ls hl => ?_)
  have hl : lv_has ls 7 [(6, .int x17), (5, .int x16), (4, .int x7), (0, .ref (aw_c ad j 12)), (1, .long b), (3, .int (nI k))] := hl
  refine lv_lload_n hx hb d_Id_mixed_59 rfl (lv_at hl 4 rfl) ?_
  refine lv_iload hx hb d_Id_mixed_60 (lv_at hl 1 rfl) ?_
  refine lv_i2l hx hb d_Id_mixed_62 rfl ?_
  refine ag_topl (fun y18 ey18 => ?_)
  refine lv_iload hx hb d_Id_mixed_63 (lv_at hl 0 rfl) ?_
  refine lv_i2l hx hb d_Id_mixed_65 rfl ?_
  refine ag_topl (fun y19 ey19 => ?_)
  refine lv_iload hx hb d_Id_mixed_66 (lv_at hl 1 rfl) ?_
  refine lv_i2l hx hb d_Id_mixed_68 rfl ?_
  refine ag_topl (fun y20 ey20 => ?_)
  refine lv_iload hx hb d_Id_mixed_69 (lv_at hl 0 rfl) ?_
  refine lv_i2l hx hb d_Id_mixed_71 rfl ?_
  refine ag_topl (fun y21 ey21 => ?_)
  refine aw_cl ((va_runS (As := [.long y18, .long y19, .long y20, .long y21]) (rest := [.long b]) ⟨hx, hb, hml, hown, hG⟩ (k_Id_ofQuartersV l y18 y19 y20 y21) (aw_wS 4 hG gw_6_19 gw_6_17 gw_0_8 gw_6_18 rfl rfl hd_Id_ofQuarters ⟨Nat.le_of_ble_eq_true rfl, Nat.le_of_ble_eq_true rfl⟩) aw_p0 rfl rfl hl.1 rfl (lv_room (Nat.le_of_ble_eq_true rfl)) d_Id_mixed_72 ⟨Nat.le_of_ble_eq_true rfl, Nat.le_of_ble_eq_true rfl⟩).run) (fun y22 ey22 => ?_)
  have ey22 := ey22.symm
  refine lv_lxor hx hb d_Id_mixed_75 ?_
  refine ag_topl (fun y23 ey23 => ?_)
  exact W.lret hx hb hr (fun t ht hW => ⟨⟨_, (), rfl, (by subst ey23 ey22 ey21 ey20 ey19 ey18 ex17 ex16 ex15 ex12 ex11 ex10 ex9 ex8 ex7 ex6 ex3 ex2 ex1; rfl), ag_Hr ht hP hD hSh⟩, hS.F ht⟩) hS.2.2 d_Id_mixed_76
noncomputable def v_Id_onV_L5 (zA : Nat → Nat → Nat → Int32) (j : Nat) (b : Int64) (t : Nat) : Int64 := Nat.rec (motive := fun _ => Int64) (b) (fun t s => v_Id_middleSwappedV (v_Id_mixedV zA j ((6 * t) + 4) (v_Id_keyed13V zA j (6 * t) (s)))) t
theorem v_Id_onV_L5_z (zA : Nat → Nat → Nat → Int32) (j : Nat) (b : Int64) : v_Id_onV_L5 zA j b 0 = (b) := rfl
theorem v_Id_onV_L5_s (zA : Nat → Nat → Nat → Int32) (j : Nat) (b : Int64) (t : Nat) : v_Id_onV_L5 zA j b (t + 1) = v_Id_middleSwappedV (v_Id_mixedV zA j ((6 * t) + 4) (v_Id_keyed13V zA j (6 * t) ((v_Id_onV_L5 zA j b t)))) := rfl
noncomputable def v_Id_onV (zA : Nat → Nat → Nat → Int32) (j : Nat) (b : Int64) : Int64 := v_Id_keyed13V zA j 48 (v_Id_middleSwappedV (v_Id_onV_L5 zA j b 8))
abbrev ws_Id_onV : List Cond := Cond.code y_Id_on b_Id_on 6 (some .long) :: aw_G
abbrev rm_Id_onV : Room := { frames := 2, cells := 0, slots := 0, locals := 54 }
set_option maxHeartbeats 4000000 in
set_option maxRecDepth 100000 in
theorem k_Id_onV (l : Launch) (D : va_G) (g : Nat → ClassId) (ad : Nat → Nat) (N0 : Nat) (zG : Nat → Nat × Nat) (zO : Nat → Nat) (zX : Nat → Nat → Int64) (zY : Nat → Nat → Int32) (zA : Nat → Nat → Nat → Int32) (zB : Nat → Int32) (zM : Nat → Nat × Nat) (zI : Nat → Nat → Int32) (zL : Nat → Nat → Int64) (zK : Int32) (zN : Nat) (zF : Int32) (zQ : Int64) (j : Nat) (b : Int64) (hj : j < 4) : Met l y_Id_on ws_Id_onV rm_Id_onV (va_Pc ([.ref (aw_c ad j 12), .long b] : List Value) (ag_B D g N0 (az_Sh g ad zG zO zX zY zA zB zM zI zL zK zN zF zQ))) (va_Ql (fun r (_ : Unit) => r = v_Id_onV zA j b) (fun (_ : Unit) t => ag_H D N0 (az_Sh g ad zG zO zX zY zA zB zM zI zL zK zN zF zQ) t.heap) (aw_Z N0)) 0 0 (aw_Z N0) := by
  refine Met.ofW (cc := b_Id_on) (maxL := 6) (ret := (some .long)) (by decide) rfl ?_
  intro p e s m args below meth c s₁ B hml hv
  obtain ⟨rfl, ⟨L, hP, hD, hSh⟩, hU⟩ := hv
  have hx := B.exec
  have hb := B.bytes
  have hr := B.returns
  have hG : ∀ w ∈ aw_G, w.before _ s = true := fun w h => atoms_spec (ws := ws_Id_onV) B.pre w (List.mem_cons_of_mem _ h)
  have hown : s.vm.findClass "RuleCiphers$Idea" = some m.cls := findClass_of_methodNamed B.named
  have hlocks := B.notSynchronized
  have hE := hU.1
  have hK := hE.1
  have hN := hE.2.1
  have hS : va_S (aw_Z N0) s.heap s.heap [] := va_S.rf
  have hl := lv_entry ([.ref (aw_c ad j 12), .long b] : List Value) (n := 6) (Nat.le_of_ble_eq_true rfl)
  rw [lg_entry_eq]
  generalize (lg_sl ([.ref (aw_c ad j 12), .long b] : List Value) ++ List.replicate (6 - (lg_sl ([.ref (aw_c ad j 12), .long b] : List Value)).length) Slot.unset).toArray = ls at hl ⊢
  have hl : lv_has ls 6 [(0, .ref (aw_c ad j 12)), (1, .long b)] := hl
  refine lv_lload_n hx hb d_Id_on_0 rfl (lv_at hl 1 rfl) ?_
  refine lv_lstore_n hx hb d_Id_on_1 rfl hl (by decide) rfl (fun ls hl => ?_)
  have hl : lv_has ls 6 [(3, .long b), (0, .ref (aw_c ad j 12)), (1, .long b)] := hl
  refine lv_iconst (v := nI 0) hx hb d_Id_on_2 (by decide +kernel) ?_
  refine lv_istore hx hb d_Id_on_3 hl (by decide) rfl (fun ls hl => ?_)
  have hl : lv_has ls 6 [(5, .int (nI 0)), (3, .long b), (0, .ref (aw_c ad j 12)), (1, .long b)] := hl
  have L5 : ∀ (d t : Nat) (H : Heap) (locs : List Loc) (L : va_W) (ls : Array Slot), t + d = 8 → va_P D aw_C L H → va_D (aw_Z N0) L → az_Sh g ad zG zO zX zY zA zB zM zI zL zK zN zF zQ L → va_S (aw_Z N0) s.heap H locs → lv_has ls 6 [(0, .ref (aw_c ad j 12)), (1, .long b), (3, .long ((v_Id_onV_L5 zA j b t))), (5, .int (nI t))] → W p l e (headSpec ws_Id_onV rm_Id_onV).room s m ([.ref (aw_c ad j 12), .long b] : List Value).toArray below meth c H locs 0 0 (MQ below (va_Ql (fun r (_ : Unit) => r = v_Id_onV zA j b) (fun (_ : Unit) t => ag_H D N0 (az_Sh g ad zG zO zX zY zA zB zM zI zL zK zN zF zQ) t.heap) (aw_Z N0)) ([.ref (aw_c ad j 12), .long b] : List Value).toArray s 0 0 (aw_Z N0)) (F0 m 5 ls []) := by
    clear hl hP hD hSh hS
    intro d
    induction d with
    | zero =>
      intro t H locs L ls ht0 hP hD hSh hS hl
      have ht1 : t = 8 := by omega
      subst ht1
      refine lv_iload hx hb d_Id_on_5 (lv_at hl 3 rfl) ?_
      refine lv_bipush (v := nI 8) hx hb d_Id_on_7 (by decide +kernel) ?_
      refine lv_icmp_ge (tgt := 46) hx hb d_Id_on_9 (by decide) (fun _ => ?_) (fun h => absurd (show nI 8 ≤ nI 8 from (nI_leI (by omega) (by omega)).mpr (by omega)) h)
      refine lv_lload_n hx hb d_Id_on_46 rfl (lv_at hl 2 rfl) ?_
      refine aw_cl ((va_runS (As := [.long ((v_Id_onV_L5 zA j b 8))]) (rest := []) ⟨hx, hb, hml, hown, hG⟩ (k_Id_middleSwappedV l ((v_Id_onV_L5 zA j b 8))) (aw_wS 1 hG gw_6_23 gw_6_21 gw_0_8 gw_6_22 rfl rfl hd_Id_middleSwapped ⟨Nat.le_of_ble_eq_true rfl, Nat.le_of_ble_eq_true rfl⟩) aw_p0 rfl rfl hl.1 rfl (lv_room (Nat.le_of_ble_eq_true rfl)) d_Id_on_47 ⟨Nat.le_of_ble_eq_true rfl, Nat.le_of_ble_eq_true rfl⟩).run) (fun y1 ey1 => ?_)
      have ey1 := ey1.symm
      refine lv_aload_n hx hb d_Id_on_50 rfl (lv_at hl 0 rfl) ?_
      have he2 := zr_C12 hSh hj
      refine va_get (C := R_Id) (T := T_Id) (N := 2) (v := .ref (aw_c ad j 13)) hx hb hG in_Id hown hK hP (3 + 16 * j + 12) he2 rfl 0 (by decide) (hG _ gw_0_46) (fun x9 h9 => u_same (hG _ gw_0_47) x9 h9) rfl d_Id_on_51 ?_
      clear he2
      refine lv_bipush (v := nI 48) hx hb d_Id_on_54 (by decide +kernel) ?_
      refine va_calll (va_runS (As := [.long y1, .ref (aw_c ad j 13), .int (nI 48)]) (rest := []) ⟨hx, hb, hml, hown, hG⟩ (k_Id_keyed13V l D g ad N0 zG zO zX zY zA zB zM zI zL zK zN zF zQ j 48 y1 hj (by omega)) (aw_wS 3 hG gw_6_16 gw_6_14 gw_0_8 gw_6_15 rfl rfl hd_Id_keyed ⟨Nat.le_of_ble_eq_true rfl, Nat.le_of_ble_eq_true rfl⟩) (ag_qS hP hD hSh hU hS) rfl rfl hl.1 rfl (lv_room (Nat.le_of_ble_eq_true rfl)) d_Id_on_56 ⟨Nat.le_of_ble_eq_true rfl, Nat.le_of_ble_eq_true rfl⟩) hS (fun _ _ h => h) (fun _ h => h) ?_
      clear hP hD hSh hS
      intro y3 u8 t8 H locs ht _ ey3 hB _ _ hS
      obtain ⟨L, hP, hD, hSh⟩ := hB
      rw [ht] at hP
      clear ht
      have ey3 := ey3.symm
      exact W.lret hx hb hr (fun t ht hW => ⟨⟨_, (), rfl, (by subst ey3 ey1; rfl), ag_Hr ht hP hD hSh⟩, hS.F ht⟩) hS.2.2 d_Id_on_59
    | succ d ih =>
      intro t H locs L ls ht0 hP hD hSh hS hl
      refine lv_iload hx hb d_Id_on_5 (lv_at hl 3 rfl) ?_
      refine lv_bipush (v := nI 8) hx hb d_Id_on_7 (by decide +kernel) ?_
      refine lv_icmp_ge (tgt := 46) hx hb d_Id_on_9 (by decide) (fun h => absurd h (show ¬ nI 8 ≤ nI t from fun h9 => absurd ((nI_leI (by omega) (by omega)).mp h9) (by omega))) (fun _ => ?_)
      refine lv_aload_n hx hb d_Id_on_12 rfl (lv_at hl 0 rfl) ?_
      refine lv_lload_n hx hb d_Id_on_13 rfl (lv_at hl 2 rfl) ?_
      refine lv_aload_n hx hb d_Id_on_14 rfl (lv_at hl 0 rfl) ?_
      have he4 := zr_C12 hSh hj
      refine va_get (C := R_Id) (T := T_Id) (N := 2) (v := .ref (aw_c ad j 13)) hx hb hG in_Id hown hK hP (3 + 16 * j + 12) he4 rfl 0 (by decide) (hG _ gw_0_46) (fun x9 h9 => u_same (hG _ gw_0_47) x9 h9) rfl d_Id_on_15 ?_
      clear he4
      refine lv_bipush (v := nI 6) hx hb d_Id_on_18 (by decide +kernel) ?_
      refine lv_iload hx hb d_Id_on_20 (lv_at hl 3 rfl) ?_
      refine lv_imul hx hb d_Id_on_22 ?_
      refine aw_ti (pk_mul 6 t) ?_
      refine va_calll (va_runS (As := [.long ((v_Id_onV_L5 zA j b t)), .ref (aw_c ad j 13), .int (nI (6 * t))]) (rest := [.ref (aw_c ad j 12)]) ⟨hx, hb, hml, hown, hG⟩ (k_Id_keyed13V l D g ad N0 zG zO zX zY zA zB zM zI zL zK zN zF zQ j (6 * t) ((v_Id_onV_L5 zA j b t)) hj (by omega)) (aw_wS 3 hG gw_6_16 gw_6_14 gw_0_8 gw_6_15 rfl rfl hd_Id_keyed ⟨Nat.le_of_ble_eq_true rfl, Nat.le_of_ble_eq_true rfl⟩) (ag_qS hP hD hSh hU hS) rfl rfl hl.1 rfl (lv_room (Nat.le_of_ble_eq_true rfl)) d_Id_on_23 ⟨Nat.le_of_ble_eq_true rfl, Nat.le_of_ble_eq_true rfl⟩) hS (fun _ _ h => h) (fun _ h => h) ?_
      clear hP hD hSh hS
      intro y5 u8 t8 H locs ht _ ey5 hB _ _ hS
      obtain ⟨L, hP, hD, hSh⟩ := hB
      rw [ht] at hP
      clear ht
      have ey5 := ey5.symm
      refine lv_bipush (v := nI 6) hx hb d_Id_on_26 (by decide +kernel) ?_
      refine lv_iload hx hb d_Id_on_28 (lv_at hl 3 rfl) ?_
      refine lv_imul hx hb d_Id_on_30 ?_
      refine aw_ti (pk_mul 6 t) ?_
      refine lv_iconst (v := nI 4) hx hb d_Id_on_31 (by decide +kernel) ?_
      refine lv_iadd hx hb d_Id_on_32 ?_
      refine aw_ti (nI_add (6 * t) 4) ?_
      have he6 := zr_C12 hSh hj
      refine va_calll (va_runV (As := [.long y5, .int (nI ((6 * t) + 4))]) (rest := []) ⟨hx, hb, hml, hown, hG⟩ (k_Id_mixedV l D g ad N0 zG zO zX zY zA zB zM zI zL zK zN zF zQ j ((6 * t) + 4) y5 hj (by omega)) (aw_wV 2 hG gw_6_26 gw_6_24 gw_0_8 gw_6_25 gw_p_2 rfl rfl hd_Id_mixed ⟨Nat.le_of_ble_eq_true rfl, Nat.le_of_ble_eq_true rfl⟩) (ag_qV (va_recv hK hP rfl he6) hP hD hSh hU hS) rfl rfl hl.1 rfl (lv_room (Nat.le_of_ble_eq_true rfl)) d_Id_on_33 ⟨Nat.le_of_ble_eq_true rfl, Nat.le_of_ble_eq_true rfl⟩) hS (fun _ _ h => h) (fun _ h => h) ?_
      clear hP hD hSh hS he6
      intro y7 u8 t8 H locs ht _ ey7 hB _ _ hS
      obtain ⟨L, hP, hD, hSh⟩ := hB
      rw [ht] at hP
      clear ht
      have ey7 := ey7.symm
      refine aw_cl ((va_runS (As := [.long y7]) (rest := []) ⟨hx, hb, hml, hown, hG⟩ (k_Id_middleSwappedV l y7) (aw_wS 1 hG gw_6_23 gw_6_21 gw_0_8 gw_6_22 rfl rfl hd_Id_middleSwapped ⟨Nat.le_of_ble_eq_true rfl, Nat.le_of_ble_eq_true rfl⟩) aw_p0 rfl rfl hl.1 rfl (lv_room (Nat.le_of_ble_eq_true rfl)) d_Id_on_36 ⟨Nat.le_of_ble_eq_true rfl, Nat.le_of_ble_eq_true rfl⟩).run) (fun y8 ey8 => ?_)
      have ey8 := ey8.symm
      refine lv_lstore_n hx hb d_Id_on_39 rfl hl (by decide) rfl (fun ls hl => ?_)
      have hl : lv_has ls 6 [(3, .long y8), (0, .ref (aw_c ad j 12)), (1, .long b), (5, .int (nI t))] := hl
      refine lv_iinc (k := 3) (v := nI (t + 1)) hx hb d_Id_on_40 hl rfl (aw_inc t 1 1 (by decide +kernel)) (by decide) rfl (fun ls hl => ?_)
      have hl : lv_has ls 6 [(5, .int (nI (t + 1))), (3, .long y8), (0, .ref (aw_c ad j 12)), (1, .long b)] := hl
      refine lv_goto (tgt := 5) hx hb d_Id_on_43 (by decide) ?_
      have hl := lv_sub hl (l' := [(0, .ref (aw_c ad j 12)), (1, .long b), (3, .long y8), (5, .int (nI (t + 1)))]) [2, 3, 1, 0] rfl
      have g0 : y8 = (v_Id_onV_L5 zA j b (t + 1)) := by subst ey8 ey7 ey5; (rw [v_Id_onV_L5_s]) <;> rfl
      have hl : lv_has ls 6 [(0, .ref (aw_c ad j 12)), (1, .long b), (3, .long ((v_Id_onV_L5 zA j b (t + 1)))), (5, .int (nI (t + 1)))] := by rw [← g0]; exact hl
      exact ih (t + 1) H locs L ls (by omega) hP hD hSh hS (by first | exact hl | simpa [Nat.add_assoc, Nat.mul_add, Nat.add_comm] using hl)
  have hl := lv_sub hl (l' := [(0, .ref (aw_c ad j 12)), (1, .long b), (3, .long b), (5, .int (nI 0))]) [2, 3, 1, 0] rfl
  have g0 : b = (v_Id_onV_L5 zA j b 0) := by (rw [v_Id_onV_L5_z]) <;> rfl
  have hl : lv_has ls 6 [(0, .ref (aw_c ad j 12)), (1, .long b), (3, .long ((v_Id_onV_L5 zA j b 0))), (5, .int (nI 0))] := by rw [← g0]; exact hl
  exact L5 8 0 _ _ L ls (by omega) hP hD hSh hS (by first | exact hl | simpa using hl)
noncomputable def v_Id_backV_L18 (zA : Nat → Nat → Nat → Int32) (j : Nat) (b : Int64) (t : Nat) : Int64 := Nat.rec (motive := fun _ => Int64) (v_Id_middleSwappedV (v_Id_keyed14V zA j 48 b)) (fun t s => v_Id_keyed14V zA j (6 * (7 - t)) (v_Id_mixedV zA j ((6 * (7 - t)) + 4) (v_Id_middleSwappedV (s)))) t
theorem v_Id_backV_L18_z (zA : Nat → Nat → Nat → Int32) (j : Nat) (b : Int64) : v_Id_backV_L18 zA j b 0 = (v_Id_middleSwappedV (v_Id_keyed14V zA j 48 b)) := rfl
theorem v_Id_backV_L18_s (zA : Nat → Nat → Nat → Int32) (j : Nat) (b : Int64) (t : Nat) : v_Id_backV_L18 zA j b (t + 1) = v_Id_keyed14V zA j (6 * (7 - t)) (v_Id_mixedV zA j ((6 * (7 - t)) + 4) (v_Id_middleSwappedV ((v_Id_backV_L18 zA j b t)))) := rfl
noncomputable def v_Id_backV (zA : Nat → Nat → Nat → Int32) (j : Nat) (b : Int64) : Int64 := (v_Id_backV_L18 zA j b 8)
abbrev ws_Id_backV : List Cond := Cond.code y_Id_back b_Id_back 6 (some .long) :: aw_G
abbrev rm_Id_backV : Room := { frames := 2, cells := 0, slots := 0, locals := 54 }
set_option maxHeartbeats 4000000 in
set_option maxRecDepth 100000 in
theorem k_Id_backV (l : Launch) (D : va_G) (g : Nat → ClassId) (ad : Nat → Nat) (N0 : Nat) (zG : Nat → Nat × Nat) (zO : Nat → Nat) (zX : Nat → Nat → Int64) (zY : Nat → Nat → Int32) (zA : Nat → Nat → Nat → Int32) (zB : Nat → Int32) (zM : Nat → Nat × Nat) (zI : Nat → Nat → Int32) (zL : Nat → Nat → Int64) (zK : Int32) (zN : Nat) (zF : Int32) (zQ : Int64) (j : Nat) (b : Int64) (hj : j < 4) : Met l y_Id_back ws_Id_backV rm_Id_backV (va_Pc ([.ref (aw_c ad j 12), .long b] : List Value) (ag_B D g N0 (az_Sh g ad zG zO zX zY zA zB zM zI zL zK zN zF zQ))) (va_Ql (fun r (_ : Unit) => r = v_Id_backV zA j b) (fun (_ : Unit) t => ag_H D N0 (az_Sh g ad zG zO zX zY zA zB zM zI zL zK zN zF zQ) t.heap) (aw_Z N0)) 0 0 (aw_Z N0) := by
  refine Met.ofW (cc := b_Id_back) (maxL := 6) (ret := (some .long)) (by decide) rfl ?_
  intro p e s m args below meth c s₁ B hml hv
  obtain ⟨rfl, ⟨L, hP, hD, hSh⟩, hU⟩ := hv
  have hx := B.exec
  have hb := B.bytes
  have hr := B.returns
  have hG : ∀ w ∈ aw_G, w.before _ s = true := fun w h => atoms_spec (ws := ws_Id_backV) B.pre w (List.mem_cons_of_mem _ h)
  have hown : s.vm.findClass "RuleCiphers$Idea" = some m.cls := findClass_of_methodNamed B.named
  have hlocks := B.notSynchronized
  have hE := hU.1
  have hK := hE.1
  have hN := hE.2.1
  have hS : va_S (aw_Z N0) s.heap s.heap [] := va_S.rf
  have hl := lv_entry ([.ref (aw_c ad j 12), .long b] : List Value) (n := 6) (Nat.le_of_ble_eq_true rfl)
  rw [lg_entry_eq]
  generalize (lg_sl ([.ref (aw_c ad j 12), .long b] : List Value) ++ List.replicate (6 - (lg_sl ([.ref (aw_c ad j 12), .long b] : List Value)).length) Slot.unset).toArray = ls at hl ⊢
  have hl : lv_has ls 6 [(0, .ref (aw_c ad j 12)), (1, .long b)] := hl
  refine lv_lload_n hx hb d_Id_back_0 rfl (lv_at hl 1 rfl) ?_
  refine lv_aload_n hx hb d_Id_back_1 rfl (lv_at hl 0 rfl) ?_
  have he1 := zr_C12 hSh hj
  refine va_get (C := R_Id) (T := T_Id) (N := 2) (v := .ref (aw_c ad j 14)) hx hb hG in_Id hown hK hP (3 + 16 * j + 12) he1 rfl 1 (by decide) (hG _ gw_1_31) (fun _ h => h) rfl d_Id_back_2 ?_
  clear he1
  refine lv_bipush (v := nI 48) hx hb d_Id_back_5 (by decide +kernel) ?_
  refine va_calll (va_runS (As := [.long b, .ref (aw_c ad j 14), .int (nI 48)]) (rest := []) ⟨hx, hb, hml, hown, hG⟩ (k_Id_keyed14V l D g ad N0 zG zO zX zY zA zB zM zI zL zK zN zF zQ j 48 b hj (by omega)) (aw_wS 3 hG gw_6_16 gw_6_14 gw_0_8 gw_6_15 rfl rfl hd_Id_keyed ⟨Nat.le_of_ble_eq_true rfl, Nat.le_of_ble_eq_true rfl⟩) (ag_qS hP hD hSh hU hS) rfl rfl hl.1 rfl (lv_room (Nat.le_of_ble_eq_true rfl)) d_Id_back_7 ⟨Nat.le_of_ble_eq_true rfl, Nat.le_of_ble_eq_true rfl⟩) hS (fun _ _ h => h) (fun _ h => h) ?_
  clear hP hD hSh hS
  intro y2 u8 t8 H locs ht _ ey2 hB _ _ hS
  obtain ⟨L, hP, hD, hSh⟩ := hB
  rw [ht] at hP
  clear ht
  have ey2 := ey2.symm
  refine aw_cl ((va_runS (As := [.long y2]) (rest := []) ⟨hx, hb, hml, hown, hG⟩ (k_Id_middleSwappedV l y2) (aw_wS 1 hG gw_6_23 gw_6_21 gw_0_8 gw_6_22 rfl rfl hd_Id_middleSwapped ⟨Nat.le_of_ble_eq_true rfl, Nat.le_of_ble_eq_true rfl⟩) aw_p0 rfl rfl hl.1 rfl (lv_room (Nat.le_of_ble_eq_true rfl)) d_Id_back_10 ⟨Nat.le_of_ble_eq_true rfl, Nat.le_of_ble_eq_true rfl⟩).run) (fun y3 ey3 => ?_)
  have ey3 := ey3.symm
  refine lv_lstore_n hx hb d_Id_back_13 rfl hl (by decide) rfl (fun ls hl => ?_)
  have hl : lv_has ls 6 [(3, .long y3), (0, .ref (aw_c ad j 12)), (1, .long b)] := hl
  refine lv_bipush (v := nI 7) hx hb d_Id_back_14 (by decide +kernel) ?_
  refine lv_istore hx hb d_Id_back_16 hl (by decide) rfl (fun ls hl => ?_)
  have hl : lv_has ls 6 [(5, .int (nI 7)), (3, .long y3), (0, .ref (aw_c ad j 12)), (1, .long b)] := hl
  have L18 : ∀ (d t : Nat) (H : Heap) (locs : List Loc) (L : va_W) (ls : Array Slot), t + d = 8 → va_P D aw_C L H → va_D (aw_Z N0) L → az_Sh g ad zG zO zX zY zA zB zM zI zL zK zN zF zQ L → va_S (aw_Z N0) s.heap H locs → lv_has ls 6 [(0, .ref (aw_c ad j 12)), (1, .long b), (3, .long ((v_Id_backV_L18 zA j b t))), (5, .int (aw_dn (8 - t)))] → W p l e (headSpec ws_Id_backV rm_Id_backV).room s m ([.ref (aw_c ad j 12), .long b] : List Value).toArray below meth c H locs 0 0 (MQ below (va_Ql (fun r (_ : Unit) => r = v_Id_backV zA j b) (fun (_ : Unit) t => ag_H D N0 (az_Sh g ad zG zO zX zY zA zB zM zI zL zK zN zF zQ) t.heap) (aw_Z N0)) ([.ref (aw_c ad j 12), .long b] : List Value).toArray s 0 0 (aw_Z N0)) (F0 m 18 ls []) := by
    clear hl hP hD hSh hS
    intro d
    induction d with
    | zero =>
      intro t H locs L ls ht0 hP hD hSh hS hl
      have ht1 : t = 8 := by omega
      subst ht1
      have hl : lv_has ls 6 [(0, .ref (aw_c ad j 12)), (1, .long b), (3, .long ((v_Id_backV_L18 zA j b 8))), (5, .int (aw_dn (8 - 8)))] := hl
      refine lv_iload hx hb d_Id_back_18 (lv_at hl 3 rfl) ?_
      refine lv_if_lt (tgt := 57) hx hb d_Id_back_20 (by decide) (fun _ => ?_) (fun h => absurd (by decide +kernel) h)
      refine lv_lload_n hx hb d_Id_back_57 rfl (lv_at hl 2 rfl) ?_
      exact W.lret hx hb hr (fun t ht hW => ⟨⟨_, (), rfl, (by subst ey3 ey2; rfl), ag_Hr ht hP hD hSh⟩, hS.F ht⟩) hS.2.2 d_Id_back_58
    | succ d ih =>
      intro t H locs L ls ht0 hP hD hSh hS hl
      rw [aw_dnT 8 t (by omega)] at hl
      have hl : lv_has ls 6 [(0, .ref (aw_c ad j 12)), (1, .long b), (3, .long ((v_Id_backV_L18 zA j b t))), (5, .int (nI (7 - t)))] := hl
      refine lv_iload hx hb d_Id_back_18 (lv_at hl 3 rfl) ?_
      refine lv_if_lt (tgt := 57) hx hb d_Id_back_20 (by decide) (fun h => absurd h (show ¬ nI (7 - t) < nI 0 from fun h9 => absurd ((nI_ltI (by omega) (by omega)).mp h9) (by omega))) (fun _ => ?_)
      refine lv_aload_n hx hb d_Id_back_23 rfl (lv_at hl 0 rfl) ?_
      refine lv_lload_n hx hb d_Id_back_24 rfl (lv_at hl 2 rfl) ?_
      refine aw_cl ((va_runS (As := [.long ((v_Id_backV_L18 zA j b t))]) (rest := [.ref (aw_c ad j 12)]) ⟨hx, hb, hml, hown, hG⟩ (k_Id_middleSwappedV l ((v_Id_backV_L18 zA j b t))) (aw_wS 1 hG gw_6_23 gw_6_21 gw_0_8 gw_6_22 rfl rfl hd_Id_middleSwapped ⟨Nat.le_of_ble_eq_true rfl, Nat.le_of_ble_eq_true rfl⟩) aw_p0 rfl rfl hl.1 rfl (lv_room (Nat.le_of_ble_eq_true rfl)) d_Id_back_25 ⟨Nat.le_of_ble_eq_true rfl, Nat.le_of_ble_eq_true rfl⟩).run) (fun y4 ey4 => ?_)
      have ey4 := ey4.symm
      refine lv_bipush (v := nI 6) hx hb d_Id_back_28 (by decide +kernel) ?_
      refine lv_iload hx hb d_Id_back_30 (lv_at hl 3 rfl) ?_
      refine lv_imul hx hb d_Id_back_32 ?_
      refine aw_ti (pk_mul 6 (7 - t)) ?_
      refine lv_iconst (v := nI 4) hx hb d_Id_back_33 (by decide +kernel) ?_
      refine lv_iadd hx hb d_Id_back_34 ?_
      refine aw_ti (nI_add (6 * (7 - t)) 4) ?_
      have he5 := zr_C12 hSh hj
      refine va_calll (va_runV (As := [.long y4, .int (nI ((6 * (7 - t)) + 4))]) (rest := []) ⟨hx, hb, hml, hown, hG⟩ (k_Id_mixedV l D g ad N0 zG zO zX zY zA zB zM zI zL zK zN zF zQ j ((6 * (7 - t)) + 4) y4 hj (by omega)) (aw_wV 2 hG gw_6_26 gw_6_24 gw_0_8 gw_6_25 gw_p_2 rfl rfl hd_Id_mixed ⟨Nat.le_of_ble_eq_true rfl, Nat.le_of_ble_eq_true rfl⟩) (ag_qV (va_recv hK hP rfl he5) hP hD hSh hU hS) rfl rfl hl.1 rfl (lv_room (Nat.le_of_ble_eq_true rfl)) d_Id_back_35 ⟨Nat.le_of_ble_eq_true rfl, Nat.le_of_ble_eq_true rfl⟩) hS (fun _ _ h => h) (fun _ h => h) ?_
      clear hP hD hSh hS he5
      intro y6 u8 t8 H locs ht _ ey6 hB _ _ hS
      obtain ⟨L, hP, hD, hSh⟩ := hB
      rw [ht] at hP
      clear ht
      have ey6 := ey6.symm
      refine lv_aload_n hx hb d_Id_back_38 rfl (lv_at hl 0 rfl) ?_
      have he7 := zr_C12 hSh hj
      refine va_get (C := R_Id) (T := T_Id) (N := 2) (v := .ref (aw_c ad j 14)) hx hb hG in_Id hown hK hP (3 + 16 * j + 12) he7 rfl 1 (by decide) (hG _ gw_1_31) (fun _ h => h) rfl d_Id_back_39 ?_
      clear he7
      refine lv_bipush (v := nI 6) hx hb d_Id_back_42 (by decide +kernel) ?_
      refine lv_iload hx hb d_Id_back_44 (lv_at hl 3 rfl) ?_
      refine lv_imul hx hb d_Id_back_46 ?_
      refine aw_ti (pk_mul 6 (7 - t)) ?_
      refine va_calll (va_runS (As := [.long y6, .ref (aw_c ad j 14), .int (nI (6 * (7 - t)))]) (rest := []) ⟨hx, hb, hml, hown, hG⟩ (k_Id_keyed14V l D g ad N0 zG zO zX zY zA zB zM zI zL zK zN zF zQ j (6 * (7 - t)) y6 hj (by omega)) (aw_wS 3 hG gw_6_16 gw_6_14 gw_0_8 gw_6_15 rfl rfl hd_Id_keyed ⟨Nat.le_of_ble_eq_true rfl, Nat.le_of_ble_eq_true rfl⟩) (ag_qS hP hD hSh hU hS) rfl rfl hl.1 rfl (lv_room (Nat.le_of_ble_eq_true rfl)) d_Id_back_47 ⟨Nat.le_of_ble_eq_true rfl, Nat.le_of_ble_eq_true rfl⟩) hS (fun _ _ h => h) (fun _ h => h) ?_
      clear hP hD hSh hS
      intro y8 u8 t8 H locs ht _ ey8 hB _ _ hS
      obtain ⟨L, hP, hD, hSh⟩ := hB
      rw [ht] at hP
      clear ht
      have ey8 := ey8.symm
      refine lv_lstore_n hx hb d_Id_back_50 rfl hl (by decide) rfl (fun ls hl => ?_)
      have hl : lv_has ls 6 [(3, .long y8), (0, .ref (aw_c ad j 12)), (1, .long b), (5, .int (nI (7 - t)))] := hl
      refine lv_iinc (k := 3) (v := aw_dn (8 - (t + 1))) hx hb d_Id_back_51 hl rfl (aw_dnS 8 t (by omega)) (by decide) rfl (fun ls hl => ?_)
      have hl : lv_has ls 6 [(5, .int (aw_dn (8 - (t + 1)))), (3, .long y8), (0, .ref (aw_c ad j 12)), (1, .long b)] := hl
      refine lv_goto (tgt := 18) hx hb d_Id_back_54 (by decide) ?_
      have hl := lv_sub hl (l' := [(0, .ref (aw_c ad j 12)), (1, .long b), (3, .long y8), (5, .int (aw_dn (8 - (t + 1))))]) [2, 3, 1, 0] rfl
      have g0 : y8 = (v_Id_backV_L18 zA j b (t + 1)) := by subst ey8 ey6 ey4 ey3 ey2; (rw [v_Id_backV_L18_s]) <;> rfl
      have hl : lv_has ls 6 [(0, .ref (aw_c ad j 12)), (1, .long b), (3, .long ((v_Id_backV_L18 zA j b (t + 1)))), (5, .int (aw_dn (8 - (t + 1))))] := by rw [← g0]; exact hl
      exact ih (t + 1) H locs L ls (by omega) hP hD hSh hS (by first | exact hl | simpa [Nat.add_assoc, Nat.mul_add, Nat.add_comm] using hl)
  have hl := lv_sub hl (l' := [(0, .ref (aw_c ad j 12)), (1, .long b), (3, .long y3), (5, .int (nI 7))]) [2, 3, 1, 0] rfl
  have g0 : y3 = (v_Id_backV_L18 zA j b 0) := by subst ey3 ey2; (rw [v_Id_backV_L18_z]) <;> rfl
  have hl : lv_has ls 6 [(0, .ref (aw_c ad j 12)), (1, .long b), (3, .long ((v_Id_backV_L18 zA j b 0))), (5, .int (nI 7))] := by rw [← g0]; exact hl
  exact L18 8 0 _ _ L ls (by omega) hP hD hSh hS (by first | exact hl | simpa using hl)
