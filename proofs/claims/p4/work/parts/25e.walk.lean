noncomputable def v_Cx_feedBytes0V (zY : Nat → Nat → Int32) (j : Nat) : Int32 := (az_u2 zY j 1 ((zY j 1) + (nI 0))) j 1
noncomputable def v_Cx_feedBytes0V_zY (zY : Nat → Nat → Int32) (j : Nat) : Nat → Nat → Int32 := az_u2 zY j 1 ((zY j 1) + (nI 0))
abbrev ws_Cx_feedBytes0V : List Cond := Cond.code y_Cx_feedBytes b_Cx_feedBytes 7 (some .int) :: aw_G
abbrev rm_Cx_feedBytes0V : Room := { frames := 1, cells := 0, slots := 0, locals := 20 }
set_option maxHeartbeats 4000000 in
set_option maxRecDepth 100000 in
theorem k_Cx_feedBytes0V (l : Launch) (D : va_G) (g : Nat → ClassId) (ad : Nat → Nat) (N0 : Nat) (zG : Nat → Nat × Nat) (zO : Nat → Nat) (zX : Nat → Nat → Int64) (zY : Nat → Nat → Int32) (zA : Nat → Nat → Nat → Int32) (zB : Nat → Int32) (zM : Nat → Nat × Nat) (zI : Nat → Nat → Int32) (zL : Nat → Nat → Int64) (zK : Int32) (zN : Nat) (zF : Int32) (zQ : Int64) (j : Nat) (bk : Int32) (fr : Int32) (hj : j < 4) (hm : 2 ≤ (zG j).2) : Met l y_Cx_feedBytes ws_Cx_feedBytes0V rm_Cx_feedBytes0V (va_Pc ([.ref (aw_c ad j 0), .int bk, .ref (aw_r ad 2), .int fr, .int (nI 0)] : List Value) (ag_B D g N0 (az_Sh g ad zG zO zX zY zA zB zM zI zL zK zN zF zQ))) (va_Qi (fun r (_ : Unit) => r = v_Cx_feedBytes0V zY j) (fun (_ : Unit) t => ag_H D N0 (az_Sh g ad zG zO zX (v_Cx_feedBytes0V_zY zY j) zA zB zM zI zL zK zN zF zQ) t.heap) (aw_Z N0)) 0 0 (aw_Z N0) := by
  refine Met.ofW (cc := b_Cx_feedBytes) (maxL := 7) (ret := (some .int)) (by decide) rfl ?_
  intro p e s m args below meth c s₁ B hml hv
  obtain ⟨rfl, ⟨L, hP, hD, hSh⟩, hU⟩ := hv
  have hx := B.exec
  have hb := B.bytes
  have hr := B.returns
  have hG : ∀ w ∈ aw_G, w.before _ s = true := fun w h => atoms_spec (ws := ws_Cx_feedBytes0V) B.pre w (List.mem_cons_of_mem _ h)
  have hown : s.vm.findClass "RuleCiphers$Context" = some m.cls := findClass_of_methodNamed B.named
  have hlocks := B.notSynchronized
  have hE := hU.1
  have hK := hE.1
  have hN := hE.2.1
  have hS : va_S (aw_Z N0) s.heap s.heap [] := va_S.rf
  have hl := lv_entry ([.ref (aw_c ad j 0), .int bk, .ref (aw_r ad 2), .int fr, .int (nI 0)] : List Value) (n := 7) (Nat.le_of_ble_eq_true rfl)
  rw [lg_entry_eq]
  generalize (lg_sl ([.ref (aw_c ad j 0), .int bk, .ref (aw_r ad 2), .int fr, .int (nI 0)] : List Value) ++ List.replicate (7 - (lg_sl ([.ref (aw_c ad j 0), .int bk, .ref (aw_r ad 2), .int fr, .int (nI 0)] : List Value)).length) Slot.unset).toArray = ls at hl ⊢
  have hl : lv_has ls 7 [(0, .ref (aw_c ad j 0)), (1, .int bk), (2, .ref (aw_r ad 2)), (3, .int fr), (4, .int (nI 0))] := hl
  refine lv_aload_n hx hb d_Cx_feedBytes_0 rfl (lv_at hl 0 rfl) ?_
  obtain ⟨_, he1⟩ := zr_C0 hSh hj
  refine va_calli (va_runV (As := []) (rest := []) ⟨hx, hb, hml, hown, hG⟩ (k_Cx_feedsWholeBlocks0V l D g ad N0 zG zO zX zY zA zB zM zI zL zK zN zF zQ j hj hm) (aw_wV 0 hG gw_7_53 gw_7_58 gw_0_2 gw_7_51 gw_7_52 rfl rfl hd_Cx_feedsWholeBlocks ⟨Nat.le_of_ble_eq_true rfl, Nat.le_of_ble_eq_true rfl⟩) (ag_qV (va_recv hK hP rfl he1) hP hD hSh hU hS) rfl rfl hl.1 rfl (lv_room (Nat.le_of_ble_eq_true rfl)) d_Cx_feedBytes_1 ⟨Nat.le_of_ble_eq_true rfl, Nat.le_of_ble_eq_true rfl⟩) hS (fun _ _ h => h) (fun _ h => h) ?_
  clear hP hD hSh hS he1
  intro x2 u8 t8 H locs ht _ ex2 hB _ _ hS
  obtain ⟨L, hP, hD, hSh⟩ := hB
  rw [ht] at hP
  clear ht
  subst ex2
  refine lv_if_eq (tgt := 12) hx hb d_Cx_feedBytes_4 (by decide) (fun _ => ?_) (fun h => absurd (by decide +kernel) h)
  refine lv_iconst (v := nI 1) hx hb d_Cx_feedBytes_12 (by decide +kernel) ?_
  refine lv_istore hx hb d_Cx_feedBytes_13 hl (by decide) rfl (fun ls hl => ?_)
  have hl : lv_has ls 7 [(5, .int (nI 1)), (0, .ref (aw_c ad j 0)), (1, .int bk), (2, .ref (aw_r ad 2)), (3, .int fr), (4, .int (nI 0))] := hl
  refine lv_iconst (v := nI 0) hx hb d_Cx_feedBytes_15 (by decide +kernel) ?_
  refine lv_istore hx hb d_Cx_feedBytes_16 hl (by decide) rfl (fun ls hl => ?_)
  have hl : lv_has ls 7 [(6, .int (nI 0)), (5, .int (nI 1)), (0, .ref (aw_c ad j 0)), (1, .int bk), (2, .ref (aw_r ad 2)), (3, .int fr), (4, .int (nI 0))] := hl
  refine lv_iload hx hb d_Cx_feedBytes_18 (lv_at hl 0 rfl) ?_
  refine lv_iload hx hb d_Cx_feedBytes_20 (lv_at hl 6 rfl) ?_
  refine lv_icmp_ge (tgt := 45) hx hb d_Cx_feedBytes_22 (by decide) (fun _ => ?_) (fun h => absurd (by decide +kernel) h)
  refine lv_aload_n hx hb d_Cx_feedBytes_45 rfl (lv_at hl 2 rfl) ?_
  refine lv_dup hx hb d_Cx_feedBytes_46 rfl ?_
  obtain ⟨hsd4, he3⟩ := zr_C0 hSh hj
  have hg := hSh.2.2.2.2.1 j hj
  refine va_get (C := R_Cx) (T := T_Cx) (N := 10) (v := .int (zY j 1)) hx hb hG in_Cx hown hK hP (3 + 16 * j + 0) he3 rfl 9 (by decide) (hG _ gw_2_6) (fun _ h => h) rfl d_Cx_feedBytes_47 ?_
  clear he3
  refine lv_iload hx hb d_Cx_feedBytes_50 (lv_at hl 6 rfl) ?_
  refine lv_iadd hx hb d_Cx_feedBytes_52 ?_
  refine ag_topi (fun x5 ex5 => ?_)
  obtain ⟨hsd7, he6⟩ := zr_C0 hSh hj
  have hg := hSh.2.2.2.2.1 j hj
  refine ag_put (v := .int x5) (ty := .int) (C := R_Cx) (T := T_Cx) (N := 10) hx hb hG in_Cx t_Cx t_Cx_ok n_Cx hown hK hP hD hS (3 + 16 * j + 0) he6 rfl 9 (by decide) (hG _ gw_2_6) (fun _ h => h) rfl (by decide +kernel) rfl rfl (Nat.le_of_ble_eq_true rfl) d_Cx_feedBytes_53 (zw_Y1 hSh hj x5) ?_
  clear hP hD hSh hS he6
  intro H locs L hP hD hSh hS
  obtain ⟨zY8, ezY8⟩ : ∃ z : Nat → Nat → Int32, az_u2 zY j 1 x5 = z := ⟨_, rfl⟩
  rw [ezY8] at hSh
  refine lv_aload_n hx hb d_Cx_feedBytes_56 rfl (lv_at hl 2 rfl) ?_
  obtain ⟨hsd10, he9⟩ := zr_C0 hSh hj
  have hg := hSh.2.2.2.2.1 j hj
  refine va_get (C := R_Cx) (T := T_Cx) (N := 10) (v := .int (zY8 j 1)) hx hb hG in_Cx hown hK hP (3 + 16 * j + 0) he9 rfl 9 (by decide) (hG _ gw_2_6) (fun _ h => h) rfl d_Cx_feedBytes_57 ?_
  clear he9
  have gzY : zY8 = v_Cx_feedBytes0V_zY zY j := by subst ezY8 ex5; rfl
  have hSh : az_Sh g ad zG zO zX (v_Cx_feedBytes0V_zY zY j) zA zB zM zI zL zK zN zF zQ L := by rw [← gzY]; exact hSh
  exact W.iret hx hb hr (fun t ht hW => ⟨⟨_, (), rfl, (by subst ezY8 ex5; rfl), ag_Hr ht hP hD hSh⟩, hS.F ht⟩) hS.2.2 d_Cx_feedBytes_60
noncomputable def v_Cx_feedBytes0bV (zY : Nat → Nat → Int32) (j : Nat) : Int32 := (az_u2 zY j 1 ((zY j 1) + (nI 0))) j 1
noncomputable def v_Cx_feedBytes0bV_zY (zY : Nat → Nat → Int32) (j : Nat) : Nat → Nat → Int32 := az_u2 zY j 1 ((zY j 1) + (nI 0))
abbrev ws_Cx_feedBytes0bV : List Cond := Cond.code y_Cx_feedBytes b_Cx_feedBytes 7 (some .int) :: aw_G
abbrev rm_Cx_feedBytes0bV : Room := { frames := 1, cells := 0, slots := 0, locals := 20 }
set_option maxHeartbeats 4000000 in
set_option maxRecDepth 100000 in
theorem k_Cx_feedBytes0bV (l : Launch) (D : va_G) (g : Nat → ClassId) (ad : Nat → Nat) (N0 : Nat) (zG : Nat → Nat × Nat) (zO : Nat → Nat) (zX : Nat → Nat → Int64) (zY : Nat → Nat → Int32) (zA : Nat → Nat → Nat → Int32) (zB : Nat → Int32) (zM : Nat → Nat × Nat) (zI : Nat → Nat → Int32) (zL : Nat → Nat → Int64) (zK : Int32) (zN : Nat) (zF : Int32) (zQ : Int64) (j : Nat) (bk : Int32) (fr : Int32) (hj : j < 4) (hm : (zG j).2 ≤ 1) : Met l y_Cx_feedBytes ws_Cx_feedBytes0bV rm_Cx_feedBytes0bV (va_Pc ([.ref (aw_c ad j 0), .int bk, .ref (aw_r ad 2), .int fr, .int (nI 0)] : List Value) (ag_B D g N0 (az_Sh g ad zG zO zX zY zA zB zM zI zL zK zN zF zQ))) (va_Qi (fun r (_ : Unit) => r = v_Cx_feedBytes0bV zY j) (fun (_ : Unit) t => ag_H D N0 (az_Sh g ad zG zO zX (v_Cx_feedBytes0bV_zY zY j) zA zB zM zI zL zK zN zF zQ) t.heap) (aw_Z N0)) 0 0 (aw_Z N0) := by
  refine Met.ofW (cc := b_Cx_feedBytes) (maxL := 7) (ret := (some .int)) (by decide) rfl ?_
  intro p e s m args below meth c s₁ B hml hv
  obtain ⟨rfl, ⟨L, hP, hD, hSh⟩, hU⟩ := hv
  have hx := B.exec
  have hb := B.bytes
  have hr := B.returns
  have hG : ∀ w ∈ aw_G, w.before _ s = true := fun w h => atoms_spec (ws := ws_Cx_feedBytes0bV) B.pre w (List.mem_cons_of_mem _ h)
  have hown : s.vm.findClass "RuleCiphers$Context" = some m.cls := findClass_of_methodNamed B.named
  have hlocks := B.notSynchronized
  have hE := hU.1
  have hK := hE.1
  have hN := hE.2.1
  have hS : va_S (aw_Z N0) s.heap s.heap [] := va_S.rf
  have hl := lv_entry ([.ref (aw_c ad j 0), .int bk, .ref (aw_r ad 2), .int fr, .int (nI 0)] : List Value) (n := 7) (Nat.le_of_ble_eq_true rfl)
  rw [lg_entry_eq]
  generalize (lg_sl ([.ref (aw_c ad j 0), .int bk, .ref (aw_r ad 2), .int fr, .int (nI 0)] : List Value) ++ List.replicate (7 - (lg_sl ([.ref (aw_c ad j 0), .int bk, .ref (aw_r ad 2), .int fr, .int (nI 0)] : List Value)).length) Slot.unset).toArray = ls at hl ⊢
  have hl : lv_has ls 7 [(0, .ref (aw_c ad j 0)), (1, .int bk), (2, .ref (aw_r ad 2)), (3, .int fr), (4, .int (nI 0))] := hl
  refine lv_aload_n hx hb d_Cx_feedBytes_0 rfl (lv_at hl 0 rfl) ?_
  obtain ⟨_, he1⟩ := zr_C0 hSh hj
  refine va_calli (va_runV (As := []) (rest := []) ⟨hx, hb, hml, hown, hG⟩ (k_Cx_feedsWholeBlocks1V l D g ad N0 zG zO zX zY zA zB zM zI zL zK zN zF zQ j hj hm) (aw_wV 0 hG gw_7_53 gw_7_58 gw_0_2 gw_7_51 gw_7_52 rfl rfl hd_Cx_feedsWholeBlocks ⟨Nat.le_of_ble_eq_true rfl, Nat.le_of_ble_eq_true rfl⟩) (ag_qV (va_recv hK hP rfl he1) hP hD hSh hU hS) rfl rfl hl.1 rfl (lv_room (Nat.le_of_ble_eq_true rfl)) d_Cx_feedBytes_1 ⟨Nat.le_of_ble_eq_true rfl, Nat.le_of_ble_eq_true rfl⟩) hS (fun _ _ h => h) (fun _ h => h) ?_
  clear hP hD hSh hS he1
  intro x2 u8 t8 H locs ht _ ex2 hB _ _ hS
  obtain ⟨L, hP, hD, hSh⟩ := hB
  rw [ht] at hP
  clear ht
  subst ex2
  refine lv_if_eq (tgt := 12) hx hb d_Cx_feedBytes_4 (by decide) (fun h => absurd h (by decide +kernel)) (fun _ => ?_)
  refine lv_bipush (v := nI 8) hx hb d_Cx_feedBytes_7 (by decide +kernel) ?_
  refine lv_goto (tgt := 13) hx hb d_Cx_feedBytes_9 (by decide) ?_
  refine lv_istore hx hb d_Cx_feedBytes_13 hl (by decide) rfl (fun ls hl => ?_)
  have hl : lv_has ls 7 [(5, .int (nI 8)), (0, .ref (aw_c ad j 0)), (1, .int bk), (2, .ref (aw_r ad 2)), (3, .int fr), (4, .int (nI 0))] := hl
  refine lv_iconst (v := nI 0) hx hb d_Cx_feedBytes_15 (by decide +kernel) ?_
  refine lv_istore hx hb d_Cx_feedBytes_16 hl (by decide) rfl (fun ls hl => ?_)
  have hl : lv_has ls 7 [(6, .int (nI 0)), (5, .int (nI 8)), (0, .ref (aw_c ad j 0)), (1, .int bk), (2, .ref (aw_r ad 2)), (3, .int fr), (4, .int (nI 0))] := hl
  refine lv_iload hx hb d_Cx_feedBytes_18 (lv_at hl 0 rfl) ?_
  refine lv_iload hx hb d_Cx_feedBytes_20 (lv_at hl 6 rfl) ?_
  refine lv_icmp_ge (tgt := 45) hx hb d_Cx_feedBytes_22 (by decide) (fun _ => ?_) (fun h => absurd (by decide +kernel) h)
  refine lv_aload_n hx hb d_Cx_feedBytes_45 rfl (lv_at hl 2 rfl) ?_
  refine lv_dup hx hb d_Cx_feedBytes_46 rfl ?_
  obtain ⟨hsd4, he3⟩ := zr_C0 hSh hj
  have hg := hSh.2.2.2.2.1 j hj
  refine va_get (C := R_Cx) (T := T_Cx) (N := 10) (v := .int (zY j 1)) hx hb hG in_Cx hown hK hP (3 + 16 * j + 0) he3 rfl 9 (by decide) (hG _ gw_2_6) (fun _ h => h) rfl d_Cx_feedBytes_47 ?_
  clear he3
  refine lv_iload hx hb d_Cx_feedBytes_50 (lv_at hl 6 rfl) ?_
  refine lv_iadd hx hb d_Cx_feedBytes_52 ?_
  refine ag_topi (fun x5 ex5 => ?_)
  obtain ⟨hsd7, he6⟩ := zr_C0 hSh hj
  have hg := hSh.2.2.2.2.1 j hj
  refine ag_put (v := .int x5) (ty := .int) (C := R_Cx) (T := T_Cx) (N := 10) hx hb hG in_Cx t_Cx t_Cx_ok n_Cx hown hK hP hD hS (3 + 16 * j + 0) he6 rfl 9 (by decide) (hG _ gw_2_6) (fun _ h => h) rfl (by decide +kernel) rfl rfl (Nat.le_of_ble_eq_true rfl) d_Cx_feedBytes_53 (zw_Y1 hSh hj x5) ?_
  clear hP hD hSh hS he6
  intro H locs L hP hD hSh hS
  obtain ⟨zY8, ezY8⟩ : ∃ z : Nat → Nat → Int32, az_u2 zY j 1 x5 = z := ⟨_, rfl⟩
  rw [ezY8] at hSh
  refine lv_aload_n hx hb d_Cx_feedBytes_56 rfl (lv_at hl 2 rfl) ?_
  obtain ⟨hsd10, he9⟩ := zr_C0 hSh hj
  have hg := hSh.2.2.2.2.1 j hj
  refine va_get (C := R_Cx) (T := T_Cx) (N := 10) (v := .int (zY8 j 1)) hx hb hG in_Cx hown hK hP (3 + 16 * j + 0) he9 rfl 9 (by decide) (hG _ gw_2_6) (fun _ h => h) rfl d_Cx_feedBytes_57 ?_
  clear he9
  have gzY : zY8 = v_Cx_feedBytes0bV_zY zY j := by subst ezY8 ex5; rfl
  have hSh : az_Sh g ad zG zO zX (v_Cx_feedBytes0bV_zY zY j) zA zB zM zI zL zK zN zF zQ L := by rw [← gzY]; exact hSh
  exact W.iret hx hb hr (fun t ht hW => ⟨⟨_, (), rfl, (by subst ezY8 ex5; rfl), ag_Hr ht hP hD hSh⟩, hS.F ht⟩) hS.2.2 d_Cx_feedBytes_60
noncomputable def v_Cx_feedBytes1V_L18 (zG : Nat → Nat × Nat) (zO : Nat → Nat) (zX : Nat → Nat → Int64) (zY : Nat → Nat → Int32) (zA : Nat → Nat → Nat → Int32) (zB : Nat → Int32) (j : Nat) (bk : Int32) (k : Nat) (mm : Nat) (t : Nat) : (Nat → Nat → Int64) × (Nat → Nat → Int32) × (Nat → Int32) := Nat.rec (motive := fun _ => (Nat → Nat → Int64) × (Nat → Nat → Int32) × (Nat → Int32)) (zX, zY, zB) (fun t s => (v_Cx_feedStep0V_zX zG zO (s.1) (s.2.1) zA (s.2.2) j bk (k + t), v_Cx_feedStep0V_zY zG zO (s.1) (s.2.1) zA (s.2.2) j bk (k + t), v_Cx_feedStep0V_zB zG zO (s.1) (s.2.1) zA (s.2.2) j bk (k + t))) t
theorem v_Cx_feedBytes1V_L18_z (zG : Nat → Nat × Nat) (zO : Nat → Nat) (zX : Nat → Nat → Int64) (zY : Nat → Nat → Int32) (zA : Nat → Nat → Nat → Int32) (zB : Nat → Int32) (j : Nat) (bk : Int32) (k : Nat) (mm : Nat) : v_Cx_feedBytes1V_L18 zG zO zX zY zA zB j bk k mm 0 = (zX, zY, zB) := rfl
theorem v_Cx_feedBytes1V_L18_s (zG : Nat → Nat × Nat) (zO : Nat → Nat) (zX : Nat → Nat → Int64) (zY : Nat → Nat → Int32) (zA : Nat → Nat → Nat → Int32) (zB : Nat → Int32) (j : Nat) (bk : Int32) (k : Nat) (mm : Nat) (t : Nat) : v_Cx_feedBytes1V_L18 zG zO zX zY zA zB j bk k mm (t + 1) = (v_Cx_feedStep0V_zX zG zO ((v_Cx_feedBytes1V_L18 zG zO zX zY zA zB j bk k mm t).1) ((v_Cx_feedBytes1V_L18 zG zO zX zY zA zB j bk k mm t).2.1) zA ((v_Cx_feedBytes1V_L18 zG zO zX zY zA zB j bk k mm t).2.2) j bk (k + t), v_Cx_feedStep0V_zY zG zO ((v_Cx_feedBytes1V_L18 zG zO zX zY zA zB j bk k mm t).1) ((v_Cx_feedBytes1V_L18 zG zO zX zY zA zB j bk k mm t).2.1) zA ((v_Cx_feedBytes1V_L18 zG zO zX zY zA zB j bk k mm t).2.2) j bk (k + t), v_Cx_feedStep0V_zB zG zO ((v_Cx_feedBytes1V_L18 zG zO zX zY zA zB j bk k mm t).1) ((v_Cx_feedBytes1V_L18 zG zO zX zY zA zB j bk k mm t).2.1) zA ((v_Cx_feedBytes1V_L18 zG zO zX zY zA zB j bk k mm t).2.2) j bk (k + t)) := rfl
noncomputable def v_Cx_feedBytes1V (zG : Nat → Nat × Nat) (zO : Nat → Nat) (zX : Nat → Nat → Int64) (zY : Nat → Nat → Int32) (zA : Nat → Nat → Nat → Int32) (zB : Nat → Int32) (j : Nat) (bk : Int32) (k : Nat) (mm : Nat) : Int32 := (az_u2 ((v_Cx_feedBytes1V_L18 zG zO zX zY zA zB j bk k mm mm).2.1) j 1 ((((v_Cx_feedBytes1V_L18 zG zO zX zY zA zB j bk k mm mm).2.1) j 1) + (nI mm))) j 1
noncomputable def v_Cx_feedBytes1V_zX (zG : Nat → Nat × Nat) (zO : Nat → Nat) (zX : Nat → Nat → Int64) (zY : Nat → Nat → Int32) (zA : Nat → Nat → Nat → Int32) (zB : Nat → Int32) (j : Nat) (bk : Int32) (k : Nat) (mm : Nat) : Nat → Nat → Int64 := (v_Cx_feedBytes1V_L18 zG zO zX zY zA zB j bk k mm mm).1
noncomputable def v_Cx_feedBytes1V_zY (zG : Nat → Nat × Nat) (zO : Nat → Nat) (zX : Nat → Nat → Int64) (zY : Nat → Nat → Int32) (zA : Nat → Nat → Nat → Int32) (zB : Nat → Int32) (j : Nat) (bk : Int32) (k : Nat) (mm : Nat) : Nat → Nat → Int32 := az_u2 ((v_Cx_feedBytes1V_L18 zG zO zX zY zA zB j bk k mm mm).2.1) j 1 ((((v_Cx_feedBytes1V_L18 zG zO zX zY zA zB j bk k mm mm).2.1) j 1) + (nI mm))
noncomputable def v_Cx_feedBytes1V_zB (zG : Nat → Nat × Nat) (zO : Nat → Nat) (zX : Nat → Nat → Int64) (zY : Nat → Nat → Int32) (zA : Nat → Nat → Nat → Int32) (zB : Nat → Int32) (j : Nat) (bk : Int32) (k : Nat) (mm : Nat) : Nat → Int32 := (v_Cx_feedBytes1V_L18 zG zO zX zY zA zB j bk k mm mm).2.2
abbrev ws_Cx_feedBytes1V : List Cond := Cond.code y_Cx_feedBytes b_Cx_feedBytes 7 (some .int) :: aw_G
abbrev rm_Cx_feedBytes1V : Room := { frames := 5, cells := 0, slots := 0, locals := 125 }
set_option maxHeartbeats 4000000 in
set_option maxRecDepth 100000 in
theorem k_Cx_feedBytes1V (l : Launch) (D : va_G) (g : Nat → ClassId) (ad : Nat → Nat) (N0 : Nat) (zG : Nat → Nat × Nat) (zO : Nat → Nat) (zX : Nat → Nat → Int64) (zY : Nat → Nat → Int32) (zA : Nat → Nat → Nat → Int32) (zB : Nat → Int32) (zM : Nat → Nat × Nat) (zI : Nat → Nat → Int32) (zL : Nat → Nat → Int64) (zK : Int32) (zN : Nat) (zF : Int32) (zQ : Int64) (j : Nat) (bk : Int32) (k : Nat) (mm : Nat) (hj : j < 4) (hm : 2 ≤ (zG j).2) (hk : k + mm ≤ 64) : Met l y_Cx_feedBytes ws_Cx_feedBytes1V rm_Cx_feedBytes1V (va_Pc ([.ref (aw_c ad j 0), .int bk, .ref (aw_r ad 2), .int (nI k), .int (nI mm)] : List Value) (ag_B D g N0 (az_Sh g ad zG zO zX zY zA zB zM zI zL zK zN zF zQ))) (va_Qi (fun r (_ : Unit) => r = v_Cx_feedBytes1V zG zO zX zY zA zB j bk k mm) (fun (_ : Unit) t => ag_H D N0 (az_Sh g ad zG zO (v_Cx_feedBytes1V_zX zG zO zX zY zA zB j bk k mm) (v_Cx_feedBytes1V_zY zG zO zX zY zA zB j bk k mm) zA (v_Cx_feedBytes1V_zB zG zO zX zY zA zB j bk k mm) zM zI zL zK zN zF zQ) t.heap) (aw_Z N0)) 0 0 (aw_Z N0) := by
  refine Met.ofW (cc := b_Cx_feedBytes) (maxL := 7) (ret := (some .int)) (by decide) rfl ?_
  intro p e s m args below meth c s₁ B hml hv
  obtain ⟨rfl, ⟨L, hP, hD, hSh⟩, hU⟩ := hv
  have hx := B.exec
  have hb := B.bytes
  have hr := B.returns
  have hG : ∀ w ∈ aw_G, w.before _ s = true := fun w h => atoms_spec (ws := ws_Cx_feedBytes1V) B.pre w (List.mem_cons_of_mem _ h)
  have hown : s.vm.findClass "RuleCiphers$Context" = some m.cls := findClass_of_methodNamed B.named
  have hlocks := B.notSynchronized
  have hE := hU.1
  have hK := hE.1
  have hN := hE.2.1
  have hS : va_S (aw_Z N0) s.heap s.heap [] := va_S.rf
  have hl := lv_entry ([.ref (aw_c ad j 0), .int bk, .ref (aw_r ad 2), .int (nI k), .int (nI mm)] : List Value) (n := 7) (Nat.le_of_ble_eq_true rfl)
  rw [lg_entry_eq]
  generalize (lg_sl ([.ref (aw_c ad j 0), .int bk, .ref (aw_r ad 2), .int (nI k), .int (nI mm)] : List Value) ++ List.replicate (7 - (lg_sl ([.ref (aw_c ad j 0), .int bk, .ref (aw_r ad 2), .int (nI k), .int (nI mm)] : List Value)).length) Slot.unset).toArray = ls at hl ⊢
  have hl : lv_has ls 7 [(0, .ref (aw_c ad j 0)), (1, .int bk), (2, .ref (aw_r ad 2)), (3, .int (nI k)), (4, .int (nI mm))] := hl
  refine lv_aload_n hx hb d_Cx_feedBytes_0 rfl (lv_at hl 0 rfl) ?_
  obtain ⟨_, he1⟩ := zr_C0 hSh hj
  refine va_calli (va_runV (As := []) (rest := []) ⟨hx, hb, hml, hown, hG⟩ (k_Cx_feedsWholeBlocks0V l D g ad N0 zG zO zX zY zA zB zM zI zL zK zN zF zQ j hj hm) (aw_wV 0 hG gw_7_53 gw_7_58 gw_0_2 gw_7_51 gw_7_52 rfl rfl hd_Cx_feedsWholeBlocks ⟨Nat.le_of_ble_eq_true rfl, Nat.le_of_ble_eq_true rfl⟩) (ag_qV (va_recv hK hP rfl he1) hP hD hSh hU hS) rfl rfl hl.1 rfl (lv_room (Nat.le_of_ble_eq_true rfl)) d_Cx_feedBytes_1 ⟨Nat.le_of_ble_eq_true rfl, Nat.le_of_ble_eq_true rfl⟩) hS (fun _ _ h => h) (fun _ h => h) ?_
  clear hP hD hSh hS he1
  intro x2 u8 t8 H locs ht _ ex2 hB _ _ hS
  obtain ⟨L, hP, hD, hSh⟩ := hB
  rw [ht] at hP
  clear ht
  subst ex2
  refine lv_if_eq (tgt := 12) hx hb d_Cx_feedBytes_4 (by decide) (fun _ => ?_) (fun h => absurd (by decide +kernel) h)
  refine lv_iconst (v := nI 1) hx hb d_Cx_feedBytes_12 (by decide +kernel) ?_
  refine lv_istore hx hb d_Cx_feedBytes_13 hl (by decide) rfl (fun ls hl => ?_)
  have hl : lv_has ls 7 [(5, .int (nI 1)), (0, .ref (aw_c ad j 0)), (1, .int bk), (2, .ref (aw_r ad 2)), (3, .int (nI k)), (4, .int (nI mm))] := hl
  refine lv_iconst (v := nI 0) hx hb d_Cx_feedBytes_15 (by decide +kernel) ?_
  refine lv_istore hx hb d_Cx_feedBytes_16 hl (by decide) rfl (fun ls hl => ?_)
  have hl : lv_has ls 7 [(6, .int (nI 0)), (5, .int (nI 1)), (0, .ref (aw_c ad j 0)), (1, .int bk), (2, .ref (aw_r ad 2)), (3, .int (nI k)), (4, .int (nI mm))] := hl
  have L18 : ∀ (d t : Nat) (H : Heap) (locs : List Loc) (L : va_W) (ls : Array Slot), t + d = mm → va_P D aw_C L H → va_D (aw_Z N0) L → az_Sh g ad zG zO ((v_Cx_feedBytes1V_L18 zG zO zX zY zA zB j bk k mm t).1) ((v_Cx_feedBytes1V_L18 zG zO zX zY zA zB j bk k mm t).2.1) zA ((v_Cx_feedBytes1V_L18 zG zO zX zY zA zB j bk k mm t).2.2) zM zI zL zK zN zF zQ L → va_S (aw_Z N0) s.heap H locs → lv_has ls 7 [(0, .ref (aw_c ad j 0)), (1, .int bk), (2, .ref (aw_r ad 2)), (3, .int (nI k)), (4, .int (nI mm)), (5, .int (nI 1)), (6, .int (nI t))] → W p l e (headSpec ws_Cx_feedBytes1V rm_Cx_feedBytes1V).room s m ([.ref (aw_c ad j 0), .int bk, .ref (aw_r ad 2), .int (nI k), .int (nI mm)] : List Value).toArray below meth c H locs 0 0 (MQ below (va_Qi (fun r (_ : Unit) => r = v_Cx_feedBytes1V zG zO zX zY zA zB j bk k mm) (fun (_ : Unit) t => ag_H D N0 (az_Sh g ad zG zO (v_Cx_feedBytes1V_zX zG zO zX zY zA zB j bk k mm) (v_Cx_feedBytes1V_zY zG zO zX zY zA zB j bk k mm) zA (v_Cx_feedBytes1V_zB zG zO zX zY zA zB j bk k mm) zM zI zL zK zN zF zQ) t.heap) (aw_Z N0)) ([.ref (aw_c ad j 0), .int bk, .ref (aw_r ad 2), .int (nI k), .int (nI mm)] : List Value).toArray s 0 0 (aw_Z N0)) (F0 m 18 ls []) := by
    clear hl hP hD hSh hS
    intro d
    induction d with
    | zero =>
      intro t H locs L ls ht0 hP hD hSh hS hl
      have ht1 : t = mm := by omega
      rw [ht1] at hl
      rw [ht1] at hSh
      refine lv_iload hx hb d_Cx_feedBytes_18 (lv_at hl 6 rfl) ?_
      refine lv_iload hx hb d_Cx_feedBytes_20 (lv_at hl 4 rfl) ?_
      refine lv_icmp_ge (tgt := 45) hx hb d_Cx_feedBytes_22 (by decide) (fun _ => ?_) (fun h => absurd (show nI mm ≤ nI mm from (nI_leI (by omega) (by omega)).mpr (by omega)) h)
      refine lv_aload_n hx hb d_Cx_feedBytes_45 rfl (lv_at hl 0 rfl) ?_
      refine lv_dup hx hb d_Cx_feedBytes_46 rfl ?_
      obtain ⟨hsd4, he3⟩ := zr_C0 hSh hj
      have hg := hSh.2.2.2.2.1 j hj
      refine va_get (C := R_Cx) (T := T_Cx) (N := 10) (v := .int (((v_Cx_feedBytes1V_L18 zG zO zX zY zA zB j bk k mm mm).2.1) j 1)) hx hb hG in_Cx hown hK hP (3 + 16 * j + 0) he3 rfl 9 (by decide) (hG _ gw_2_6) (fun _ h => h) rfl d_Cx_feedBytes_47 ?_
      clear he3
      refine lv_iload hx hb d_Cx_feedBytes_50 (lv_at hl 4 rfl) ?_
      refine lv_iadd hx hb d_Cx_feedBytes_52 ?_
      refine ag_topi (fun x5 ex5 => ?_)
      obtain ⟨hsd7, he6⟩ := zr_C0 hSh hj
      have hg := hSh.2.2.2.2.1 j hj
      refine ag_put (v := .int x5) (ty := .int) (C := R_Cx) (T := T_Cx) (N := 10) hx hb hG in_Cx t_Cx t_Cx_ok n_Cx hown hK hP hD hS (3 + 16 * j + 0) he6 rfl 9 (by decide) (hG _ gw_2_6) (fun _ h => h) rfl (by decide +kernel) rfl rfl (Nat.le_of_ble_eq_true rfl) d_Cx_feedBytes_53 (zw_Y1 hSh hj x5) ?_
      clear hP hD hSh hS he6
      intro H locs L hP hD hSh hS
      obtain ⟨zY8, ezY8⟩ : ∃ z : Nat → Nat → Int32, az_u2 ((v_Cx_feedBytes1V_L18 zG zO zX zY zA zB j bk k mm mm).2.1) j 1 x5 = z := ⟨_, rfl⟩
      rw [ezY8] at hSh
      refine lv_aload_n hx hb d_Cx_feedBytes_56 rfl (lv_at hl 0 rfl) ?_
      obtain ⟨hsd10, he9⟩ := zr_C0 hSh hj
      have hg := hSh.2.2.2.2.1 j hj
      refine va_get (C := R_Cx) (T := T_Cx) (N := 10) (v := .int (zY8 j 1)) hx hb hG in_Cx hown hK hP (3 + 16 * j + 0) he9 rfl 9 (by decide) (hG _ gw_2_6) (fun _ h => h) rfl d_Cx_feedBytes_57 ?_
      clear he9
      have gzX : (v_Cx_feedBytes1V_L18 zG zO zX zY zA zB j bk k mm mm).1 = v_Cx_feedBytes1V_zX zG zO zX zY zA zB j bk k mm := by subst ezY8 ex5; rfl
      have gzY : zY8 = v_Cx_feedBytes1V_zY zG zO zX zY zA zB j bk k mm := by subst ezY8 ex5; rfl
      have gzB : (v_Cx_feedBytes1V_L18 zG zO zX zY zA zB j bk k mm mm).2.2 = v_Cx_feedBytes1V_zB zG zO zX zY zA zB j bk k mm := by subst ezY8 ex5; rfl
      have hSh : az_Sh g ad zG zO (v_Cx_feedBytes1V_zX zG zO zX zY zA zB j bk k mm) (v_Cx_feedBytes1V_zY zG zO zX zY zA zB j bk k mm) zA (v_Cx_feedBytes1V_zB zG zO zX zY zA zB j bk k mm) zM zI zL zK zN zF zQ L := by rw [← gzX, ← gzY, ← gzB]; exact hSh
      exact W.iret hx hb hr (fun t ht hW => ⟨⟨_, (), rfl, (by subst ezY8 ex5; rfl), ag_Hr ht hP hD hSh⟩, hS.F ht⟩) hS.2.2 d_Cx_feedBytes_60
    | succ d ih =>
      intro t H locs L ls ht0 hP hD hSh hS hl
      refine lv_iload hx hb d_Cx_feedBytes_18 (lv_at hl 6 rfl) ?_
      refine lv_iload hx hb d_Cx_feedBytes_20 (lv_at hl 4 rfl) ?_
      refine lv_icmp_ge (tgt := 45) hx hb d_Cx_feedBytes_22 (by decide) (fun h => absurd h (show ¬ nI mm ≤ nI t from fun h9 => absurd ((nI_leI (by omega) (by omega)).mp h9) (by omega))) (fun _ => ?_)
      refine lv_aload_n hx hb d_Cx_feedBytes_25 rfl (lv_at hl 0 rfl) ?_
      refine lv_iload_n hx hb d_Cx_feedBytes_26 rfl (lv_at hl 1 rfl) ?_
      refine lv_aload_n hx hb d_Cx_feedBytes_27 rfl (lv_at hl 2 rfl) ?_
      refine lv_iload_n hx hb d_Cx_feedBytes_28 rfl (lv_at hl 3 rfl) ?_
      refine lv_iload hx hb d_Cx_feedBytes_29 (lv_at hl 6 rfl) ?_
      refine lv_iadd hx hb d_Cx_feedBytes_31 ?_
      refine aw_ti (nI_add k t) ?_
      obtain ⟨_, he11⟩ := zr_C0 hSh hj
      refine va_callv (va_runV (As := [.int bk, .ref (aw_r ad 2), .int (nI (k + t))]) (rest := []) ⟨hx, hb, hml, hown, hG⟩ (k_Cx_feedStep0V l D g ad N0 zG zO ((v_Cx_feedBytes1V_L18 zG zO zX zY zA zB j bk k mm t).1) ((v_Cx_feedBytes1V_L18 zG zO zX zY zA zB j bk k mm t).2.1) zA ((v_Cx_feedBytes1V_L18 zG zO zX zY zA zB j bk k mm t).2.2) zM zI zL zK zN zF zQ j bk (k + t) hj hm (by omega)) (aw_wV 3 hG gw_8_1 gw_7_59 gw_0_2 gw_8_0 gw_p_3 rfl rfl hd_Cx_feedStep ⟨Nat.le_of_ble_eq_true rfl, Nat.le_of_ble_eq_true rfl⟩) (ag_qV (va_recv hK hP rfl he11) hP hD hSh hU hS) rfl rfl hl.1 rfl (lv_room (Nat.le_of_ble_eq_true rfl)) d_Cx_feedBytes_32 ⟨Nat.le_of_ble_eq_true rfl, Nat.le_of_ble_eq_true rfl⟩) hS (fun _ _ h => h) (fun _ h => h) ?_
      clear hP hD hSh hS he11
      intro u8 t8 H locs ht _ _ hB _ _ hS
      obtain ⟨L, hP, hD, hSh⟩ := hB
      rw [ht] at hP
      clear ht
      obtain ⟨zX12, ezX12⟩ : ∃ z : Nat → Nat → Int64, v_Cx_feedStep0V_zX zG zO ((v_Cx_feedBytes1V_L18 zG zO zX zY zA zB j bk k mm t).1) ((v_Cx_feedBytes1V_L18 zG zO zX zY zA zB j bk k mm t).2.1) zA ((v_Cx_feedBytes1V_L18 zG zO zX zY zA zB j bk k mm t).2.2) j bk (k + t) = z := ⟨_, rfl⟩
      rw [ezX12] at hSh
      obtain ⟨zY13, ezY13⟩ : ∃ z : Nat → Nat → Int32, v_Cx_feedStep0V_zY zG zO ((v_Cx_feedBytes1V_L18 zG zO zX zY zA zB j bk k mm t).1) ((v_Cx_feedBytes1V_L18 zG zO zX zY zA zB j bk k mm t).2.1) zA ((v_Cx_feedBytes1V_L18 zG zO zX zY zA zB j bk k mm t).2.2) j bk (k + t) = z := ⟨_, rfl⟩
      rw [ezY13] at hSh
      obtain ⟨zB14, ezB14⟩ : ∃ z : Nat → Int32, v_Cx_feedStep0V_zB zG zO ((v_Cx_feedBytes1V_L18 zG zO zX zY zA zB j bk k mm t).1) ((v_Cx_feedBytes1V_L18 zG zO zX zY zA zB j bk k mm t).2.1) zA ((v_Cx_feedBytes1V_L18 zG zO zX zY zA zB j bk k mm t).2.2) j bk (k + t) = z := ⟨_, rfl⟩
      rw [ezB14] at hSh
      refine lv_iload hx hb d_Cx_feedBytes_35 (lv_at hl 6 rfl) ?_
      refine lv_iload hx hb d_Cx_feedBytes_37 (lv_at hl 5 rfl) ?_
      refine lv_iadd hx hb d_Cx_feedBytes_39 ?_
      refine aw_ti (nI_add t 1) ?_
      refine lv_istore hx hb d_Cx_feedBytes_40 hl (by decide) rfl (fun ls hl => ?_)
      have hl : lv_has ls 7 [(6, .int (nI (t + 1))), (0, .ref (aw_c ad j 0)), (1, .int bk), (2, .ref (aw_r ad 2)), (3, .int (nI k)), (4, .int (nI mm)), (5, .int (nI 1))] := hl
      refine lv_goto (tgt := 18) hx hb d_Cx_feedBytes_42 (by decide) ?_
      have hl := lv_sub hl (l' := [(0, .ref (aw_c ad j 0)), (1, .int bk), (2, .ref (aw_r ad 2)), (3, .int (nI k)), (4, .int (nI mm)), (5, .int (nI 1)), (6, .int (nI (t + 1)))]) [1, 2, 3, 4, 5, 6, 0] rfl
      have g0 : zX12 = (v_Cx_feedBytes1V_L18 zG zO zX zY zA zB j bk k mm (t + 1)).1 := by subst ezB14 ezY13 ezX12; (rw [v_Cx_feedBytes1V_L18_s]) <;> rfl
      have g1 : zY13 = (v_Cx_feedBytes1V_L18 zG zO zX zY zA zB j bk k mm (t + 1)).2.1 := by subst ezB14 ezY13 ezX12; (rw [v_Cx_feedBytes1V_L18_s]) <;> rfl
      have g2 : zB14 = (v_Cx_feedBytes1V_L18 zG zO zX zY zA zB j bk k mm (t + 1)).2.2 := by subst ezB14 ezY13 ezX12; (rw [v_Cx_feedBytes1V_L18_s]) <;> rfl
      have hSh : az_Sh g ad zG zO ((v_Cx_feedBytes1V_L18 zG zO zX zY zA zB j bk k mm (t + 1)).1) ((v_Cx_feedBytes1V_L18 zG zO zX zY zA zB j bk k mm (t + 1)).2.1) zA ((v_Cx_feedBytes1V_L18 zG zO zX zY zA zB j bk k mm (t + 1)).2.2) zM zI zL zK zN zF zQ L := by rw [← g0, ← g1, ← g2]; exact hSh
      exact ih (t + 1) H locs L ls (by omega) hP hD hSh hS (by first | exact hl | simpa [Nat.add_assoc, Nat.mul_add, Nat.add_comm] using hl)
  have hl := lv_sub hl (l' := [(0, .ref (aw_c ad j 0)), (1, .int bk), (2, .ref (aw_r ad 2)), (3, .int (nI k)), (4, .int (nI mm)), (5, .int (nI 1)), (6, .int (nI 0))]) [2, 3, 4, 5, 6, 1, 0] rfl
  have g0 : zX = (v_Cx_feedBytes1V_L18 zG zO zX zY zA zB j bk k mm 0).1 := by (rw [v_Cx_feedBytes1V_L18_z]) <;> rfl
  have g1 : zY = (v_Cx_feedBytes1V_L18 zG zO zX zY zA zB j bk k mm 0).2.1 := by (rw [v_Cx_feedBytes1V_L18_z]) <;> rfl
  have g2 : zB = (v_Cx_feedBytes1V_L18 zG zO zX zY zA zB j bk k mm 0).2.2 := by (rw [v_Cx_feedBytes1V_L18_z]) <;> rfl
  have hSh : az_Sh g ad zG zO ((v_Cx_feedBytes1V_L18 zG zO zX zY zA zB j bk k mm 0).1) ((v_Cx_feedBytes1V_L18 zG zO zX zY zA zB j bk k mm 0).2.1) zA ((v_Cx_feedBytes1V_L18 zG zO zX zY zA zB j bk k mm 0).2.2) zM zI zL zK zN zF zQ L := by rw [← g0, ← g1, ← g2]; exact hSh
  exact L18 mm 0 _ _ L ls (by omega) hP hD hSh hS (by first | exact hl | simpa using hl)
noncomputable def v_Cx_feedBytes8V_L18 (zG : Nat → Nat × Nat) (zO : Nat → Nat) (zX : Nat → Nat → Int64) (zY : Nat → Nat → Int32) (zA : Nat → Nat → Nat → Int32) (zB : Nat → Int32) (j : Nat) (bk : Int32) (k : Nat) (mm : Nat) (t : Nat) : (Nat → Nat → Int64) × (Nat → Int32) := Nat.rec (motive := fun _ => (Nat → Nat → Int64) × (Nat → Int32)) (zX, zB) (fun t s => (v_Cx_feedStep1V_zX zG zO (s.1) zA (s.2) j bk (k + (8 * t)), v_Cx_feedStep1V_zB zG zO (s.1) zA (s.2) j bk (k + (8 * t)))) t
theorem v_Cx_feedBytes8V_L18_z (zG : Nat → Nat × Nat) (zO : Nat → Nat) (zX : Nat → Nat → Int64) (zY : Nat → Nat → Int32) (zA : Nat → Nat → Nat → Int32) (zB : Nat → Int32) (j : Nat) (bk : Int32) (k : Nat) (mm : Nat) : v_Cx_feedBytes8V_L18 zG zO zX zY zA zB j bk k mm 0 = (zX, zB) := rfl
theorem v_Cx_feedBytes8V_L18_s (zG : Nat → Nat × Nat) (zO : Nat → Nat) (zX : Nat → Nat → Int64) (zY : Nat → Nat → Int32) (zA : Nat → Nat → Nat → Int32) (zB : Nat → Int32) (j : Nat) (bk : Int32) (k : Nat) (mm : Nat) (t : Nat) : v_Cx_feedBytes8V_L18 zG zO zX zY zA zB j bk k mm (t + 1) = (v_Cx_feedStep1V_zX zG zO ((v_Cx_feedBytes8V_L18 zG zO zX zY zA zB j bk k mm t).1) zA ((v_Cx_feedBytes8V_L18 zG zO zX zY zA zB j bk k mm t).2) j bk (k + (8 * t)), v_Cx_feedStep1V_zB zG zO ((v_Cx_feedBytes8V_L18 zG zO zX zY zA zB j bk k mm t).1) zA ((v_Cx_feedBytes8V_L18 zG zO zX zY zA zB j bk k mm t).2) j bk (k + (8 * t))) := rfl
noncomputable def v_Cx_feedBytes8V (zG : Nat → Nat × Nat) (zO : Nat → Nat) (zX : Nat → Nat → Int64) (zY : Nat → Nat → Int32) (zA : Nat → Nat → Nat → Int32) (zB : Nat → Int32) (j : Nat) (bk : Int32) (k : Nat) (mm : Nat) : Int32 := (az_u2 zY j 1 ((zY j 1) + (nI (8 * mm)))) j 1
noncomputable def v_Cx_feedBytes8V_zX (zG : Nat → Nat × Nat) (zO : Nat → Nat) (zX : Nat → Nat → Int64) (zY : Nat → Nat → Int32) (zA : Nat → Nat → Nat → Int32) (zB : Nat → Int32) (j : Nat) (bk : Int32) (k : Nat) (mm : Nat) : Nat → Nat → Int64 := (v_Cx_feedBytes8V_L18 zG zO zX zY zA zB j bk k mm mm).1
noncomputable def v_Cx_feedBytes8V_zY (zG : Nat → Nat × Nat) (zO : Nat → Nat) (zX : Nat → Nat → Int64) (zY : Nat → Nat → Int32) (zA : Nat → Nat → Nat → Int32) (zB : Nat → Int32) (j : Nat) (bk : Int32) (k : Nat) (mm : Nat) : Nat → Nat → Int32 := az_u2 zY j 1 ((zY j 1) + (nI (8 * mm)))
noncomputable def v_Cx_feedBytes8V_zB (zG : Nat → Nat × Nat) (zO : Nat → Nat) (zX : Nat → Nat → Int64) (zY : Nat → Nat → Int32) (zA : Nat → Nat → Nat → Int32) (zB : Nat → Int32) (j : Nat) (bk : Int32) (k : Nat) (mm : Nat) : Nat → Int32 := (v_Cx_feedBytes8V_L18 zG zO zX zY zA zB j bk k mm mm).2
abbrev ws_Cx_feedBytes8V : List Cond := Cond.code y_Cx_feedBytes b_Cx_feedBytes 7 (some .int) :: aw_G
abbrev rm_Cx_feedBytes8V : Room := { frames := 5, cells := 0, slots := 0, locals := 127 }
set_option maxHeartbeats 4000000 in
set_option maxRecDepth 100000 in
theorem k_Cx_feedBytes8V (l : Launch) (D : va_G) (g : Nat → ClassId) (ad : Nat → Nat) (N0 : Nat) (zG : Nat → Nat × Nat) (zO : Nat → Nat) (zX : Nat → Nat → Int64) (zY : Nat → Nat → Int32) (zA : Nat → Nat → Nat → Int32) (zB : Nat → Int32) (zM : Nat → Nat × Nat) (zI : Nat → Nat → Int32) (zL : Nat → Nat → Int64) (zK : Int32) (zN : Nat) (zF : Int32) (zQ : Int64) (j : Nat) (bk : Int32) (k : Nat) (mm : Nat) (hj : j < 4) (hm : (zG j).2 ≤ 1) (hk : k + 8 * mm ≤ 64) : Met l y_Cx_feedBytes ws_Cx_feedBytes8V rm_Cx_feedBytes8V (va_Pc ([.ref (aw_c ad j 0), .int bk, .ref (aw_r ad 2), .int (nI k), .int (nI (8 * mm))] : List Value) (ag_B D g N0 (az_Sh g ad zG zO zX zY zA zB zM zI zL zK zN zF zQ))) (va_Qi (fun r (_ : Unit) => r = v_Cx_feedBytes8V zG zO zX zY zA zB j bk k mm) (fun (_ : Unit) t => ag_H D N0 (az_Sh g ad zG zO (v_Cx_feedBytes8V_zX zG zO zX zY zA zB j bk k mm) (v_Cx_feedBytes8V_zY zG zO zX zY zA zB j bk k mm) zA (v_Cx_feedBytes8V_zB zG zO zX zY zA zB j bk k mm) zM zI zL zK zN zF zQ) t.heap) (aw_Z N0)) 0 0 (aw_Z N0) := by
  refine Met.ofW (cc := b_Cx_feedBytes) (maxL := 7) (ret := (some .int)) (by decide) rfl ?_
  intro p e s m args below meth c s₁ B hml hv
  obtain ⟨rfl, ⟨L, hP, hD, hSh⟩, hU⟩ := hv
  have hx := B.exec
  have hb := B.bytes
  have hr := B.returns
  have hG : ∀ w ∈ aw_G, w.before _ s = true := fun w h => atoms_spec (ws := ws_Cx_feedBytes8V) B.pre w (List.mem_cons_of_mem _ h)
  have hown : s.vm.findClass "RuleCiphers$Context" = some m.cls := findClass_of_methodNamed B.named
  have hlocks := B.notSynchronized
  have hE := hU.1
  have hK := hE.1
  have hN := hE.2.1
  have hS : va_S (aw_Z N0) s.heap s.heap [] := va_S.rf
  have hl := lv_entry ([.ref (aw_c ad j 0), .int bk, .ref (aw_r ad 2), .int (nI k), .int (nI (8 * mm))] : List Value) (n := 7) (Nat.le_of_ble_eq_true rfl)
  rw [lg_entry_eq]
  generalize (lg_sl ([.ref (aw_c ad j 0), .int bk, .ref (aw_r ad 2), .int (nI k), .int (nI (8 * mm))] : List Value) ++ List.replicate (7 - (lg_sl ([.ref (aw_c ad j 0), .int bk, .ref (aw_r ad 2), .int (nI k), .int (nI (8 * mm))] : List Value)).length) Slot.unset).toArray = ls at hl ⊢
  have hl : lv_has ls 7 [(0, .ref (aw_c ad j 0)), (1, .int bk), (2, .ref (aw_r ad 2)), (3, .int (nI k)), (4, .int (nI (8 * mm)))] := hl
  refine lv_aload_n hx hb d_Cx_feedBytes_0 rfl (lv_at hl 0 rfl) ?_
  obtain ⟨_, he1⟩ := zr_C0 hSh hj
  refine va_calli (va_runV (As := []) (rest := []) ⟨hx, hb, hml, hown, hG⟩ (k_Cx_feedsWholeBlocks1V l D g ad N0 zG zO zX zY zA zB zM zI zL zK zN zF zQ j hj hm) (aw_wV 0 hG gw_7_53 gw_7_58 gw_0_2 gw_7_51 gw_7_52 rfl rfl hd_Cx_feedsWholeBlocks ⟨Nat.le_of_ble_eq_true rfl, Nat.le_of_ble_eq_true rfl⟩) (ag_qV (va_recv hK hP rfl he1) hP hD hSh hU hS) rfl rfl hl.1 rfl (lv_room (Nat.le_of_ble_eq_true rfl)) d_Cx_feedBytes_1 ⟨Nat.le_of_ble_eq_true rfl, Nat.le_of_ble_eq_true rfl⟩) hS (fun _ _ h => h) (fun _ h => h) ?_
  clear hP hD hSh hS he1
  intro x2 u8 t8 H locs ht _ ex2 hB _ _ hS
  obtain ⟨L, hP, hD, hSh⟩ := hB
  rw [ht] at hP
  clear ht
  subst ex2
  refine lv_if_eq (tgt := 12) hx hb d_Cx_feedBytes_4 (by decide) (fun h => absurd h (by decide +kernel)) (fun _ => ?_)
  refine lv_bipush (v := nI 8) hx hb d_Cx_feedBytes_7 (by decide +kernel) ?_
  refine lv_goto (tgt := 13) hx hb d_Cx_feedBytes_9 (by decide) ?_
  refine lv_istore hx hb d_Cx_feedBytes_13 hl (by decide) rfl (fun ls hl => ?_)
  have hl : lv_has ls 7 [(5, .int (nI 8)), (0, .ref (aw_c ad j 0)), (1, .int bk), (2, .ref (aw_r ad 2)), (3, .int (nI k)), (4, .int (nI (8 * mm)))] := hl
  refine lv_iconst (v := nI 0) hx hb d_Cx_feedBytes_15 (by decide +kernel) ?_
  refine lv_istore hx hb d_Cx_feedBytes_16 hl (by decide) rfl (fun ls hl => ?_)
  have hl : lv_has ls 7 [(6, .int (nI 0)), (5, .int (nI 8)), (0, .ref (aw_c ad j 0)), (1, .int bk), (2, .ref (aw_r ad 2)), (3, .int (nI k)), (4, .int (nI (8 * mm)))] := hl
  have L18 : ∀ (d t : Nat) (H : Heap) (locs : List Loc) (L : va_W) (ls : Array Slot), t + d = mm → va_P D aw_C L H → va_D (aw_Z N0) L → az_Sh g ad zG zO ((v_Cx_feedBytes8V_L18 zG zO zX zY zA zB j bk k mm t).1) zY zA ((v_Cx_feedBytes8V_L18 zG zO zX zY zA zB j bk k mm t).2) zM zI zL zK zN zF zQ L → va_S (aw_Z N0) s.heap H locs → lv_has ls 7 [(0, .ref (aw_c ad j 0)), (1, .int bk), (2, .ref (aw_r ad 2)), (3, .int (nI k)), (4, .int (nI (8 * mm))), (5, .int (nI 8)), (6, .int (nI (8 * t)))] → W p l e (headSpec ws_Cx_feedBytes8V rm_Cx_feedBytes8V).room s m ([.ref (aw_c ad j 0), .int bk, .ref (aw_r ad 2), .int (nI k), .int (nI (8 * mm))] : List Value).toArray below meth c H locs 0 0 (MQ below (va_Qi (fun r (_ : Unit) => r = v_Cx_feedBytes8V zG zO zX zY zA zB j bk k mm) (fun (_ : Unit) t => ag_H D N0 (az_Sh g ad zG zO (v_Cx_feedBytes8V_zX zG zO zX zY zA zB j bk k mm) (v_Cx_feedBytes8V_zY zG zO zX zY zA zB j bk k mm) zA (v_Cx_feedBytes8V_zB zG zO zX zY zA zB j bk k mm) zM zI zL zK zN zF zQ) t.heap) (aw_Z N0)) ([.ref (aw_c ad j 0), .int bk, .ref (aw_r ad 2), .int (nI k), .int (nI (8 * mm))] : List Value).toArray s 0 0 (aw_Z N0)) (F0 m 18 ls []) := by
    clear hl hP hD hSh hS
    intro d
    induction d with
    | zero =>
      intro t H locs L ls ht0 hP hD hSh hS hl
      have ht1 : t = mm := by omega
      rw [ht1] at hl
      rw [ht1] at hSh
      refine lv_iload hx hb d_Cx_feedBytes_18 (lv_at hl 6 rfl) ?_
      refine lv_iload hx hb d_Cx_feedBytes_20 (lv_at hl 4 rfl) ?_
      refine lv_icmp_ge (tgt := 45) hx hb d_Cx_feedBytes_22 (by decide) (fun _ => ?_) (fun h => absurd (show nI (8 * mm) ≤ nI (8 * mm) from (nI_leI (by omega) (by omega)).mpr (by omega)) h)
      refine lv_aload_n hx hb d_Cx_feedBytes_45 rfl (lv_at hl 0 rfl) ?_
      refine lv_dup hx hb d_Cx_feedBytes_46 rfl ?_
      obtain ⟨hsd4, he3⟩ := zr_C0 hSh hj
      have hg := hSh.2.2.2.2.1 j hj
      refine va_get (C := R_Cx) (T := T_Cx) (N := 10) (v := .int (zY j 1)) hx hb hG in_Cx hown hK hP (3 + 16 * j + 0) he3 rfl 9 (by decide) (hG _ gw_2_6) (fun _ h => h) rfl d_Cx_feedBytes_47 ?_
      clear he3
      refine lv_iload hx hb d_Cx_feedBytes_50 (lv_at hl 4 rfl) ?_
      refine lv_iadd hx hb d_Cx_feedBytes_52 ?_
      refine ag_topi (fun x5 ex5 => ?_)
      obtain ⟨hsd7, he6⟩ := zr_C0 hSh hj
      have hg := hSh.2.2.2.2.1 j hj
      refine ag_put (v := .int x5) (ty := .int) (C := R_Cx) (T := T_Cx) (N := 10) hx hb hG in_Cx t_Cx t_Cx_ok n_Cx hown hK hP hD hS (3 + 16 * j + 0) he6 rfl 9 (by decide) (hG _ gw_2_6) (fun _ h => h) rfl (by decide +kernel) rfl rfl (Nat.le_of_ble_eq_true rfl) d_Cx_feedBytes_53 (zw_Y1 hSh hj x5) ?_
      clear hP hD hSh hS he6
      intro H locs L hP hD hSh hS
      obtain ⟨zY8, ezY8⟩ : ∃ z : Nat → Nat → Int32, az_u2 zY j 1 x5 = z := ⟨_, rfl⟩
      rw [ezY8] at hSh
      refine lv_aload_n hx hb d_Cx_feedBytes_56 rfl (lv_at hl 0 rfl) ?_
      obtain ⟨hsd10, he9⟩ := zr_C0 hSh hj
      have hg := hSh.2.2.2.2.1 j hj
      refine va_get (C := R_Cx) (T := T_Cx) (N := 10) (v := .int (zY8 j 1)) hx hb hG in_Cx hown hK hP (3 + 16 * j + 0) he9 rfl 9 (by decide) (hG _ gw_2_6) (fun _ h => h) rfl d_Cx_feedBytes_57 ?_
      clear he9
      have gzX : (v_Cx_feedBytes8V_L18 zG zO zX zY zA zB j bk k mm mm).1 = v_Cx_feedBytes8V_zX zG zO zX zY zA zB j bk k mm := by subst ezY8 ex5; rfl
      have gzY : zY8 = v_Cx_feedBytes8V_zY zG zO zX zY zA zB j bk k mm := by subst ezY8 ex5; rfl
      have gzB : (v_Cx_feedBytes8V_L18 zG zO zX zY zA zB j bk k mm mm).2 = v_Cx_feedBytes8V_zB zG zO zX zY zA zB j bk k mm := by subst ezY8 ex5; rfl
      have hSh : az_Sh g ad zG zO (v_Cx_feedBytes8V_zX zG zO zX zY zA zB j bk k mm) (v_Cx_feedBytes8V_zY zG zO zX zY zA zB j bk k mm) zA (v_Cx_feedBytes8V_zB zG zO zX zY zA zB j bk k mm) zM zI zL zK zN zF zQ L := by rw [← gzX, ← gzY, ← gzB]; exact hSh
      exact W.iret hx hb hr (fun t ht hW => ⟨⟨_, (), rfl, (by subst ezY8 ex5; rfl), ag_Hr ht hP hD hSh⟩, hS.F ht⟩) hS.2.2 d_Cx_feedBytes_60
    | succ d ih =>
      intro t H locs L ls ht0 hP hD hSh hS hl
      refine lv_iload hx hb d_Cx_feedBytes_18 (lv_at hl 6 rfl) ?_
      refine lv_iload hx hb d_Cx_feedBytes_20 (lv_at hl 4 rfl) ?_
      refine lv_icmp_ge (tgt := 45) hx hb d_Cx_feedBytes_22 (by decide) (fun h => absurd h (show ¬ nI (8 * mm) ≤ nI (8 * t) from fun h9 => absurd ((nI_leI (by omega) (by omega)).mp h9) (by omega))) (fun _ => ?_)
      refine lv_aload_n hx hb d_Cx_feedBytes_25 rfl (lv_at hl 0 rfl) ?_
      refine lv_iload_n hx hb d_Cx_feedBytes_26 rfl (lv_at hl 1 rfl) ?_
      refine lv_aload_n hx hb d_Cx_feedBytes_27 rfl (lv_at hl 2 rfl) ?_
      refine lv_iload_n hx hb d_Cx_feedBytes_28 rfl (lv_at hl 3 rfl) ?_
      refine lv_iload hx hb d_Cx_feedBytes_29 (lv_at hl 6 rfl) ?_
      refine lv_iadd hx hb d_Cx_feedBytes_31 ?_
      refine aw_ti (nI_add k (8 * t)) ?_
      obtain ⟨_, he11⟩ := zr_C0 hSh hj
      refine va_callv (va_runV (As := [.int bk, .ref (aw_r ad 2), .int (nI (k + (8 * t)))]) (rest := []) ⟨hx, hb, hml, hown, hG⟩ (k_Cx_feedStep1V l D g ad N0 zG zO ((v_Cx_feedBytes8V_L18 zG zO zX zY zA zB j bk k mm t).1) zY zA ((v_Cx_feedBytes8V_L18 zG zO zX zY zA zB j bk k mm t).2) zM zI zL zK zN zF zQ j bk (k + (8 * t)) hj hm (by omega)) (aw_wV 3 hG gw_8_1 gw_7_59 gw_0_2 gw_8_0 gw_p_3 rfl rfl hd_Cx_feedStep ⟨Nat.le_of_ble_eq_true rfl, Nat.le_of_ble_eq_true rfl⟩) (ag_qV (va_recv hK hP rfl he11) hP hD hSh hU hS) rfl rfl hl.1 rfl (lv_room (Nat.le_of_ble_eq_true rfl)) d_Cx_feedBytes_32 ⟨Nat.le_of_ble_eq_true rfl, Nat.le_of_ble_eq_true rfl⟩) hS (fun _ _ h => h) (fun _ h => h) ?_
      clear hP hD hSh hS he11
      intro u8 t8 H locs ht _ _ hB _ _ hS
      obtain ⟨L, hP, hD, hSh⟩ := hB
      rw [ht] at hP
      clear ht
      obtain ⟨zX12, ezX12⟩ : ∃ z : Nat → Nat → Int64, v_Cx_feedStep1V_zX zG zO ((v_Cx_feedBytes8V_L18 zG zO zX zY zA zB j bk k mm t).1) zA ((v_Cx_feedBytes8V_L18 zG zO zX zY zA zB j bk k mm t).2) j bk (k + (8 * t)) = z := ⟨_, rfl⟩
      rw [ezX12] at hSh
      obtain ⟨zB13, ezB13⟩ : ∃ z : Nat → Int32, v_Cx_feedStep1V_zB zG zO ((v_Cx_feedBytes8V_L18 zG zO zX zY zA zB j bk k mm t).1) zA ((v_Cx_feedBytes8V_L18 zG zO zX zY zA zB j bk k mm t).2) j bk (k + (8 * t)) = z := ⟨_, rfl⟩
      rw [ezB13] at hSh
      refine lv_iload hx hb d_Cx_feedBytes_35 (lv_at hl 6 rfl) ?_
      refine lv_iload hx hb d_Cx_feedBytes_37 (lv_at hl 5 rfl) ?_
      refine lv_iadd hx hb d_Cx_feedBytes_39 ?_
      refine aw_ti (nI_add (8 * t) 8) ?_
      refine lv_istore hx hb d_Cx_feedBytes_40 hl (by decide) rfl (fun ls hl => ?_)
      have hl : lv_has ls 7 [(6, .int (nI ((8 * t) + 8))), (0, .ref (aw_c ad j 0)), (1, .int bk), (2, .ref (aw_r ad 2)), (3, .int (nI k)), (4, .int (nI (8 * mm))), (5, .int (nI 8))] := hl
      refine lv_goto (tgt := 18) hx hb d_Cx_feedBytes_42 (by decide) ?_
      have hl := lv_sub hl (l' := [(0, .ref (aw_c ad j 0)), (1, .int bk), (2, .ref (aw_r ad 2)), (3, .int (nI k)), (4, .int (nI (8 * mm))), (5, .int (nI 8)), (6, .int (nI ((8 * t) + 8)))]) [1, 2, 3, 4, 5, 6, 0] rfl
      have g0 : zX12 = (v_Cx_feedBytes8V_L18 zG zO zX zY zA zB j bk k mm (t + 1)).1 := by subst ezB13 ezX12; (rw [v_Cx_feedBytes8V_L18_s]) <;> rfl
      have g1 : zB13 = (v_Cx_feedBytes8V_L18 zG zO zX zY zA zB j bk k mm (t + 1)).2 := by subst ezB13 ezX12; (rw [v_Cx_feedBytes8V_L18_s]) <;> rfl
      have hSh : az_Sh g ad zG zO ((v_Cx_feedBytes8V_L18 zG zO zX zY zA zB j bk k mm (t + 1)).1) zY zA ((v_Cx_feedBytes8V_L18 zG zO zX zY zA zB j bk k mm (t + 1)).2) zM zI zL zK zN zF zQ L := by rw [← g0, ← g1]; exact hSh
      exact ih (t + 1) H locs L ls (by omega) hP hD hSh hS (by first | exact hl | simpa [Nat.add_assoc, Nat.mul_add, Nat.add_comm] using hl)
  have hl := lv_sub hl (l' := [(0, .ref (aw_c ad j 0)), (1, .int bk), (2, .ref (aw_r ad 2)), (3, .int (nI k)), (4, .int (nI (8 * mm))), (5, .int (nI 8)), (6, .int (nI 0))]) [2, 3, 4, 5, 6, 1, 0] rfl
  have g0 : zX = (v_Cx_feedBytes8V_L18 zG zO zX zY zA zB j bk k mm 0).1 := by (rw [v_Cx_feedBytes8V_L18_z]) <;> rfl
  have g1 : zB = (v_Cx_feedBytes8V_L18 zG zO zX zY zA zB j bk k mm 0).2 := by (rw [v_Cx_feedBytes8V_L18_z]) <;> rfl
  have hSh : az_Sh g ad zG zO ((v_Cx_feedBytes8V_L18 zG zO zX zY zA zB j bk k mm 0).1) zY zA ((v_Cx_feedBytes8V_L18 zG zO zX zY zA zB j bk k mm 0).2) zM zI zL zK zN zF zQ L := by rw [← g0, ← g1]; exact hSh
  exact L18 mm 0 _ _ L ls (by omega) hP hD hSh hS (by first | exact hl | simpa using hl)
noncomputable def v_Cx_goToBlockV_zX (zX : Nat → Nat → Int64) (zY : Nat → Nat → Int32) (j : Nat) (b : Int64) : Nat → Nat → Int64 := az_u2 zX j 1 ((zX j 0) + b)
noncomputable def v_Cx_goToBlockV_zY (zX : Nat → Nat → Int64) (zY : Nat → Nat → Int32) (j : Nat) (b : Int64) : Nat → Nat → Int32 := az_u2 zY j 0 (nI 0)
abbrev ws_Cx_goToBlockV : List Cond := Cond.code y_Cx_goToBlock b_Cx_goToBlock 3 none :: aw_G
abbrev rm_Cx_goToBlockV : Room := { frames := 0, cells := 0, slots := 0, locals := 0 }
set_option maxHeartbeats 4000000 in
set_option maxRecDepth 100000 in
theorem k_Cx_goToBlockV (l : Launch) (D : va_G) (g : Nat → ClassId) (ad : Nat → Nat) (N0 : Nat) (zG : Nat → Nat × Nat) (zO : Nat → Nat) (zX : Nat → Nat → Int64) (zY : Nat → Nat → Int32) (zA : Nat → Nat → Nat → Int32) (zB : Nat → Int32) (zM : Nat → Nat × Nat) (zI : Nat → Nat → Int32) (zL : Nat → Nat → Int64) (zK : Int32) (zN : Nat) (zF : Int32) (zQ : Int64) (j : Nat) (b : Int64) (hj : j < 4) : Met l y_Cx_goToBlock ws_Cx_goToBlockV rm_Cx_goToBlockV (va_Pc ([.ref (aw_c ad j 0), .long b] : List Value) (ag_B D g N0 (az_Sh g ad zG zO zX zY zA zB zM zI zL zK zN zF zQ))) (va_Qv (fun (_ : Unit) => True) (fun (_ : Unit) t => ag_H D N0 (az_Sh g ad zG zO (v_Cx_goToBlockV_zX zX zY j b) (v_Cx_goToBlockV_zY zX zY j b) zA zB zM zI zL zK zN zF zQ) t.heap) (aw_Z N0)) 0 0 (aw_Z N0) := by
  refine Met.ofW (cc := b_Cx_goToBlock) (maxL := 3) (ret := none) (by decide) rfl ?_
  intro p e s m args below meth c s₁ B hml hv
  obtain ⟨rfl, ⟨L, hP, hD, hSh⟩, hU⟩ := hv
  have hx := B.exec
  have hb := B.bytes
  have hr := B.returns
  have hG : ∀ w ∈ aw_G, w.before _ s = true := fun w h => atoms_spec (ws := ws_Cx_goToBlockV) B.pre w (List.mem_cons_of_mem _ h)
  have hown : s.vm.findClass "RuleCiphers$Context" = some m.cls := findClass_of_methodNamed B.named
  have hlocks := B.notSynchronized
  have hE := hU.1
  have hK := hE.1
  have hN := hE.2.1
  have hS : va_S (aw_Z N0) s.heap s.heap [] := va_S.rf
  have hl := lv_entry ([.ref (aw_c ad j 0), .long b] : List Value) (n := 3) (Nat.le_of_ble_eq_true rfl)
  rw [lg_entry_eq]
  generalize (lg_sl ([.ref (aw_c ad j 0), .long b] : List Value) ++ List.replicate (3 - (lg_sl ([.ref (aw_c ad j 0), .long b] : List Value)).length) Slot.unset).toArray = ls at hl ⊢
  have hl : lv_has ls 3 [(0, .ref (aw_c ad j 0)), (1, .long b)] := hl
  refine lv_aload_n hx hb d_Cx_goToBlock_0 rfl (lv_at hl 0 rfl) ?_
  refine lv_aload_n hx hb d_Cx_goToBlock_1 rfl (lv_at hl 0 rfl) ?_
  obtain ⟨hsd2, he1⟩ := zr_C0 hSh hj
  have hg := hSh.2.2.2.2.1 j hj
  refine va_get (C := R_Cx) (T := T_Cx) (N := 10) (v := .long (zX j 0)) hx hb hG in_Cx hown hK hP (3 + 16 * j + 0) he1 rfl 5 (by decide) (hG _ gw_2_2) (fun _ h => h) rfl d_Cx_goToBlock_2 ?_
  clear he1
  refine lv_lload_n hx hb d_Cx_goToBlock_5 rfl (lv_at hl 1 rfl) ?_
  refine lv_ladd hx hb d_Cx_goToBlock_6 ?_
  refine ag_topl (fun y3 ey3 => ?_)
  obtain ⟨hsd5, he4⟩ := zr_C0 hSh hj
  have hg := hSh.2.2.2.2.1 j hj
  refine ag_put (v := .long y3) (ty := .long) (C := R_Cx) (T := T_Cx) (N := 10) hx hb hG in_Cx t_Cx t_Cx_ok n_Cx hown hK hP hD hS (3 + 16 * j + 0) he4 rfl 6 (by decide) (hG _ gw_2_3) (fun _ h => h) rfl (by decide +kernel) rfl rfl (Nat.le_of_ble_eq_true rfl) d_Cx_goToBlock_7 (zw_X1 hSh hj y3) ?_
  clear hP hD hSh hS he4
  intro H locs L hP hD hSh hS
  obtain ⟨zX6, ezX6⟩ : ∃ z : Nat → Nat → Int64, az_u2 zX j 1 y3 = z := ⟨_, rfl⟩
  rw [ezX6] at hSh
  refine lv_aload_n hx hb d_Cx_goToBlock_10 rfl (lv_at hl 0 rfl) ?_
  refine lv_iconst (v := nI 0) hx hb d_Cx_goToBlock_11 (by decide +kernel) ?_
  obtain ⟨hsd8, he7⟩ := zr_C0 hSh hj
  have hg := hSh.2.2.2.2.1 j hj
  refine ag_put (v := .int (nI 0)) (ty := .int) (C := R_Cx) (T := T_Cx) (N := 10) hx hb hG in_Cx t_Cx t_Cx_ok n_Cx hown hK hP hD hS (3 + 16 * j + 0) he7 rfl 8 (by decide) (hG _ gw_2_5) (fun _ h => h) rfl (by decide +kernel) rfl rfl (Nat.le_of_ble_eq_true rfl) d_Cx_goToBlock_12 (zw_Y0 hSh hj (nI 0)) ?_
  clear hP hD hSh hS he7
  intro H locs L hP hD hSh hS
  obtain ⟨zY9, ezY9⟩ : ∃ z : Nat → Nat → Int32, az_u2 zY j 0 (nI 0) = z := ⟨_, rfl⟩
  rw [ezY9] at hSh
  have gzX : zX6 = v_Cx_goToBlockV_zX zX zY j b := by subst ezY9 ezX6 ey3; rfl
  have gzY : zY9 = v_Cx_goToBlockV_zY zX zY j b := by subst ezY9 ezX6 ey3; rfl
  have hSh : az_Sh g ad zG zO (v_Cx_goToBlockV_zX zX zY j b) (v_Cx_goToBlockV_zY zX zY j b) zA zB zM zI zL zK zN zF zQ L := by rw [← gzX, ← gzY]; exact hSh
  exact W.vret hx hb hr (fun t ht hW => ⟨⟨(), rfl, trivial, ag_Hr ht hP hD hSh⟩, hS.F ht⟩) hS.2.2 d_Cx_goToBlock_15
noncomputable def v_Cx_takeBytes0V (zY : Nat → Nat → Int32) (j : Nat) : Int32 := v_Tk_add0V zY j
noncomputable def v_Cx_takeBytes0V_zY (zY : Nat → Nat → Int32) (j : Nat) : Nat → Nat → Int32 := v_Tk_add0V_zY zY j
abbrev ws_Cx_takeBytes0V : List Cond := Cond.code y_Cx_takeBytes b_Cx_takeBytes 4 (some .int) :: aw_G
abbrev rm_Cx_takeBytes0V : Room := { frames := 1, cells := 0, slots := 0, locals := 25 }
set_option maxHeartbeats 4000000 in
set_option maxRecDepth 100000 in
theorem k_Cx_takeBytes0V (l : Launch) (D : va_G) (g : Nat → ClassId) (ad : Nat → Nat) (N0 : Nat) (zG : Nat → Nat × Nat) (zO : Nat → Nat) (zX : Nat → Nat → Int64) (zY : Nat → Nat → Int32) (zA : Nat → Nat → Nat → Int32) (zB : Nat → Int32) (zM : Nat → Nat × Nat) (zI : Nat → Nat → Int32) (zL : Nat → Nat → Int64) (zK : Int32) (zN : Nat) (zF : Int32) (zQ : Int64) (j : Nat) (fr : Int32) (hj : j < 4) : Met l y_Cx_takeBytes ws_Cx_takeBytes0V rm_Cx_takeBytes0V (va_Pc ([.ref (aw_c ad j 0), .ref (aw_r ad 2), .int fr, .int (nI 0)] : List Value) (ag_B D g N0 (az_Sh g ad zG zO zX zY zA zB zM zI zL zK zN zF zQ))) (va_Qi (fun r (_ : Unit) => r = v_Cx_takeBytes0V zY j) (fun (_ : Unit) t => ag_H D N0 (az_Sh g ad zG zO zX (v_Cx_takeBytes0V_zY zY j) zA zB zM zI zL zK zN zF zQ) t.heap) (aw_Z N0)) 0 0 (aw_Z N0) := by
  refine Met.ofW (cc := b_Cx_takeBytes) (maxL := 4) (ret := (some .int)) (by decide) rfl ?_
  intro p e s m args below meth c s₁ B hml hv
  obtain ⟨rfl, ⟨L, hP, hD, hSh⟩, hU⟩ := hv
  have hx := B.exec
  have hb := B.bytes
  have hr := B.returns
  have hG : ∀ w ∈ aw_G, w.before _ s = true := fun w h => atoms_spec (ws := ws_Cx_takeBytes0V) B.pre w (List.mem_cons_of_mem _ h)
  have hown : s.vm.findClass "RuleCiphers$Context" = some m.cls := findClass_of_methodNamed B.named
  have hlocks := B.notSynchronized
  have hE := hU.1
  have hK := hE.1
  have hN := hE.2.1
  have hS : va_S (aw_Z N0) s.heap s.heap [] := va_S.rf
  have hl := lv_entry ([.ref (aw_c ad j 0), .ref (aw_r ad 2), .int fr, .int (nI 0)] : List Value) (n := 4) (Nat.le_of_ble_eq_true rfl)
  rw [lg_entry_eq]
  generalize (lg_sl ([.ref (aw_c ad j 0), .ref (aw_r ad 2), .int fr, .int (nI 0)] : List Value) ++ List.replicate (4 - (lg_sl ([.ref (aw_c ad j 0), .ref (aw_r ad 2), .int fr, .int (nI 0)] : List Value)).length) Slot.unset).toArray = ls at hl ⊢
  have hl : lv_has ls 4 [(0, .ref (aw_c ad j 0)), (1, .ref (aw_r ad 2)), (2, .int fr), (3, .int (nI 0))] := hl
  refine lv_aload_n hx hb d_Cx_takeBytes_0 rfl (lv_at hl 0 rfl) ?_
  obtain ⟨hsd2, he1⟩ := zr_C0 hSh hj
  have hg := hSh.2.2.2.2.1 j hj
  refine va_get (C := R_Cx) (T := T_Cx) (N := 10) (v := .ref (aw_c ad j 15)) hx hb hG in_Cx hown hK hP (3 + 16 * j + 0) he1 rfl 1 (by decide) (hG _ gw_1_55) (fun _ h => h) rfl d_Cx_takeBytes_1 ?_
  clear he1
  refine lv_aload_n hx hb d_Cx_takeBytes_4 rfl (lv_at hl 0 rfl) ?_
  obtain ⟨hsd4, he3⟩ := zr_C0 hSh hj
  have hg := hSh.2.2.2.2.1 j hj
  refine va_get (C := R_Cx) (T := T_Cx) (N := 10) (v := .ref (aw_c ad j (zO j))) hx hb hG in_Cx hown hK hP (3 + 16 * j + 0) he3 rfl 4 (by decide) (hG _ gw_2_0) (fun _ h => h) rfl d_Cx_takeBytes_5 ?_
  clear he3
  refine lv_aload_n hx hb d_Cx_takeBytes_8 rfl (lv_at hl 1 rfl) ?_
  refine lv_iload_n hx hb d_Cx_takeBytes_9 rfl (lv_at hl 2 rfl) ?_
  refine lv_iload_n hx hb d_Cx_takeBytes_10 rfl (lv_at hl 3 rfl) ?_
  have he5 := zr_C15 hSh hj
  refine va_calli (va_runV (As := [.ref (aw_c ad j (zO j)), .ref (aw_r ad 2), .int fr, .int (nI 0)]) (rest := []) ⟨hx, hb, hml, hown, hG⟩ (k_Tk_add0V l D g ad N0 zG zO zX zY zA zB zM zI zL zK zN zF zQ j ((zO j)) fr hj hsd4) (aw_wV 4 hG gw_8_52 gw_8_49 gw_0_9 gw_8_50 gw_8_51 rfl rfl hd_Tk_add ⟨Nat.le_of_ble_eq_true rfl, Nat.le_of_ble_eq_true rfl⟩) (ag_qV (va_recv hK hP rfl he5) hP hD hSh hU hS) rfl rfl hl.1 rfl (lv_room (Nat.le_of_ble_eq_true rfl)) d_Cx_takeBytes_11 ⟨Nat.le_of_ble_eq_true rfl, Nat.le_of_ble_eq_true rfl⟩) hS (fun _ _ h => h) (fun _ h => h) ?_
  clear hP hD hSh hS he5
  intro x6 u8 t8 H locs ht _ ex6 hB _ _ hS
  obtain ⟨L, hP, hD, hSh⟩ := hB
  rw [ht] at hP
  clear ht
  obtain ⟨zY7, ezY7⟩ : ∃ z : Nat → Nat → Int32, v_Tk_add0V_zY zY j = z := ⟨_, rfl⟩
  rw [ezY7] at hSh
  have ex6 := ex6.symm
  have gzY : zY7 = v_Cx_takeBytes0V_zY zY j := by subst ex6 ezY7; rfl
  have hSh : az_Sh g ad zG zO zX (v_Cx_takeBytes0V_zY zY j) zA zB zM zI zL zK zN zF zQ L := by rw [← gzY]; exact hSh
  exact W.iret hx hb hr (fun t ht hW => ⟨⟨_, (), rfl, (by subst ex6 ezY7; rfl), ag_Hr ht hP hD hSh⟩, hS.F ht⟩) hS.2.2 d_Cx_takeBytes_14
noncomputable def v_Cx_takeBytes1V (zO : Nat → Nat) (zX : Nat → Nat → Int64) (zY : Nat → Nat → Int32) (zA : Nat → Nat → Nat → Int32) (zB : Nat → Int32) (j : Nat) (k : Nat) (mm : Nat) : Int32 := v_Tk_add1V zX zY zA zB j (zO j) k mm
noncomputable def v_Cx_takeBytes1V_zX (zO : Nat → Nat) (zX : Nat → Nat → Int64) (zY : Nat → Nat → Int32) (zA : Nat → Nat → Nat → Int32) (zB : Nat → Int32) (j : Nat) (k : Nat) (mm : Nat) : Nat → Nat → Int64 := v_Tk_add1V_zX zX zY zA zB j (zO j) k mm
noncomputable def v_Cx_takeBytes1V_zY (zO : Nat → Nat) (zX : Nat → Nat → Int64) (zY : Nat → Nat → Int32) (zA : Nat → Nat → Nat → Int32) (zB : Nat → Int32) (j : Nat) (k : Nat) (mm : Nat) : Nat → Nat → Int32 := v_Tk_add1V_zY zX zY zA zB j (zO j) k mm
abbrev ws_Cx_takeBytes1V : List Cond := Cond.code y_Cx_takeBytes b_Cx_takeBytes 4 (some .int) :: aw_G
abbrev rm_Cx_takeBytes1V : Room := { frames := 5, cells := 0, slots := 0, locals := 126 }
set_option maxHeartbeats 4000000 in
set_option maxRecDepth 100000 in
theorem k_Cx_takeBytes1V (l : Launch) (D : va_G) (g : Nat → ClassId) (ad : Nat → Nat) (N0 : Nat) (zG : Nat → Nat × Nat) (zO : Nat → Nat) (zX : Nat → Nat → Int64) (zY : Nat → Nat → Int32) (zA : Nat → Nat → Nat → Int32) (zB : Nat → Int32) (zM : Nat → Nat × Nat) (zI : Nat → Nat → Int32) (zL : Nat → Nat → Int64) (zK : Int32) (zN : Nat) (zF : Int32) (zQ : Int64) (j : Nat) (k : Nat) (mm : Nat) (hj : j < 4) (hk : k + mm ≤ 64) : Met l y_Cx_takeBytes ws_Cx_takeBytes1V rm_Cx_takeBytes1V (va_Pc ([.ref (aw_c ad j 0), .ref (aw_r ad 2), .int (nI k), .int (nI mm)] : List Value) (ag_B D g N0 (az_Sh g ad zG zO zX zY zA zB zM zI zL zK zN zF zQ))) (va_Qi (fun r (_ : Unit) => r = v_Cx_takeBytes1V zO zX zY zA zB j k mm) (fun (_ : Unit) t => ag_H D N0 (az_Sh g ad zG zO (v_Cx_takeBytes1V_zX zO zX zY zA zB j k mm) (v_Cx_takeBytes1V_zY zO zX zY zA zB j k mm) zA zB zM zI zL zK zN zF zQ) t.heap) (aw_Z N0)) 0 0 (aw_Z N0) := by
  refine Met.ofW (cc := b_Cx_takeBytes) (maxL := 4) (ret := (some .int)) (by decide) rfl ?_
  intro p e s m args below meth c s₁ B hml hv
  obtain ⟨rfl, ⟨L, hP, hD, hSh⟩, hU⟩ := hv
  have hx := B.exec
  have hb := B.bytes
  have hr := B.returns
  have hG : ∀ w ∈ aw_G, w.before _ s = true := fun w h => atoms_spec (ws := ws_Cx_takeBytes1V) B.pre w (List.mem_cons_of_mem _ h)
  have hown : s.vm.findClass "RuleCiphers$Context" = some m.cls := findClass_of_methodNamed B.named
  have hlocks := B.notSynchronized
  have hE := hU.1
  have hK := hE.1
  have hN := hE.2.1
  have hS : va_S (aw_Z N0) s.heap s.heap [] := va_S.rf
  have hl := lv_entry ([.ref (aw_c ad j 0), .ref (aw_r ad 2), .int (nI k), .int (nI mm)] : List Value) (n := 4) (Nat.le_of_ble_eq_true rfl)
  rw [lg_entry_eq]
  generalize (lg_sl ([.ref (aw_c ad j 0), .ref (aw_r ad 2), .int (nI k), .int (nI mm)] : List Value) ++ List.replicate (4 - (lg_sl ([.ref (aw_c ad j 0), .ref (aw_r ad 2), .int (nI k), .int (nI mm)] : List Value)).length) Slot.unset).toArray = ls at hl ⊢
  have hl : lv_has ls 4 [(0, .ref (aw_c ad j 0)), (1, .ref (aw_r ad 2)), (2, .int (nI k)), (3, .int (nI mm))] := hl
  refine lv_aload_n hx hb d_Cx_takeBytes_0 rfl (lv_at hl 0 rfl) ?_
  obtain ⟨hsd2, he1⟩ := zr_C0 hSh hj
  have hg := hSh.2.2.2.2.1 j hj
  refine va_get (C := R_Cx) (T := T_Cx) (N := 10) (v := .ref (aw_c ad j 15)) hx hb hG in_Cx hown hK hP (3 + 16 * j + 0) he1 rfl 1 (by decide) (hG _ gw_1_55) (fun _ h => h) rfl d_Cx_takeBytes_1 ?_
  clear he1
  refine lv_aload_n hx hb d_Cx_takeBytes_4 rfl (lv_at hl 0 rfl) ?_
  obtain ⟨hsd4, he3⟩ := zr_C0 hSh hj
  have hg := hSh.2.2.2.2.1 j hj
  refine va_get (C := R_Cx) (T := T_Cx) (N := 10) (v := .ref (aw_c ad j (zO j))) hx hb hG in_Cx hown hK hP (3 + 16 * j + 0) he3 rfl 4 (by decide) (hG _ gw_2_0) (fun _ h => h) rfl d_Cx_takeBytes_5 ?_
  clear he3
  refine lv_aload_n hx hb d_Cx_takeBytes_8 rfl (lv_at hl 1 rfl) ?_
  refine lv_iload_n hx hb d_Cx_takeBytes_9 rfl (lv_at hl 2 rfl) ?_
  refine lv_iload_n hx hb d_Cx_takeBytes_10 rfl (lv_at hl 3 rfl) ?_
  have he5 := zr_C15 hSh hj
  refine va_calli (va_runV (As := [.ref (aw_c ad j (zO j)), .ref (aw_r ad 2), .int (nI k), .int (nI mm)]) (rest := []) ⟨hx, hb, hml, hown, hG⟩ (k_Tk_add1V l D g ad N0 zG zO zX zY zA zB zM zI zL zK zN zF zQ j ((zO j)) k mm hj hsd4 hk) (aw_wV 4 hG gw_8_52 gw_8_49 gw_0_9 gw_8_50 gw_8_51 rfl rfl hd_Tk_add ⟨Nat.le_of_ble_eq_true rfl, Nat.le_of_ble_eq_true rfl⟩) (ag_qV (va_recv hK hP rfl he5) hP hD hSh hU hS) rfl rfl hl.1 rfl (lv_room (Nat.le_of_ble_eq_true rfl)) d_Cx_takeBytes_11 ⟨Nat.le_of_ble_eq_true rfl, Nat.le_of_ble_eq_true rfl⟩) hS (fun _ _ h => h) (fun _ h => h) ?_
  clear hP hD hSh hS he5
  intro x6 u8 t8 H locs ht _ ex6 hB _ _ hS
  obtain ⟨L, hP, hD, hSh⟩ := hB
  rw [ht] at hP
  clear ht
  obtain ⟨zX7, ezX7⟩ : ∃ z : Nat → Nat → Int64, v_Tk_add1V_zX zX zY zA zB j (zO j) k mm = z := ⟨_, rfl⟩
  rw [ezX7] at hSh
  obtain ⟨zY8, ezY8⟩ : ∃ z : Nat → Nat → Int32, v_Tk_add1V_zY zX zY zA zB j (zO j) k mm = z := ⟨_, rfl⟩
  rw [ezY8] at hSh
  have ex6 := ex6.symm
  have gzX : zX7 = v_Cx_takeBytes1V_zX zO zX zY zA zB j k mm := by subst ex6 ezY8 ezX7; rfl
  have gzY : zY8 = v_Cx_takeBytes1V_zY zO zX zY zA zB j k mm := by subst ex6 ezY8 ezX7; rfl
  have hSh : az_Sh g ad zG zO (v_Cx_takeBytes1V_zX zO zX zY zA zB j k mm) (v_Cx_takeBytes1V_zY zO zX zY zA zB j k mm) zA zB zM zI zL zK zN zF zQ L := by rw [← gzX, ← gzY]; exact hSh
  exact W.iret hx hb hr (fun t ht hW => ⟨⟨_, (), rfl, (by subst ex6 ezY8 ezX7; rfl), ag_Hr ht hP hD hSh⟩, hS.F ht⟩) hS.2.2 d_Cx_takeBytes_14
noncomputable def v_Cx_tellTagV (zO : Nat → Nat) (zX : Nat → Nat → Int64) (zY : Nat → Nat → Int32) (zA : Nat → Nat → Nat → Int32) (j : Nat) : Int64 := v_Tk_tagByV zX zY zA j (zO j)
noncomputable def v_Cx_tellTagV_zX (zO : Nat → Nat) (zX : Nat → Nat → Int64) (zY : Nat → Nat → Int32) (zA : Nat → Nat → Nat → Int32) (j : Nat) : Nat → Nat → Int64 := v_Tk_clearV_zX zX zY j
noncomputable def v_Cx_tellTagV_zY (zO : Nat → Nat) (zX : Nat → Nat → Int64) (zY : Nat → Nat → Int32) (zA : Nat → Nat → Nat → Int32) (j : Nat) : Nat → Nat → Int32 := v_Tk_clearV_zY zX zY j
abbrev ws_Cx_tellTagV : List Cond := Cond.code y_Cx_tellTag b_Cx_tellTag 3 (some .long) :: aw_G
abbrev rm_Cx_tellTagV : Room := { frames := 4, cells := 0, slots := 0, locals := 104 }
set_option maxHeartbeats 4000000 in
set_option maxRecDepth 100000 in
theorem k_Cx_tellTagV (l : Launch) (D : va_G) (g : Nat → ClassId) (ad : Nat → Nat) (N0 : Nat) (zG : Nat → Nat × Nat) (zO : Nat → Nat) (zX : Nat → Nat → Int64) (zY : Nat → Nat → Int32) (zA : Nat → Nat → Nat → Int32) (zB : Nat → Int32) (zM : Nat → Nat × Nat) (zI : Nat → Nat → Int32) (zL : Nat → Nat → Int64) (zK : Int32) (zN : Nat) (zF : Int32) (zQ : Int64) (j : Nat) (hj : j < 4) : Met l y_Cx_tellTag ws_Cx_tellTagV rm_Cx_tellTagV (va_Pc ([.ref (aw_c ad j 0)] : List Value) (ag_B D g N0 (az_Sh g ad zG zO zX zY zA zB zM zI zL zK zN zF zQ))) (va_Ql (fun r (_ : Unit) => r = v_Cx_tellTagV zO zX zY zA j) (fun (_ : Unit) t => ag_H D N0 (az_Sh g ad zG zO (v_Cx_tellTagV_zX zO zX zY zA j) (v_Cx_tellTagV_zY zO zX zY zA j) zA zB zM zI zL zK zN zF zQ) t.heap) (aw_Z N0)) 0 0 (aw_Z N0) := by
  refine Met.ofW (cc := b_Cx_tellTag) (maxL := 3) (ret := (some .long)) (by decide) rfl ?_
  intro p e s m args below meth c s₁ B hml hv
  obtain ⟨rfl, ⟨L, hP, hD, hSh⟩, hU⟩ := hv
  have hx := B.exec
  have hb := B.bytes
  have hr := B.returns
  have hG : ∀ w ∈ aw_G, w.before _ s = true := fun w h => atoms_spec (ws := ws_Cx_tellTagV) B.pre w (List.mem_cons_of_mem _ h)
  have hown : s.vm.findClass "RuleCiphers$Context" = some m.cls := findClass_of_methodNamed B.named
  have hlocks := B.notSynchronized
  have hE := hU.1
  have hK := hE.1
  have hN := hE.2.1
  have hS : va_S (aw_Z N0) s.heap s.heap [] := va_S.rf
  have hl := lv_entry ([.ref (aw_c ad j 0)] : List Value) (n := 3) (Nat.le_of_ble_eq_true rfl)
  rw [lg_entry_eq]
  generalize (lg_sl ([.ref (aw_c ad j 0)] : List Value) ++ List.replicate (3 - (lg_sl ([.ref (aw_c ad j 0)] : List Value)).length) Slot.unset).toArray = ls at hl ⊢
  have hl : lv_has ls 3 [(0, .ref (aw_c ad j 0))] := hl
  refine lv_aload_n hx hb d_Cx_tellTag_0 rfl (lv_at hl 0 rfl) ?_
  obtain ⟨hsd2, he1⟩ := zr_C0 hSh hj
  have hg := hSh.2.2.2.2.1 j hj
  refine va_get (C := R_Cx) (T := T_Cx) (N := 10) (v := .ref (aw_c ad j 15)) hx hb hG in_Cx hown hK hP (3 + 16 * j + 0) he1 rfl 1 (by decide) (hG _ gw_1_55) (fun _ h => h) rfl d_Cx_tellTag_1 ?_
  clear he1
  refine lv_aload_n hx hb d_Cx_tellTag_4 rfl (lv_at hl 0 rfl) ?_
  obtain ⟨hsd4, he3⟩ := zr_C0 hSh hj
  have hg := hSh.2.2.2.2.1 j hj
  refine va_get (C := R_Cx) (T := T_Cx) (N := 10) (v := .ref (aw_c ad j (zO j))) hx hb hG in_Cx hown hK hP (3 + 16 * j + 0) he3 rfl 4 (by decide) (hG _ gw_2_0) (fun _ h => h) rfl d_Cx_tellTag_5 ?_
  clear he3
  have he5 := zr_C15 hSh hj
  refine va_calll (va_runV (As := [.ref (aw_c ad j (zO j))]) (rest := []) ⟨hx, hb, hml, hown, hG⟩ (k_Tk_tagByV l D g ad N0 zG zO zX zY zA zB zM zI zL zK zN zF zQ j ((zO j)) hj hsd4) (aw_wV 1 hG gw_9_14 gw_9_11 gw_0_9 gw_9_12 gw_9_13 rfl rfl hd_Tk_tagBy ⟨Nat.le_of_ble_eq_true rfl, Nat.le_of_ble_eq_true rfl⟩) (ag_qV (va_recv hK hP rfl he5) hP hD hSh hU hS) rfl rfl hl.1 rfl (lv_room (Nat.le_of_ble_eq_true rfl)) d_Cx_tellTag_8 ⟨Nat.le_of_ble_eq_true rfl, Nat.le_of_ble_eq_true rfl⟩) hS (fun _ _ h => h) (fun _ h => h) ?_
  clear hP hD hSh hS he5
  intro y6 u8 t8 H locs ht _ ey6 hB _ _ hS
  obtain ⟨L, hP, hD, hSh⟩ := hB
  rw [ht] at hP
  clear ht
  have ey6 := ey6.symm
  refine lv_lstore_n hx hb d_Cx_tellTag_11 rfl hl (by decide) rfl (fun ls hl => ?_)
  have hl : lv_has ls 3 [(1, .long y6), (0, .ref (aw_c ad j 0))] := hl
  refine lv_aload_n hx hb d_Cx_tellTag_12 rfl (lv_at hl 1 rfl) ?_
  obtain ⟨hsd8, he7⟩ := zr_C0 hSh hj
  have hg := hSh.2.2.2.2.1 j hj
  refine va_get (C := R_Cx) (T := T_Cx) (N := 10) (v := .ref (aw_c ad j 15)) hx hb hG in_Cx hown hK hP (3 + 16 * j + 0) he7 rfl 1 (by decide) (hG _ gw_1_55) (fun _ h => h) rfl d_Cx_tellTag_13 ?_
  clear he7
  have he9 := zr_C15 hSh hj
  refine va_callv (va_runV (As := []) (rest := []) ⟨hx, hb, hml, hown, hG⟩ (k_Tk_clearV l D g ad N0 zG zO zX zY zA zB zM zI zL zK zN zF zQ j hj) (aw_wV 0 hG gw_5_38 gw_5_35 gw_0_9 gw_5_36 gw_5_37 rfl rfl hd_Tk_clear ⟨Nat.le_of_ble_eq_true rfl, Nat.le_of_ble_eq_true rfl⟩) (ag_qV (va_recv hK hP rfl he9) hP hD hSh hU hS) rfl rfl hl.1 rfl (lv_room (Nat.le_of_ble_eq_true rfl)) d_Cx_tellTag_16 ⟨Nat.le_of_ble_eq_true rfl, Nat.le_of_ble_eq_true rfl⟩) hS (fun _ _ h => h) (fun _ h => h) ?_
  clear hP hD hSh hS he9
  intro u8 t8 H locs ht _ _ hB _ _ hS
  obtain ⟨L, hP, hD, hSh⟩ := hB
  rw [ht] at hP
  clear ht
  obtain ⟨zX10, ezX10⟩ : ∃ z : Nat → Nat → Int64, v_Tk_clearV_zX zX zY j = z := ⟨_, rfl⟩
  rw [ezX10] at hSh
  obtain ⟨zY11, ezY11⟩ : ∃ z : Nat → Nat → Int32, v_Tk_clearV_zY zX zY j = z := ⟨_, rfl⟩
  rw [ezY11] at hSh
  refine lv_lload_n hx hb d_Cx_tellTag_19 rfl (lv_at hl 0 rfl) ?_
  have gzX : zX10 = v_Cx_tellTagV_zX zO zX zY zA j := by subst ezY11 ezX10 ey6; rfl
  have gzY : zY11 = v_Cx_tellTagV_zY zO zX zY zA j := by subst ezY11 ezX10 ey6; rfl
  have hSh : az_Sh g ad zG zO (v_Cx_tellTagV_zX zO zX zY zA j) (v_Cx_tellTagV_zY zO zX zY zA j) zA zB zM zI zL zK zN zF zQ L := by rw [← gzX, ← gzY]; exact hSh
  exact W.lret hx hb hr (fun t ht hW => ⟨⟨_, (), rfl, (by subst ezY11 ezX10 ey6; rfl), ag_Hr ht hP hD hSh⟩, hS.F ht⟩) hS.2.2 d_Cx_tellTag_20
