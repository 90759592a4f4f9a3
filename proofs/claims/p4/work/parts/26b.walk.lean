noncomputable def v_Ru_choose1V_zG (zG : Nat → Nat × Nat) (zO : Nat → Nat) (j : Nat) (k : Nat) : Nat → Nat × Nat := v_Cx_chooseCipherV_zG zG zO j k
noncomputable def v_Ru_choose1V_zO (zG : Nat → Nat × Nat) (zO : Nat → Nat) (j : Nat) (k : Nat) : Nat → Nat := v_Cx_chooseCipherV_zO zG zO j k
abbrev ws_Ru_choose1V : List Cond := Cond.code y_Ru_choose b_Ru_choose 4 none :: aw_G
abbrev rm_Ru_choose1V : Room := { frames := 1, cells := 0, slots := 0, locals := 21 }
set_option maxHeartbeats 4000000 in
set_option maxRecDepth 100000 in
theorem k_Ru_choose1V (l : Launch) (D : va_G) (g : Nat → ClassId) (ad : Nat → Nat) (N0 : Nat) (zG : Nat → Nat × Nat) (zO : Nat → Nat) (zX : Nat → Nat → Int64) (zY : Nat → Nat → Int32) (zA : Nat → Nat → Nat → Int32) (zB : Nat → Int32) (zM : Nat → Nat × Nat) (zI : Nat → Nat → Int32) (zL : Nat → Nat → Int64) (zK : Int32) (zN : Nat) (zF : Int32) (zQ : Int64) (j : Nat) (k : Nat) (hj : j < 4) (hk : k < 5) (hs : (zG j).1 = 0) : Met l y_Ru_choose ws_Ru_choose1V rm_Ru_choose1V (va_Pc ([.ref (aw_r ad 0), .int (nI j), .int (nI k)] : List Value) (ag_B D g N0 (az_Sh g ad zG zO zX zY zA zB zM zI zL zK zN zF zQ))) (va_Qv (fun (_ : Unit) => True) (fun (_ : Unit) t => ag_H D N0 (az_Sh g ad (v_Ru_choose1V_zG zG zO j k) (v_Ru_choose1V_zO zG zO j k) zX zY zA zB zM zI zL zK zN zF zQ) t.heap) (aw_Z N0)) 0 0 (aw_Z N0) := by
  refine Met.ofW (cc := b_Ru_choose) (maxL := 4) (ret := none) (by decide) rfl ?_
  intro p e s m args below meth c s₁ B hml hv
  obtain ⟨rfl, ⟨L, hP, hD, hSh⟩, hU⟩ := hv
  have hx := B.exec
  have hb := B.bytes
  have hr := B.returns
  have hG : ∀ w ∈ aw_G, w.before _ s = true := fun w h => atoms_spec (ws := ws_Ru_choose1V) B.pre w (List.mem_cons_of_mem _ h)
  have hown : s.vm.findClass "RuleCiphers" = some m.cls := findClass_of_methodNamed B.named
  have hlocks := B.notSynchronized
  have hE := hU.1
  have hK := hE.1
  have hN := hE.2.1
  have hS : va_S (aw_Z N0) s.heap s.heap [] := va_S.rf
  have hl := lv_entry ([.ref (aw_r ad 0), .int (nI j), .int (nI k)] : List Value) (n := 4) (Nat.le_of_ble_eq_true rfl)
  rw [lg_entry_eq]
  generalize (lg_sl ([.ref (aw_r ad 0), .int (nI j), .int (nI k)] : List Value) ++ List.replicate (4 - (lg_sl ([.ref (aw_r ad 0), .int (nI j), .int (nI k)] : List Value)).length) Slot.unset).toArray = ls at hl ⊢
  have hl : lv_has ls 4 [(0, .ref (aw_r ad 0)), (1, .int (nI j)), (2, .int (nI k))] := hl
  refine lv_aload_n hx hb d_Ru_choose_0 rfl (lv_at hl 0 rfl) ?_
  refine lv_iload_n hx hb d_Ru_choose_1 rfl (lv_at hl 1 rfl) ?_
  have he1 := zr_R0 hSh
  refine va_callr (va_runV (As := [.int (nI j)]) (rest := []) ⟨hx, hb, hml, hown, hG⟩ (k_Ru_contextAt1V l D g ad N0 zG zO zX zY zA zB zM zI zL zK zN zF zQ j hj) (aw_wV 1 hG gw_2_47 gw_2_45 gw_0_1 gw_2_46 gw_p_0 rfl rfl hd_Ru_contextAt ⟨Nat.le_of_ble_eq_true rfl, Nat.le_of_ble_eq_true rfl⟩) (ag_qV (va_recv hK hP rfl he1) hP hD hSh hU hS) rfl rfl hl.1 rfl (lv_room (Nat.le_of_ble_eq_true rfl)) d_Ru_choose_2 ⟨Nat.le_of_ble_eq_true rfl, Nat.le_of_ble_eq_true rfl⟩) hS (fun _ _ h => h) (fun _ h => h) ?_
  clear hP hD hSh hS he1
  intro u8 q2 t8 H locs ht _ _ hB _ _ hS
  obtain ⟨eq2, hB⟩ := hB
  obtain ⟨L, hP, hD, hSh⟩ := hB
  rw [ht] at hP
  clear ht
  subst eq2
  refine lv_astore_n hx hb d_Ru_choose_5 rfl hl (by decide) rfl (fun ls hl => ?_)
  have hl : lv_has ls 4 [(3, .ref (aw_c ad j 0)), (0, .ref (aw_r ad 0)), (1, .int (nI j)), (2, .int (nI k))] := hl
  refine lv_iload_n hx hb d_Ru_choose_6 rfl (lv_at hl 3 rfl) ?_
  refine lv_if_lt (tgt := 15) hx hb d_Ru_choose_7 (by decide) (fun h => absurd h (show ¬ nI k < nI 0 from fun h9 => absurd ((nI_ltI (by omega) (by omega)).mp h9) (by omega))) (fun _ => ?_)
  refine lv_iload_n hx hb d_Ru_choose_10 rfl (lv_at hl 3 rfl) ?_
  refine lv_iconst (v := nI 5) hx hb d_Ru_choose_11 (by decide +kernel) ?_
  refine lv_icmp_lt (tgt := 25) hx hb d_Ru_choose_12 (by decide) (fun _ => ?_) (fun h => absurd (show nI k < nI 5 from (nI_ltI (by omega) (by omega)).mpr (by omega)) h)
  refine lv_aload_n hx hb d_Ru_choose_25 rfl (lv_at hl 0 rfl) ?_
  obtain ⟨hsd4, he3⟩ := zr_C0 hSh hj
  have hg := hSh.2.2.2.2.1 j hj
  refine va_get (C := R_Cx) (T := T_Cx) (N := 10) (v := .int (nI ((zG j).1))) hx hb hG in_Cx hown hK hP (3 + 16 * j + 0) he3 rfl 2 (by decide) (hG _ gw_1_57) (fun _ h => h) rfl d_Ru_choose_26 ?_
  clear he3
  refine lv_if_eq (tgt := 42) hx hb d_Ru_choose_29 (by decide) (fun _ => ?_) (fun h => absurd (show nI ((zG j).1) = nI 0 from (nI_eq (by omega) (by omega)).mpr (by omega)) h)
  refine lv_aload_n hx hb d_Ru_choose_42 rfl (lv_at hl 0 rfl) ?_
  refine lv_iload_n hx hb d_Ru_choose_43 rfl (lv_at hl 3 rfl) ?_
  obtain ⟨_, he5⟩ := zr_C0 hSh hj
  refine va_callv (va_runV (As := [.int (nI k)]) (rest := []) ⟨hx, hb, hml, hown, hG⟩ (k_Cx_chooseCipherV l D g ad N0 zG zO zX zY zA zB zM zI zL zK zN zF zQ j k hj hk) (aw_wV 1 hG gw_4_16 gw_4_13 gw_0_2 gw_4_14 gw_4_15 rfl rfl hd_Cx_chooseCipher ⟨Nat.le_of_ble_eq_true rfl, Nat.le_of_ble_eq_true rfl⟩) (ag_qV (va_recv hK hP rfl he5) hP hD hSh hU hS) rfl rfl hl.1 rfl (lv_room (Nat.le_of_ble_eq_true rfl)) d_Ru_choose_44 ⟨Nat.le_of_ble_eq_true rfl, Nat.le_of_ble_eq_true rfl⟩) hS (fun _ _ h => h) (fun _ h => h) ?_
  clear hP hD hSh hS he5
  intro u8 t8 H locs ht _ _ hB _ _ hS
  obtain ⟨L, hP, hD, hSh⟩ := hB
  rw [ht] at hP
  clear ht
  obtain ⟨zG6, ezG6⟩ : ∃ z : Nat → Nat × Nat, v_Cx_chooseCipherV_zG zG zO j k = z := ⟨_, rfl⟩
  rw [ezG6] at hSh
  obtain ⟨zO7, ezO7⟩ : ∃ z : Nat → Nat, v_Cx_chooseCipherV_zO zG zO j k = z := ⟨_, rfl⟩
  rw [ezO7] at hSh
  have gzG : zG6 = v_Ru_choose1V_zG zG zO j k := by subst ezO7 ezG6; rfl
  have gzO : zO7 = v_Ru_choose1V_zO zG zO j k := by subst ezO7 ezG6; rfl
  have hSh : az_Sh g ad (v_Ru_choose1V_zG zG zO j k) (v_Ru_choose1V_zO zG zO j k) zX zY zA zB zM zI zL zK zN zF zQ L := by rw [← gzG, ← gzO]; exact hSh
  exact W.vret hx hb hr (fun t ht hW => ⟨⟨(), rfl, trivial, ag_Hr ht hP hD hSh⟩, hS.F ht⟩) hS.2.2 d_Ru_choose_47
abbrev ws_Ru_chooseXcV : List Cond := Cond.code y_Ru_choose b_Ru_choose 4 none :: aw_G
abbrev rm_Ru_chooseXcV : Room := { frames := 7, cells := 1, slots := 6, locals := 111 }
set_option maxHeartbeats 4000000 in
set_option maxRecDepth 100000 in
theorem k_Ru_chooseXcV (l : Launch) (hst : l.stackTraces = false) (D : va_G) (g : Nat → ClassId) (ad : Nat → Nat) (N0 : Nat) (zG : Nat → Nat × Nat) (zO : Nat → Nat) (zX : Nat → Nat → Int64) (zY : Nat → Nat → Int32) (zA : Nat → Nat → Nat → Int32) (zB : Nat → Int32) (zM : Nat → Nat × Nat) (zI : Nat → Nat → Int32) (zL : Nat → Nat → Int64) (zK : Int32) (zN : Nat) (zF : Int32) (zQ : Int64) (c0 : Int32) (k0 : Int32) (hc : c0 < 0 ∨ (¬ c0 < 0 ∧ ¬ c0 < nI 4)) : vx_Met l y_Ru_choose ws_Ru_chooseXcV rm_Ru_chooseXcV (va_Pc ([.ref (aw_r ad 0), .int c0, .int k0] : List Value) (ag_B D g N0 (az_Sh g ad zG zO zX zY zA zB zM zI zL zK zN zF zQ))) (va_Qv (fun (_ : Unit) => False) (fun (_ : Unit) _ => True) (aw_Z N0)) (vx_X (fun (_ : Unit) => True) (fun E (_ : Unit) t => E = "java/lang/IndexOutOfBoundsException" ∧ ag_H D N0 (az_Sh g ad zG zO zX zY zA zB zM zI zL zK zN zF zQ) t.heap) (aw_Z N0)) 1 6 (aw_Z N0) := by
  refine vx_ofW (cc := b_Ru_choose) (maxL := 4) (ret := none) (by decide) rfl ?_
  intro p e s m args below meth c s₁ B hml hex hv
  obtain ⟨rfl, ⟨L, hP, hD, hSh⟩, hU⟩ := hv
  have hx := B.exec
  have hb := B.bytes
  have hr := B.returns
  have hG : ∀ w ∈ aw_G, w.before _ s = true := fun w h => atoms_spec (ws := ws_Ru_chooseXcV) B.pre w (List.mem_cons_of_mem _ h)
  have hown : s.vm.findClass "RuleCiphers" = some m.cls := findClass_of_methodNamed B.named
  have hlocks := B.notSynchronized
  have hE := hU.1
  have hK := hE.1
  have hN := hE.2.1
  have hS : va_S (aw_Z N0) s.heap s.heap [] := va_S.rf
  have hl := lv_entry ([.ref (aw_r ad 0), .int c0, .int k0] : List Value) (n := 4) (Nat.le_of_ble_eq_true rfl)
  rw [lg_entry_eq]
  generalize (lg_sl ([.ref (aw_r ad 0), .int c0, .int k0] : List Value) ++ List.replicate (4 - (lg_sl ([.ref (aw_r ad 0), .int c0, .int k0] : List Value)).length) Slot.unset).toArray = ls at hl ⊢
  have hl : lv_has ls 4 [(0, .ref (aw_r ad 0)), (1, .int c0), (2, .int k0)] := hl
  refine lv_aload_n hx hb d_Ru_choose_0 rfl (lv_at hl 0 rfl) ?_
  refine lv_iload_n hx hb d_Ru_choose_1 rfl (lv_at hl 1 rfl) ?_
  have he1 := zr_R0 hSh
  refine vx_callv (vx_runV (As := [.int c0]) (rest := []) ⟨hx, hb, hml, hown, hG⟩ (k_Ru_contextAtXV l hst D g ad N0 zG zO zX zY zA zB zM zI zL zK zN zF zQ c0 hc) (aw_wV 1 hG gw_2_47 gw_2_45 gw_0_1 gw_2_46 gw_p_0 rfl rfl hd_Ru_contextAt ⟨Nat.le_of_ble_eq_true rfl, Nat.le_of_ble_eq_true rfl⟩) (ag_qV (va_recv hK hP rfl he1) hP hD hSh hU hS) rfl rfl hl.1 rfl (lv_room (Nat.le_of_ble_eq_true rfl)) d_Ru_choose_2 ⟨Nat.le_of_ble_eq_true rfl, Nat.le_of_ble_eq_true rfl⟩) hS (fun _ _ h => h) (fun _ h => h) (fun _ _ h => h) (fun E ce q9 u t H locs ht _ _ hBX _ _ hS hce hcv hcl => ?_) (fun u t H locs _ _ hF _ _ _ _ => hF.elim)
  obtain ⟨rfl, L, hP, hD, hSh⟩ := hBX
  rw [ht] at hP
  exact vx_out (fun x h => (hex x h).elim) hlocks hce hcv hcl (fun t9 ht9 _ => ⟨(), trivial, ⟨rfl, ag_Hr ht9 hP hD hSh⟩, hS.F ht9⟩) hS.2.2 (Nat.le_of_ble_eq_true rfl) (Nat.le_of_ble_eq_true rfl)
abbrev ws_Ru_chooseXaV : List Cond := Cond.code y_Ru_choose b_Ru_choose 4 none :: aw_G
abbrev rm_Ru_chooseXaV : Room := { frames := 6, cells := 1, slots := 6, locals := 90 }
set_option maxHeartbeats 4000000 in
set_option maxRecDepth 100000 in
theorem k_Ru_chooseXaV (l : Launch) (hst : l.stackTraces = false) (D : va_G) (g : Nat → ClassId) (ad : Nat → Nat) (N0 : Nat) (zG : Nat → Nat × Nat) (zO : Nat → Nat) (zX : Nat → Nat → Int64) (zY : Nat → Nat → Int32) (zA : Nat → Nat → Nat → Int32) (zB : Nat → Int32) (zM : Nat → Nat × Nat) (zI : Nat → Nat → Int32) (zL : Nat → Nat → Int64) (zK : Int32) (zN : Nat) (zF : Int32) (zQ : Int64) (j : Nat) (k0 : Int32) (hj : j < 4) (hk : k0 < 0 ∨ (¬ k0 < 0 ∧ ¬ k0 < nI 5)) : vx_Met l y_Ru_choose ws_Ru_chooseXaV rm_Ru_chooseXaV (va_Pc ([.ref (aw_r ad 0), .int (nI j), .int k0] : List Value) (ag_B D g N0 (az_Sh g ad zG zO zX zY zA zB zM zI zL zK zN zF zQ))) (va_Qv (fun (_ : Unit) => False) (fun (_ : Unit) _ => True) (aw_Z N0)) (vx_X (fun (_ : Unit) => True) (fun E (_ : Unit) t => E = "java/lang/IllegalArgumentException" ∧ ag_H D N0 (az_Sh g ad zG zO zX zY zA zB zM zI zL zK zN zF zQ) t.heap) (aw_Z N0)) 1 6 (aw_Z N0) := by
  refine vx_ofW (cc := b_Ru_choose) (maxL := 4) (ret := none) (by decide) rfl ?_
  intro p e s m args below meth c s₁ B hml hex hv
  obtain ⟨rfl, ⟨L, hP, hD, hSh⟩, hU⟩ := hv
  have hx := B.exec
  have hb := B.bytes
  have hr := B.returns
  have hG : ∀ w ∈ aw_G, w.before _ s = true := fun w h => atoms_spec (ws := ws_Ru_chooseXaV) B.pre w (List.mem_cons_of_mem _ h)
  have hown : s.vm.findClass "RuleCiphers" = some m.cls := findClass_of_methodNamed B.named
  have hlocks := B.notSynchronized
  have hE := hU.1
  have hK := hE.1
  have hN := hE.2.1
  have hS : va_S (aw_Z N0) s.heap s.heap [] := va_S.rf
  have hl := lv_entry ([.ref (aw_r ad 0), .int (nI j), .int k0] : List Value) (n := 4) (Nat.le_of_ble_eq_true rfl)
  rw [lg_entry_eq]
  generalize (lg_sl ([.ref (aw_r ad 0), .int (nI j), .int k0] : List Value) ++ List.replicate (4 - (lg_sl ([.ref (aw_r ad 0), .int (nI j), .int k0] : List Value)).length) Slot.unset).toArray = ls at hl ⊢
  have hl : lv_has ls 4 [(0, .ref (aw_r ad 0)), (1, .int (nI j)), (2, .int k0)] := hl
  rcases hk with hk | hk
  · refine lv_aload_n hx hb d_Ru_choose_0 rfl (lv_at hl 0 rfl) ?_
    refine lv_iload_n hx hb d_Ru_choose_1 rfl (lv_at hl 1 rfl) ?_
    have he1 := zr_R0 hSh
    refine va_callr (va_runV (As := [.int (nI j)]) (rest := []) ⟨hx, hb, hml, hown, hG⟩ (k_Ru_contextAt1V l D g ad N0 zG zO zX zY zA zB zM zI zL zK zN zF zQ j hj) (aw_wV 1 hG gw_2_47 gw_2_45 gw_0_1 gw_2_46 gw_p_0 rfl rfl hd_Ru_contextAt ⟨Nat.le_of_ble_eq_true rfl, Nat.le_of_ble_eq_true rfl⟩) (ag_qV (va_recv hK hP rfl he1) hP hD hSh hU hS) rfl rfl hl.1 rfl (lv_room (Nat.le_of_ble_eq_true rfl)) d_Ru_choose_2 ⟨Nat.le_of_ble_eq_true rfl, Nat.le_of_ble_eq_true rfl⟩) hS (fun _ _ h => h) (fun _ h => h) ?_
    clear hP hD hSh hS he1
    intro u8 q2 t8 H locs ht _ _ hB _ _ hS
    obtain ⟨eq2, hB⟩ := hB
    obtain ⟨L, hP, hD, hSh⟩ := hB
    rw [ht] at hP
    clear ht
    subst eq2
    refine lv_astore_n hx hb d_Ru_choose_5 rfl hl (by decide) rfl (fun ls hl => ?_)
    have hl : lv_has ls 4 [(3, .ref (aw_c ad j 0)), (0, .ref (aw_r ad 0)), (1, .int (nI j)), (2, .int k0)] := hl
    refine lv_iload_n hx hb d_Ru_choose_6 rfl (lv_at hl 3 rfl) ?_
    refine lv_if_lt (tgt := 15) hx hb d_Ru_choose_7 (by decide) (fun _ => ?_) (fun h => absurd hk h)
    obtain ⟨sa3, hsa3⟩ := hU.2.1.2.2 (26, "there is no such cipher") (by decide)
    exact ag_thr hx hb hst (names := ["java/lang/RuntimeException", "java/lang/Exception"]) hown (by decide +kernel) (by decide +kernel) (hG _ gw_3_45) (hG _ gw_0_15) hsa3 (aw_hat_Ru_28 hG hE) (by decide +kernel) hU hP hD hSh hS (by rw [hml]; exact hl.1) d_Ru_choose_15 d_Ru_choose_18 d_Ru_choose_19 d_Ru_choose_21 d_Ru_choose_24 (fun x h => (hex x h).elim) (by decide) (Nat.le_of_ble_eq_true rfl) (Nat.le_of_ble_eq_true rfl) (Nat.le_of_ble_eq_true rfl) hlocks (Nat.le_of_ble_eq_true rfl) (Nat.le_of_ble_eq_true rfl)
  · refine lv_aload_n hx hb d_Ru_choose_0 rfl (lv_at hl 0 rfl) ?_
    refine lv_iload_n hx hb d_Ru_choose_1 rfl (lv_at hl 1 rfl) ?_
    have he4 := zr_R0 hSh
    refine va_callr (va_runV (As := [.int (nI j)]) (rest := []) ⟨hx, hb, hml, hown, hG⟩ (k_Ru_contextAt1V l D g ad N0 zG zO zX zY zA zB zM zI zL zK zN zF zQ j hj) (aw_wV 1 hG gw_2_47 gw_2_45 gw_0_1 gw_2_46 gw_p_0 rfl rfl hd_Ru_contextAt ⟨Nat.le_of_ble_eq_true rfl, Nat.le_of_ble_eq_true rfl⟩) (ag_qV (va_recv hK hP rfl he4) hP hD hSh hU hS) rfl rfl hl.1 rfl (lv_room (Nat.le_of_ble_eq_true rfl)) d_Ru_choose_2 ⟨Nat.le_of_ble_eq_true rfl, Nat.le_of_ble_eq_true rfl⟩) hS (fun _ _ h => h) (fun _ h => h) ?_
    clear hP hD hSh hS he4
    intro u8 q5 t8 H locs ht _ _ hB _ _ hS
    obtain ⟨eq5, hB⟩ := hB
    obtain ⟨L, hP, hD, hSh⟩ := hB
    rw [ht] at hP
    clear ht
    subst eq5
    refine lv_astore_n hx hb d_Ru_choose_5 rfl hl (by decide) rfl (fun ls hl => ?_)
    have hl : lv_has ls 4 [(3, .ref (aw_c ad j 0)), (0, .ref (aw_r ad 0)), (1, .int (nI j)), (2, .int k0)] := hl
    refine lv_iload_n hx hb d_Ru_choose_6 rfl (lv_at hl 3 rfl) ?_
    refine lv_if_lt (tgt := 15) hx hb d_Ru_choose_7 (by decide) (fun h => absurd h hk.1) (fun _ => ?_)
    refine lv_iload_n hx hb d_Ru_choose_10 rfl (lv_at hl 3 rfl) ?_
    refine lv_iconst (v := nI 5) hx hb d_Ru_choose_11 (by decide +kernel) ?_
    refine lv_icmp_lt (tgt := 25) hx hb d_Ru_choose_12 (by decide) (fun h => absurd h hk.2) (fun _ => ?_)
    obtain ⟨sa6, hsa6⟩ := hU.2.1.2.2 (26, "there is no such cipher") (by decide)
    exact ag_thr hx hb hst (names := ["java/lang/RuntimeException", "java/lang/Exception"]) hown (by decide +kernel) (by decide +kernel) (hG _ gw_3_45) (hG _ gw_0_15) hsa6 (aw_hat_Ru_28 hG hE) (by decide +kernel) hU hP hD hSh hS (by rw [hml]; exact hl.1) d_Ru_choose_15 d_Ru_choose_18 d_Ru_choose_19 d_Ru_choose_21 d_Ru_choose_24 (fun x h => (hex x h).elim) (by decide) (Nat.le_of_ble_eq_true rfl) (Nat.le_of_ble_eq_true rfl) (Nat.le_of_ble_eq_true rfl) hlocks (Nat.le_of_ble_eq_true rfl) (Nat.le_of_ble_eq_true rfl)
abbrev ws_Ru_chooseXsV : List Cond := Cond.code y_Ru_choose b_Ru_choose 4 none :: aw_G
abbrev rm_Ru_chooseXsV : Room := { frames := 6, cells := 1, slots := 6, locals := 90 }
set_option maxHeartbeats 4000000 in
set_option maxRecDepth 100000 in
theorem k_Ru_chooseXsV (l : Launch) (hst : l.stackTraces = false) (D : va_G) (g : Nat → ClassId) (ad : Nat → Nat) (N0 : Nat) (zG : Nat → Nat × Nat) (zO : Nat → Nat) (zX : Nat → Nat → Int64) (zY : Nat → Nat → Int32) (zA : Nat → Nat → Nat → Int32) (zB : Nat → Int32) (zM : Nat → Nat × Nat) (zI : Nat → Nat → Int32) (zL : Nat → Nat → Int64) (zK : Int32) (zN : Nat) (zF : Int32) (zQ : Int64) (j : Nat) (k : Nat) (hj : j < 4) (hk : k < 5) (hs : 1 ≤ (zG j).1) : vx_Met l y_Ru_choose ws_Ru_chooseXsV rm_Ru_chooseXsV (va_Pc ([.ref (aw_r ad 0), .int (nI j), .int (nI k)] : List Value) (ag_B D g N0 (az_Sh g ad zG zO zX zY zA zB zM zI zL zK zN zF zQ))) (va_Qv (fun (_ : Unit) => False) (fun (_ : Unit) _ => True) (aw_Z N0)) (vx_X (fun (_ : Unit) => True) (fun E (_ : Unit) t => E = "java/lang/IllegalStateException" ∧ ag_H D N0 (az_Sh g ad zG zO zX zY zA zB zM zI zL zK zN zF zQ) t.heap) (aw_Z N0)) 1 6 (aw_Z N0) := by
  refine vx_ofW (cc := b_Ru_choose) (maxL := 4) (ret := none) (by decide) rfl ?_
  intro p e s m args below meth c s₁ B hml hex hv
  obtain ⟨rfl, ⟨L, hP, hD, hSh⟩, hU⟩ := hv
  have hx := B.exec
  have hb := B.bytes
  have hr := B.returns
  have hG : ∀ w ∈ aw_G, w.before _ s = true := fun w h => atoms_spec (ws := ws_Ru_chooseXsV) B.pre w (List.mem_cons_of_mem _ h)
  have hown : s.vm.findClass "RuleCiphers" = some m.cls := findClass_of_methodNamed B.named
  have hlocks := B.notSynchronized
  have hE := hU.1
  have hK := hE.1
  have hN := hE.2.1
  have hS : va_S (aw_Z N0) s.heap s.heap [] := va_S.rf
  have hl := lv_entry ([.ref (aw_r ad 0), .int (nI j), .int (nI k)] : List Value) (n := 4) (Nat.le_of_ble_eq_true rfl)
  rw [lg_entry_eq]
  generalize (lg_sl ([.ref (aw_r ad 0), .int (nI j), .int (nI k)] : List Value) ++ List.replicate (4 - (lg_sl ([.ref (aw_r ad 0), .int (nI j), .int (nI k)] : List Value)).length) Slot.unset).toArray = ls at hl ⊢
  have hl : lv_has ls 4 [(0, .ref (aw_r ad 0)), (1, .int (nI j)), (2, .int (nI k))] := hl
  refine lv_aload_n hx hb d_Ru_choose_0 rfl (lv_at hl 0 rfl) ?_
  refine lv_iload_n hx hb d_Ru_choose_1 rfl (lv_at hl 1 rfl) ?_
  have he1 := zr_R0 hSh
  refine va_callr (va_runV (As := [.int (nI j)]) (rest := []) ⟨hx, hb, hml, hown, hG⟩ (k_Ru_contextAt1V l D g ad N0 zG zO zX zY zA zB zM zI zL zK zN zF zQ j hj) (aw_wV 1 hG gw_2_47 gw_2_45 gw_0_1 gw_2_46 gw_p_0 rfl rfl hd_Ru_contextAt ⟨Nat.le_of_ble_eq_true rfl, Nat.le_of_ble_eq_true rfl⟩) (ag_qV (va_recv hK hP rfl he1) hP hD hSh hU hS) rfl rfl hl.1 rfl (lv_room (Nat.le_of_ble_eq_true rfl)) d_Ru_choose_2 ⟨Nat.le_of_ble_eq_true rfl, Nat.le_of_ble_eq_true rfl⟩) hS (fun _ _ h => h) (fun _ h => h) ?_
  clear hP hD hSh hS he1
  intro u8 q2 t8 H locs ht _ _ hB _ _ hS
  obtain ⟨eq2, hB⟩ := hB
  obtain ⟨L, hP, hD, hSh⟩ := hB
  rw [ht] at hP
  clear ht
  subst eq2
  refine lv_astore_n hx hb d_Ru_choose_5 rfl hl (by decide) rfl (fun ls hl => ?_)
  have hl : lv_has ls 4 [(3, .ref (aw_c ad j 0)), (0, .ref (aw_r ad 0)), (1, .int (nI j)), (2, .int (nI k))] := hl
  refine lv_iload_n hx hb d_Ru_choose_6 rfl (lv_at hl 3 rfl) ?_
  refine lv_if_lt (tgt := 15) hx hb d_Ru_choose_7 (by decide) (fun h => absurd h (show ¬ nI k < nI 0 from fun h9 => absurd ((nI_ltI (by omega) (by omega)).mp h9) (by omega))) (fun _ => ?_)
  refine lv_iload_n hx hb d_Ru_choose_10 rfl (lv_at hl 3 rfl) ?_
  refine lv_iconst (v := nI 5) hx hb d_Ru_choose_11 (by decide +kernel) ?_
  refine lv_icmp_lt (tgt := 25) hx hb d_Ru_choose_12 (by decide) (fun _ => ?_) (fun h => absurd (show nI k < nI 5 from (nI_ltI (by omega) (by omega)).mpr (by omega)) h)
  refine lv_aload_n hx hb d_Ru_choose_25 rfl (lv_at hl 0 rfl) ?_
  obtain ⟨hsd4, he3⟩ := zr_C0 hSh hj
  have hg := hSh.2.2.2.2.1 j hj
  refine va_get (C := R_Cx) (T := T_Cx) (N := 10) (v := .int (nI ((zG j).1))) hx hb hG in_Cx hown hK hP (3 + 16 * j + 0) he3 rfl 2 (by decide) (hG _ gw_1_57) (fun _ h => h) rfl d_Ru_choose_26 ?_
  clear he3
  refine lv_if_eq (tgt := 42) hx hb d_Ru_choose_29 (by decide) (fun h => absurd h (show ¬ nI ((zG j).1) = nI 0 from fun h9 => absurd ((nI_eq (by omega) (by omega)).mp h9) (by omega))) (fun _ => ?_)
  obtain ⟨sa5, hsa5⟩ := hU.2.1.2.2 (37, "the context is not free") (by decide)
  exact ag_thr hx hb hst (names := ["java/lang/RuntimeException", "java/lang/Exception"]) hown (by decide +kernel) (by decide +kernel) (hG _ gw_3_59) (hG _ gw_0_16) hsa5 (aw_hat_Ru_39 hG hE) (by decide +kernel) hU hP hD hSh hS (by rw [hml]; exact hl.1) d_Ru_choose_32 d_Ru_choose_35 d_Ru_choose_36 d_Ru_choose_38 d_Ru_choose_41 (fun x h => (hex x h).elim) (by decide) (Nat.le_of_ble_eq_true rfl) (Nat.le_of_ble_eq_true rfl) (Nat.le_of_ble_eq_true rfl) hlocks (Nat.le_of_ble_eq_true rfl) (Nat.le_of_ble_eq_true rfl)
noncomputable def v_Ru_key1V_zG (zG : Nat → Nat × Nat) (zO : Nat → Nat) (zA : Nat → Nat → Nat → Int32) (j : Nat) (a : Int64) (b : Int64) : Nat → Nat × Nat := v_Cx_setKeyV_zG zG zO zA j a b
noncomputable def v_Ru_key1V_zA (zG : Nat → Nat × Nat) (zO : Nat → Nat) (zA : Nat → Nat → Nat → Int32) (j : Nat) (a : Int64) (b : Int64) : Nat → Nat → Nat → Int32 := v_Cx_setKeyV_zA zG zO zA j a b
abbrev ws_Ru_key1V : List Cond := Cond.code y_Ru_key b_Ru_key 7 none :: aw_G
abbrev rm_Ru_key1V : Room := { frames := 4, cells := 0, slots := 0, locals := 101 }
set_option maxHeartbeats 4000000 in
set_option maxRecDepth 100000 in
theorem k_Ru_key1V (l : Launch) (D : va_G) (g : Nat → ClassId) (ad : Nat → Nat) (N0 : Nat) (zG : Nat → Nat × Nat) (zO : Nat → Nat) (zX : Nat → Nat → Int64) (zY : Nat → Nat → Int32) (zA : Nat → Nat → Nat → Int32) (zB : Nat → Int32) (zM : Nat → Nat × Nat) (zI : Nat → Nat → Int32) (zL : Nat → Nat → Int64) (zK : Int32) (zN : Nat) (zF : Int32) (zQ : Int64) (j : Nat) (a : Int64) (b : Int64) (hj : j < 4) (hs : 1 ≤ (zG j).1) : Met l y_Ru_key ws_Ru_key1V rm_Ru_key1V (va_Pc ([.ref (aw_r ad 0), .int (nI j), .long a, .long b] : List Value) (ag_B D g N0 (az_Sh g ad zG zO zX zY zA zB zM zI zL zK zN zF zQ))) (va_Qv (fun (_ : Unit) => True) (fun (_ : Unit) t => ag_H D N0 (az_Sh g ad (v_Ru_key1V_zG zG zO zA j a b) zO zX zY (v_Ru_key1V_zA zG zO zA j a b) zB zM zI zL zK zN zF zQ) t.heap) (aw_Z N0)) 0 0 (aw_Z N0) := by
  refine Met.ofW (cc := b_Ru_key) (maxL := 7) (ret := none) (by decide) rfl ?_
  intro p e s m args below meth c s₁ B hml hv
  obtain ⟨rfl, ⟨L, hP, hD, hSh⟩, hU⟩ := hv
  have hx := B.exec
  have hb := B.bytes
  have hr := B.returns
  have hG : ∀ w ∈ aw_G, w.before _ s = true := fun w h => atoms_spec (ws := ws_Ru_key1V) B.pre w (List.mem_cons_of_mem _ h)
  have hown : s.vm.findClass "RuleCiphers" = some m.cls := findClass_of_methodNamed B.named
  have hlocks := B.notSynchronized
  have hE := hU.1
  have hK := hE.1
  have hN := hE.2.1
  have hS : va_S (aw_Z N0) s.heap s.heap [] := va_S.rf
  have hl := lv_entry ([.ref (aw_r ad 0), .int (nI j), .long a, .long b] : List Value) (n := 7) (Nat.le_of_ble_eq_true rfl)
  rw [lg_entry_eq]
  generalize (lg_sl ([.ref (aw_r ad 0), .int (nI j), .long a, .long b] : List Value) ++ List.replicate (7 - (lg_sl ([.ref (aw_r ad 0), .int (nI j), .long a, .long b] : List Value)).length) Slot.unset).toArray = ls at hl ⊢
  have hl : lv_has ls 7 [(0, .ref (aw_r ad 0)), (1, .int (nI j)), (2, .long a), (4, .long b)] := hl
  refine lv_aload_n hx hb d_Ru_key_0 rfl (lv_at hl 0 rfl) ?_
  refine lv_iload_n hx hb d_Ru_key_1 rfl (lv_at hl 1 rfl) ?_
  have he1 := zr_R0 hSh
  refine va_callr (va_runV (As := [.int (nI j)]) (rest := []) ⟨hx, hb, hml, hown, hG⟩ (k_Ru_contextAt1V l D g ad N0 zG zO zX zY zA zB zM zI zL zK zN zF zQ j hj) (aw_wV 1 hG gw_2_47 gw_2_45 gw_0_1 gw_2_46 gw_p_0 rfl rfl hd_Ru_contextAt ⟨Nat.le_of_ble_eq_true rfl, Nat.le_of_ble_eq_true rfl⟩) (ag_qV (va_recv hK hP rfl he1) hP hD hSh hU hS) rfl rfl hl.1 rfl (lv_room (Nat.le_of_ble_eq_true rfl)) d_Ru_key_2 ⟨Nat.le_of_ble_eq_true rfl, Nat.le_of_ble_eq_true rfl⟩) hS (fun _ _ h => h) (fun _ h => h) ?_
  clear hP hD hSh hS he1
  intro u8 q2 t8 H locs ht _ _ hB _ _ hS
  obtain ⟨eq2, hB⟩ := hB
  obtain ⟨L, hP, hD, hSh⟩ := hB
  rw [ht] at hP
  clear ht
  subst eq2
  refine lv_astore hx hb d_Ru_key_5 hl (by decide) rfl (fun ls hl => ?_)
  have hl : lv_has ls 7 [(6, .ref (aw_c ad j 0)), (0, .ref (aw_r ad 0)), (1, .int (nI j)), (2, .long a), (4, .long b)] := hl
  refine lv_aload hx hb d_Ru_key_7 (lv_at hl 0 rfl) ?_
  obtain ⟨hsd4, he3⟩ := zr_C0 hSh hj
  have hg := hSh.2.2.2.2.1 j hj
  refine va_get (C := R_Cx) (T := T_Cx) (N := 10) (v := .int (nI ((zG j).1))) hx hb hG in_Cx hown hK hP (3 + 16 * j + 0) he3 rfl 2 (by decide) (hG _ gw_1_57) (fun _ h => h) rfl d_Ru_key_9 ?_
  clear he3
  refine lv_if_ne (tgt := 25) hx hb d_Ru_key_12 (by decide) (fun _ => ?_) (fun h => absurd h (show ¬ nI ((zG j).1) = nI 0 from fun h9 => absurd ((nI_eq (by omega) (by omega)).mp h9) (by omega)))
  refine lv_aload hx hb d_Ru_key_25 (lv_at hl 0 rfl) ?_
  refine lv_lload_n hx hb d_Ru_key_27 rfl (lv_at hl 3 rfl) ?_
  refine lv_lload hx hb d_Ru_key_28 (lv_at hl 4 rfl) ?_
  obtain ⟨_, he5⟩ := zr_C0 hSh hj
  refine va_callv (va_runV (As := [.long a, .long b]) (rest := []) ⟨hx, hb, hml, hown, hG⟩ (k_Cx_setKeyV l D g ad N0 zG zO zX zY zA zB zM zI zL zK zN zF zQ j a b hj) (aw_wV 2 hG gw_4_27 gw_4_24 gw_0_2 gw_4_25 gw_4_26 rfl rfl hd_Cx_setKey ⟨Nat.le_of_ble_eq_true rfl, Nat.le_of_ble_eq_true rfl⟩) (ag_qV (va_recv hK hP rfl he5) hP hD hSh hU hS) rfl rfl hl.1 rfl (lv_room (Nat.le_of_ble_eq_true rfl)) d_Ru_key_30 ⟨Nat.le_of_ble_eq_true rfl, Nat.le_of_ble_eq_true rfl⟩) hS (fun _ _ h => h) (fun _ h => h) ?_
  clear hP hD hSh hS he5
  intro u8 t8 H locs ht _ _ hB _ _ hS
  obtain ⟨L, hP, hD, hSh⟩ := hB
  rw [ht] at hP
  clear ht
  obtain ⟨zG6, ezG6⟩ : ∃ z : Nat → Nat × Nat, v_Cx_setKeyV_zG zG zO zA j a b = z := ⟨_, rfl⟩
  rw [ezG6] at hSh
  obtain ⟨zA7, ezA7⟩ : ∃ z : Nat → Nat → Nat → Int32, v_Cx_setKeyV_zA zG zO zA j a b = z := ⟨_, rfl⟩
  rw [ezA7] at hSh
  have gzG : zG6 = v_Ru_key1V_zG zG zO zA j a b := by subst ezA7 ezG6; rfl
  have gzA : zA7 = v_Ru_key1V_zA zG zO zA j a b := by subst ezA7 ezG6; rfl
  have hSh : az_Sh g ad (v_Ru_key1V_zG zG zO zA j a b) zO zX zY (v_Ru_key1V_zA zG zO zA j a b) zB zM zI zL zK zN zF zQ L := by rw [← gzG, ← gzA]; exact hSh
  exact W.vret hx hb hr (fun t ht hW => ⟨⟨(), rfl, trivial, ag_Hr ht hP hD hSh⟩, hS.F ht⟩) hS.2.2 d_Ru_key_33
abbrev ws_Ru_keyXcV : List Cond := Cond.code y_Ru_key b_Ru_key 7 none :: aw_G
abbrev rm_Ru_keyXcV : Room := { frames := 7, cells := 1, slots := 6, locals := 111 }
set_option maxHeartbeats 4000000 in
set_option maxRecDepth 100000 in
theorem k_Ru_keyXcV (l : Launch) (hst : l.stackTraces = false) (D : va_G) (g : Nat → ClassId) (ad : Nat → Nat) (N0 : Nat) (zG : Nat → Nat × Nat) (zO : Nat → Nat) (zX : Nat → Nat → Int64) (zY : Nat → Nat → Int32) (zA : Nat → Nat → Nat → Int32) (zB : Nat → Int32) (zM : Nat → Nat × Nat) (zI : Nat → Nat → Int32) (zL : Nat → Nat → Int64) (zK : Int32) (zN : Nat) (zF : Int32) (zQ : Int64) (c0 : Int32) (a : Int64) (b : Int64) (hc : c0 < 0 ∨ (¬ c0 < 0 ∧ ¬ c0 < nI 4)) : vx_Met l y_Ru_key ws_Ru_keyXcV rm_Ru_keyXcV (va_Pc ([.ref (aw_r ad 0), .int c0, .long a, .long b] : List Value) (ag_B D g N0 (az_Sh g ad zG zO zX zY zA zB zM zI zL zK zN zF zQ))) (va_Qv (fun (_ : Unit) => False) (fun (_ : Unit) _ => True) (aw_Z N0)) (vx_X (fun (_ : Unit) => True) (fun E (_ : Unit) t => E = "java/lang/IndexOutOfBoundsException" ∧ ag_H D N0 (az_Sh g ad zG zO zX zY zA zB zM zI zL zK zN zF zQ) t.heap) (aw_Z N0)) 1 6 (aw_Z N0) := by
  refine vx_ofW (cc := b_Ru_key) (maxL := 7) (ret := none) (by decide) rfl ?_
  intro p e s m args below meth c s₁ B hml hex hv
  obtain ⟨rfl, ⟨L, hP, hD, hSh⟩, hU⟩ := hv
  have hx := B.exec
  have hb := B.bytes
  have hr := B.returns
  have hG : ∀ w ∈ aw_G, w.before _ s = true := fun w h => atoms_spec (ws := ws_Ru_keyXcV) B.pre w (List.mem_cons_of_mem _ h)
  have hown : s.vm.findClass "RuleCiphers" = some m.cls := findClass_of_methodNamed B.named
  have hlocks := B.notSynchronized
  have hE := hU.1
  have hK := hE.1
  have hN := hE.2.1
  have hS : va_S (aw_Z N0) s.heap s.heap [] := va_S.rf
  have hl := lv_entry ([.ref (aw_r ad 0), .int c0, .long a, .long b] : List Value) (n := 7) (Nat.le_of_ble_eq_true rfl)
  rw [lg_entry_eq]
  generalize (lg_sl ([.ref (aw_r ad 0), .int c0, .long a, .long b] : List Value) ++ List.replicate (7 - (lg_sl ([.ref (aw_r ad 0), .int c0, .long a, .long b] : List Value)).length) Slot.unset).toArray = ls at hl ⊢
  have hl : lv_has ls 7 [(0, .ref (aw_r ad 0)), (1, .int c0), (2, .long a), (4, .long b)] := hl
  refine lv_aload_n hx hb d_Ru_key_0 rfl (lv_at hl 0 rfl) ?_
  refine lv_iload_n hx hb d_Ru_key_1 rfl (lv_at hl 1 rfl) ?_
  have he1 := zr_R0 hSh
  refine vx_callv (vx_runV (As := [.int c0]) (rest := []) ⟨hx, hb, hml, hown, hG⟩ (k_Ru_contextAtXV l hst D g ad N0 zG zO zX zY zA zB zM zI zL zK zN zF zQ c0 hc) (aw_wV 1 hG gw_2_47 gw_2_45 gw_0_1 gw_2_46 gw_p_0 rfl rfl hd_Ru_contextAt ⟨Nat.le_of_ble_eq_true rfl, Nat.le_of_ble_eq_true rfl⟩) (ag_qV (va_recv hK hP rfl he1) hP hD hSh hU hS) rfl rfl hl.1 rfl (lv_room (Nat.le_of_ble_eq_true rfl)) d_Ru_key_2 ⟨Nat.le_of_ble_eq_true rfl, Nat.le_of_ble_eq_true rfl⟩) hS (fun _ _ h => h) (fun _ h => h) (fun _ _ h => h) (fun E ce q9 u t H locs ht _ _ hBX _ _ hS hce hcv hcl => ?_) (fun u t H locs _ _ hF _ _ _ _ => hF.elim)
  obtain ⟨rfl, L, hP, hD, hSh⟩ := hBX
  rw [ht] at hP
  exact vx_out (fun x h => (hex x h).elim) hlocks hce hcv hcl (fun t9 ht9 _ => ⟨(), trivial, ⟨rfl, ag_Hr ht9 hP hD hSh⟩, hS.F ht9⟩) hS.2.2 (Nat.le_of_ble_eq_true rfl) (Nat.le_of_ble_eq_true rfl)
abbrev ws_Ru_keyXsV : List Cond := Cond.code y_Ru_key b_Ru_key 7 none :: aw_G
abbrev rm_Ru_keyXsV : Room := { frames := 6, cells := 1, slots := 6, locals := 90 }
set_option maxHeartbeats 4000000 in
set_option maxRecDepth 100000 in
theorem k_Ru_keyXsV (l : Launch) (hst : l.stackTraces = false) (D : va_G) (g : Nat → ClassId) (ad : Nat → Nat) (N0 : Nat) (zG : Nat → Nat × Nat) (zO : Nat → Nat) (zX : Nat → Nat → Int64) (zY : Nat → Nat → Int32) (zA : Nat → Nat → Nat → Int32) (zB : Nat → Int32) (zM : Nat → Nat × Nat) (zI : Nat → Nat → Int32) (zL : Nat → Nat → Int64) (zK : Int32) (zN : Nat) (zF : Int32) (zQ : Int64) (j : Nat) (a : Int64) (b : Int64) (hj : j < 4) (hs : (zG j).1 = 0) : vx_Met l y_Ru_key ws_Ru_keyXsV rm_Ru_keyXsV (va_Pc ([.ref (aw_r ad 0), .int (nI j), .long a, .long b] : List Value) (ag_B D g N0 (az_Sh g ad zG zO zX zY zA zB zM zI zL zK zN zF zQ))) (va_Qv (fun (_ : Unit) => False) (fun (_ : Unit) _ => True) (aw_Z N0)) (vx_X (fun (_ : Unit) => True) (fun E (_ : Unit) t => E = "java/lang/IllegalStateException" ∧ ag_H D N0 (az_Sh g ad zG zO zX zY zA zB zM zI zL zK zN zF zQ) t.heap) (aw_Z N0)) 1 6 (aw_Z N0) := by
  refine vx_ofW (cc := b_Ru_key) (maxL := 7) (ret := none) (by decide) rfl ?_
  intro p e s m args below meth c s₁ B hml hex hv
  obtain ⟨rfl, ⟨L, hP, hD, hSh⟩, hU⟩ := hv
  have hx := B.exec
  have hb := B.bytes
  have hr := B.returns
  have hG : ∀ w ∈ aw_G, w.before _ s = true := fun w h => atoms_spec (ws := ws_Ru_keyXsV) B.pre w (List.mem_cons_of_mem _ h)
  have hown : s.vm.findClass "RuleCiphers" = some m.cls := findClass_of_methodNamed B.named
  have hlocks := B.notSynchronized
  have hE := hU.1
  have hK := hE.1
  have hN := hE.2.1
  have hS : va_S (aw_Z N0) s.heap s.heap [] := va_S.rf
  have hl := lv_entry ([.ref (aw_r ad 0), .int (nI j), .long a, .long b] : List Value) (n := 7) (Nat.le_of_ble_eq_true rfl)
  rw [lg_entry_eq]
  generalize (lg_sl ([.ref (aw_r ad 0), .int (nI j), .long a, .long b] : List Value) ++ List.replicate (7 - (lg_sl ([.ref (aw_r ad 0), .int (nI j), .long a, .long b] : List Value)).length) Slot.unset).toArray = ls at hl ⊢
  have hl : lv_has ls 7 [(0, .ref (aw_r ad 0)), (1, .int (nI j)), (2, .long a), (4, .long b)] := hl
  refine lv_aload_n hx hb d_Ru_key_0 rfl (lv_at hl 0 rfl) ?_
  refine lv_iload_n hx hb d_Ru_key_1 rfl (lv_at hl 1 rfl) ?_
  have he1 := zr_R0 hSh
  refine va_callr (va_runV (As := [.int (nI j)]) (rest := []) ⟨hx, hb, hml, hown, hG⟩ (k_Ru_contextAt1V l D g ad N0 zG zO zX zY zA zB zM zI zL zK zN zF zQ j hj) (aw_wV 1 hG gw_2_47 gw_2_45 gw_0_1 gw_2_46 gw_p_0 rfl rfl hd_Ru_contextAt ⟨Nat.le_of_ble_eq_true rfl, Nat.le_of_ble_eq_true rfl⟩) (ag_qV (va_recv hK hP rfl he1) hP hD hSh hU hS) rfl rfl hl.1 rfl (lv_room (Nat.le_of_ble_eq_true rfl)) d_Ru_key_2 ⟨Nat.le_of_ble_eq_true rfl, Nat.le_of_ble_eq_true rfl⟩) hS (fun _ _ h => h) (fun _ h => h) ?_
  clear hP hD hSh hS he1
  intro u8 q2 t8 H locs ht _ _ hB _ _ hS
  obtain ⟨eq2, hB⟩ := hB
  obtain ⟨L, hP, hD, hSh⟩ := hB
  rw [ht] at hP
  clear ht
  subst eq2
  refine lv_astore hx hb d_Ru_key_5 hl (by decide) rfl (fun ls hl => ?_)
  have hl : lv_has ls 7 [(6, .ref (aw_c ad j 0)), (0, .ref (aw_r ad 0)), (1, .int (nI j)), (2, .long a), (4, .long b)] := hl
  refine lv_aload hx hb d_Ru_key_7 (lv_at hl 0 rfl) ?_
  obtain ⟨hsd4, he3⟩ := zr_C0 hSh hj
  have hg := hSh.2.2.2.2.1 j hj
  refine va_get (C := R_Cx) (T := T_Cx) (N := 10) (v := .int (nI ((zG j).1))) hx hb hG in_Cx hown hK hP (3 + 16 * j + 0) he3 rfl 2 (by decide) (hG _ gw_1_57) (fun _ h => h) rfl d_Ru_key_9 ?_
  clear he3
  refine lv_if_ne (tgt := 25) hx hb d_Ru_key_12 (by decide) (fun h => absurd (show nI ((zG j).1) = nI 0 from (nI_eq (by omega) (by omega)).mpr (by omega)) h) (fun _ => ?_)
  obtain ⟨sa5, hsa5⟩ := hU.2.1.2.2 (44, "the context is free") (by decide)
  exact ag_thr hx hb hst (names := ["java/lang/RuntimeException", "java/lang/Exception"]) hown (by decide +kernel) (by decide +kernel) (hG _ gw_3_59) (hG _ gw_0_16) hsa5 (aw_hat_Ru_39 hG hE) (by decide +kernel) hU hP hD hSh hS (by rw [hml]; exact hl.1) d_Ru_key_15 d_Ru_key_18 d_Ru_key_19 d_Ru_key_21 d_Ru_key_24 (fun x h => (hex x h).elim) (by decide) (Nat.le_of_ble_eq_true rfl) (Nat.le_of_ble_eq_true rfl) (Nat.le_of_ble_eq_true rfl) hlocks (Nat.le_of_ble_eq_true rfl) (Nat.le_of_ble_eq_true rfl)
noncomputable def v_Ru_mode1V_zG (zG : Nat → Nat × Nat) (zX : Nat → Nat → Int64) (zY : Nat → Nat → Int32) (j : Nat) (k : Nat) (b : Int64) : Nat → Nat × Nat := v_Cx_setModeV_zG zG zX zY j k b
noncomputable def v_Ru_mode1V_zX (zG : Nat → Nat × Nat) (zX : Nat → Nat → Int64) (zY : Nat → Nat → Int32) (j : Nat) (k : Nat) (b : Int64) : Nat → Nat → Int64 := v_Cx_setModeV_zX zG zX zY j k b
noncomputable def v_Ru_mode1V_zY (zG : Nat → Nat × Nat) (zX : Nat → Nat → Int64) (zY : Nat → Nat → Int32) (j : Nat) (k : Nat) (b : Int64) : Nat → Nat → Int32 := v_Cx_setModeV_zY zG zX zY j k b
abbrev ws_Ru_mode1V : List Cond := Cond.code y_Ru_mode b_Ru_mode 6 none :: aw_G
abbrev rm_Ru_mode1V : Room := { frames := 2, cells := 0, slots := 0, locals := 43 }
set_option maxHeartbeats 4000000 in
set_option maxRecDepth 100000 in
theorem k_Ru_mode1V (l : Launch) (D : va_G) (g : Nat → ClassId) (ad : Nat → Nat) (N0 : Nat) (zG : Nat → Nat × Nat) (zO : Nat → Nat) (zX : Nat → Nat → Int64) (zY : Nat → Nat → Int32) (zA : Nat → Nat → Nat → Int32) (zB : Nat → Int32) (zM : Nat → Nat × Nat) (zI : Nat → Nat → Int32) (zL : Nat → Nat → Int64) (zK : Int32) (zN : Nat) (zF : Int32) (zQ : Int64) (j : Nat) (k : Nat) (b : Int64) (hj : j < 4) (hk : k ≤ 5) (hs : 2 ≤ (zG j).1) : Met l y_Ru_mode ws_Ru_mode1V rm_Ru_mode1V (va_Pc ([.ref (aw_r ad 0), .int (nI j), .int (nI k), .long b] : List Value) (ag_B D g N0 (az_Sh g ad zG zO zX zY zA zB zM zI zL zK zN zF zQ))) (va_Qv (fun (_ : Unit) => True) (fun (_ : Unit) t => ag_H D N0 (az_Sh g ad (v_Ru_mode1V_zG zG zX zY j k b) zO (v_Ru_mode1V_zX zG zX zY j k b) (v_Ru_mode1V_zY zG zX zY j k b) zA zB zM zI zL zK zN zF zQ) t.heap) (aw_Z N0)) 0 0 (aw_Z N0) := by
  refine Met.ofW (cc := b_Ru_mode) (maxL := 6) (ret := none) (by decide) rfl ?_
  intro p e s m args below meth c s₁ B hml hv
  obtain ⟨rfl, ⟨L, hP, hD, hSh⟩, hU⟩ := hv
  have hx := B.exec
  have hb := B.bytes
  have hr := B.returns
  have hG : ∀ w ∈ aw_G, w.before _ s = true := fun w h => atoms_spec (ws := ws_Ru_mode1V) B.pre w (List.mem_cons_of_mem _ h)
  have hown : s.vm.findClass "RuleCiphers" = some m.cls := findClass_of_methodNamed B.named
  have hlocks := B.notSynchronized
  have hE := hU.1
  have hK := hE.1
  have hN := hE.2.1
  have hS : va_S (aw_Z N0) s.heap s.heap [] := va_S.rf
  have hl := lv_entry ([.ref (aw_r ad 0), .int (nI j), .int (nI k), .long b] : List Value) (n := 6) (Nat.le_of_ble_eq_true rfl)
  rw [lg_entry_eq]
  generalize (lg_sl ([.ref (aw_r ad 0), .int (nI j), .int (nI k), .long b] : List Value) ++ List.replicate (6 - (lg_sl ([.ref (aw_r ad 0), .int (nI j), .int (nI k), .long b] : List Value)).length) Slot.unset).toArray = ls at hl ⊢
  have hl : lv_has ls 6 [(0, .ref (aw_r ad 0)), (1, .int (nI j)), (2, .int (nI k)), (3, .long b)] := hl
  refine lv_aload_n hx hb d_Ru_mode_0 rfl (lv_at hl 0 rfl) ?_
  refine lv_iload_n hx hb d_Ru_mode_1 rfl (lv_at hl 1 rfl) ?_
  have he1 := zr_R0 hSh
  refine va_callr (va_runV (As := [.int (nI j)]) (rest := []) ⟨hx, hb, hml, hown, hG⟩ (k_Ru_contextAt1V l D g ad N0 zG zO zX zY zA zB zM zI zL zK zN zF zQ j hj) (aw_wV 1 hG gw_2_47 gw_2_45 gw_0_1 gw_2_46 gw_p_0 rfl rfl hd_Ru_contextAt ⟨Nat.le_of_ble_eq_true rfl, Nat.le_of_ble_eq_true rfl⟩) (ag_qV (va_recv hK hP rfl he1) hP hD hSh hU hS) rfl rfl hl.1 rfl (lv_room (Nat.le_of_ble_eq_true rfl)) d_Ru_mode_2 ⟨Nat.le_of_ble_eq_true rfl, Nat.le_of_ble_eq_true rfl⟩) hS (fun _ _ h => h) (fun _ h => h) ?_
  clear hP hD hSh hS he1
  intro u8 q2 t8 H locs ht _ _ hB _ _ hS
  obtain ⟨eq2, hB⟩ := hB
  obtain ⟨L, hP, hD, hSh⟩ := hB
  rw [ht] at hP
  clear ht
  subst eq2
  refine lv_astore hx hb d_Ru_mode_5 hl (by decide) rfl (fun ls hl => ?_)
  have hl : lv_has ls 6 [(5, .ref (aw_c ad j 0)), (0, .ref (aw_r ad 0)), (1, .int (nI j)), (2, .int (nI k)), (3, .long b)] := hl
  refine lv_iload_n hx hb d_Ru_mode_7 rfl (lv_at hl 3 rfl) ?_
  refine lv_if_lt (tgt := 16) hx hb d_Ru_mode_8 (by decide) (fun h => absurd h (show ¬ nI k < nI 0 from fun h9 => absurd ((nI_ltI (by omega) (by omega)).mp h9) (by omega))) (fun _ => ?_)
  refine lv_iload_n hx hb d_Ru_mode_11 rfl (lv_at hl 3 rfl) ?_
  refine lv_iconst (v := nI 5) hx hb d_Ru_mode_12 (by decide +kernel) ?_
  refine lv_icmp_le (tgt := 26) hx hb d_Ru_mode_13 (by decide) (fun _ => ?_) (fun h => absurd (show nI k ≤ nI 5 from (nI_leI (by omega) (by omega)).mpr (by omega)) h)
  refine lv_aload hx hb d_Ru_mode_26 (lv_at hl 0 rfl) ?_
  refine va_callv (va_runS (As := [.ref (aw_c ad j 0)]) (rest := []) ⟨hx, hb, hml, hown, hG⟩ (k_Ru_requireKey1V l D g ad N0 zG zO zX zY zA zB zM zI zL zK zN zF zQ j hj hs) (aw_wS 1 hG gw_5_30 gw_5_28 gw_0_1 gw_5_29 rfl rfl hd_Ru_requireKey ⟨Nat.le_of_ble_eq_true rfl, Nat.le_of_ble_eq_true rfl⟩) (ag_qS hP hD hSh hU hS) rfl rfl hl.1 rfl (lv_room (Nat.le_of_ble_eq_true rfl)) d_Ru_mode_28 ⟨Nat.le_of_ble_eq_true rfl, Nat.le_of_ble_eq_true rfl⟩) hS (fun _ _ h => h) (fun _ h => h) ?_
  clear hP hD hSh hS
  intro u8 t8 H locs ht _ _ hB _ _ hS
  obtain ⟨L, hP, hD, hSh⟩ := hB
  rw [ht] at hP
  clear ht
  refine lv_aload hx hb d_Ru_mode_31 (lv_at hl 0 rfl) ?_
  refine lv_iload_n hx hb d_Ru_mode_33 rfl (lv_at hl 3 rfl) ?_
  refine lv_lload_n hx hb d_Ru_mode_34 rfl (lv_at hl 4 rfl) ?_
  obtain ⟨_, he3⟩ := zr_C0 hSh hj
  refine va_callv (va_runV (As := [.int (nI k), .long b]) (rest := []) ⟨hx, hb, hml, hown, hG⟩ (k_Cx_setModeV l D g ad N0 zG zO zX zY zA zB zM zI zL zK zN zF zQ j k b hj hk) (aw_wV 2 hG gw_5_34 gw_5_31 gw_0_2 gw_5_32 gw_5_33 rfl rfl hd_Cx_setMode ⟨Nat.le_of_ble_eq_true rfl, Nat.le_of_ble_eq_true rfl⟩) (ag_qV (va_recv hK hP rfl he3) hP hD hSh hU hS) rfl rfl hl.1 rfl (lv_room (Nat.le_of_ble_eq_true rfl)) d_Ru_mode_35 ⟨Nat.le_of_ble_eq_true rfl, Nat.le_of_ble_eq_true rfl⟩) hS (fun _ _ h => h) (fun _ h => h) ?_
  clear hP hD hSh hS he3
  intro u8 t8 H locs ht _ _ hB _ _ hS
  obtain ⟨L, hP, hD, hSh⟩ := hB
  rw [ht] at hP
  clear ht
  obtain ⟨zG4, ezG4⟩ : ∃ z : Nat → Nat × Nat, v_Cx_setModeV_zG zG zX zY j k b = z := ⟨_, rfl⟩
  rw [ezG4] at hSh
  obtain ⟨zX5, ezX5⟩ : ∃ z : Nat → Nat → Int64, v_Cx_setModeV_zX zG zX zY j k b = z := ⟨_, rfl⟩
  rw [ezX5] at hSh
  obtain ⟨zY6, ezY6⟩ : ∃ z : Nat → Nat → Int32, v_Cx_setModeV_zY zG zX zY j k b = z := ⟨_, rfl⟩
  rw [ezY6] at hSh
  have gzG : zG4 = v_Ru_mode1V_zG zG zX zY j k b := by subst ezY6 ezX5 ezG4; rfl
  have gzX : zX5 = v_Ru_mode1V_zX zG zX zY j k b := by subst ezY6 ezX5 ezG4; rfl
  have gzY : zY6 = v_Ru_mode1V_zY zG zX zY j k b := by subst ezY6 ezX5 ezG4; rfl
  have hSh : az_Sh g ad (v_Ru_mode1V_zG zG zX zY j k b) zO (v_Ru_mode1V_zX zG zX zY j k b) (v_Ru_mode1V_zY zG zX zY j k b) zA zB zM zI zL zK zN zF zQ L := by rw [← gzG, ← gzX, ← gzY]; exact hSh
  exact W.vret hx hb hr (fun t ht hW => ⟨⟨(), rfl, trivial, ag_Hr ht hP hD hSh⟩, hS.F ht⟩) hS.2.2 d_Ru_mode_38
abbrev ws_Ru_modeXcV : List Cond := Cond.code y_Ru_mode b_Ru_mode 6 none :: aw_G
abbrev rm_Ru_modeXcV : Room := { frames := 7, cells := 1, slots := 6, locals := 111 }
set_option maxHeartbeats 4000000 in
set_option maxRecDepth 100000 in
theorem k_Ru_modeXcV (l : Launch) (hst : l.stackTraces = false) (D : va_G) (g : Nat → ClassId) (ad : Nat → Nat) (N0 : Nat) (zG : Nat → Nat × Nat) (zO : Nat → Nat) (zX : Nat → Nat → Int64) (zY : Nat → Nat → Int32) (zA : Nat → Nat → Nat → Int32) (zB : Nat → Int32) (zM : Nat → Nat × Nat) (zI : Nat → Nat → Int32) (zL : Nat → Nat → Int64) (zK : Int32) (zN : Nat) (zF : Int32) (zQ : Int64) (c0 : Int32) (k0 : Int32) (b : Int64) (hc : c0 < 0 ∨ (¬ c0 < 0 ∧ ¬ c0 < nI 4)) : vx_Met l y_Ru_mode ws_Ru_modeXcV rm_Ru_modeXcV (va_Pc ([.ref (aw_r ad 0), .int c0, .int k0, .long b] : List Value) (ag_B D g N0 (az_Sh g ad zG zO zX zY zA zB zM zI zL zK zN zF zQ))) (va_Qv (fun (_ : Unit) => False) (fun (_ : Unit) _ => True) (aw_Z N0)) (vx_X (fun (_ : Unit) => True) (fun E (_ : Unit) t => E = "java/lang/IndexOutOfBoundsException" ∧ ag_H D N0 (az_Sh g ad zG zO zX zY zA zB zM zI zL zK zN zF zQ) t.heap) (aw_Z N0)) 1 6 (aw_Z N0) := by
  refine vx_ofW (cc := b_Ru_mode) (maxL := 6) (ret := none) (by decide) rfl ?_
  intro p e s m args below meth c s₁ B hml hex hv
  obtain ⟨rfl, ⟨L, hP, hD, hSh⟩, hU⟩ := hv
  have hx := B.exec
  have hb := B.bytes
  have hr := B.returns
  have hG : ∀ w ∈ aw_G, w.before _ s = true := fun w h => atoms_spec (ws := ws_Ru_modeXcV) B.pre w (List.mem_cons_of_mem _ h)
  have hown : s.vm.findClass "RuleCiphers" = some m.cls := findClass_of_methodNamed B.named
  have hlocks := B.notSynchronized
  have hE := hU.1
  have hK := hE.1
  have hN := hE.2.1
  have hS : va_S (aw_Z N0) s.heap s.heap [] := va_S.rf
  have hl := lv_entry ([.ref (aw_r ad 0), .int c0, .int k0, .long b] : List Value) (n := 6) (Nat.le_of_ble_eq_true rfl)
  rw [lg_entry_eq]
  generalize (lg_sl ([.ref (aw_r ad 0), .int c0, .int k0, .long b] : List Value) ++ List.replicate (6 - (lg_sl ([.ref (aw_r ad 0), .int c0, .int k0, .long b] : List Value)).length) Slot.unset).toArray = ls at hl ⊢
  have hl : lv_has ls 6 [(0, .ref (aw_r ad 0)), (1, .int c0), (2, .int k0), (3, .long b)] := hl
  refine lv_aload_n hx hb d_Ru_mode_0 rfl (lv_at hl 0 rfl) ?_
  refine lv_iload_n hx hb d_Ru_mode_1 rfl (lv_at hl 1 rfl) ?_
  have he1 := zr_R0 hSh
  refine vx_callv (vx_runV (As := [.int c0]) (rest := []) ⟨hx, hb, hml, hown, hG⟩ (k_Ru_contextAtXV l hst D g ad N0 zG zO zX zY zA zB zM zI zL zK zN zF zQ c0 hc) (aw_wV 1 hG gw_2_47 gw_2_45 gw_0_1 gw_2_46 gw_p_0 rfl rfl hd_Ru_contextAt ⟨Nat.le_of_ble_eq_true rfl, Nat.le_of_ble_eq_true rfl⟩) (ag_qV (va_recv hK hP rfl he1) hP hD hSh hU hS) rfl rfl hl.1 rfl (lv_room (Nat.le_of_ble_eq_true rfl)) d_Ru_mode_2 ⟨Nat.le_of_ble_eq_true rfl, Nat.le_of_ble_eq_true rfl⟩) hS (fun _ _ h => h) (fun _ h => h) (fun _ _ h => h) (fun E ce q9 u t H locs ht _ _ hBX _ _ hS hce hcv hcl => ?_) (fun u t H locs _ _ hF _ _ _ _ => hF.elim)
  obtain ⟨rfl, L, hP, hD, hSh⟩ := hBX
  rw [ht] at hP
  exact vx_out (fun x h => (hex x h).elim) hlocks hce hcv hcl (fun t9 ht9 _ => ⟨(), trivial, ⟨rfl, ag_Hr ht9 hP hD hSh⟩, hS.F ht9⟩) hS.2.2 (Nat.le_of_ble_eq_true rfl) (Nat.le_of_ble_eq_true rfl)
abbrev ws_Ru_modeXaV : List Cond := Cond.code y_Ru_mode b_Ru_mode 6 none :: aw_G
abbrev rm_Ru_modeXaV : Room := { frames := 6, cells := 1, slots := 6, locals := 90 }
set_option maxHeartbeats 4000000 in
set_option maxRecDepth 100000 in
theorem k_Ru_modeXaV (l : Launch) (hst : l.stackTraces = false) (D : va_G) (g : Nat → ClassId) (ad : Nat → Nat) (N0 : Nat) (zG : Nat → Nat × Nat) (zO : Nat → Nat) (zX : Nat → Nat → Int64) (zY : Nat → Nat → Int32) (zA : Nat → Nat → Nat → Int32) (zB : Nat → Int32) (zM : Nat → Nat × Nat) (zI : Nat → Nat → Int32) (zL : Nat → Nat → Int64) (zK : Int32) (zN : Nat) (zF : Int32) (zQ : Int64) (j : Nat) (k0 : Int32) (b : Int64) (hj : j < 4) (hk : k0 < 0 ∨ (¬ k0 < 0 ∧ nI 5 < k0)) : vx_Met l y_Ru_mode ws_Ru_modeXaV rm_Ru_modeXaV (va_Pc ([.ref (aw_r ad 0), .int (nI j), .int k0, .long b] : List Value) (ag_B D g N0 (az_Sh g ad zG zO zX zY zA zB zM zI zL zK zN zF zQ))) (va_Qv (fun (_ : Unit) => False) (fun (_ : Unit) _ => True) (aw_Z N0)) (vx_X (fun (_ : Unit) => True) (fun E (_ : Unit) t => E = "java/lang/IllegalArgumentException" ∧ ag_H D N0 (az_Sh g ad zG zO zX zY zA zB zM zI zL zK zN zF zQ) t.heap) (aw_Z N0)) 1 6 (aw_Z N0) := by
  refine vx_ofW (cc := b_Ru_mode) (maxL := 6) (ret := none) (by decide) rfl ?_
  intro p e s m args below meth c s₁ B hml hex hv
  obtain ⟨rfl, ⟨L, hP, hD, hSh⟩, hU⟩ := hv
  have hx := B.exec
  have hb := B.bytes
  have hr := B.returns
  have hG : ∀ w ∈ aw_G, w.before _ s = true := fun w h => atoms_spec (ws := ws_Ru_modeXaV) B.pre w (List.mem_cons_of_mem _ h)
  have hown : s.vm.findClass "RuleCiphers" = some m.cls := findClass_of_methodNamed B.named
  have hlocks := B.notSynchronized
  have hE := hU.1
  have hK := hE.1
  have hN := hE.2.1
  have hS : va_S (aw_Z N0) s.heap s.heap [] := va_S.rf
  have hl := lv_entry ([.ref (aw_r ad 0), .int (nI j), .int k0, .long b] : List Value) (n := 6) (Nat.le_of_ble_eq_true rfl)
  rw [lg_entry_eq]
  generalize (lg_sl ([.ref (aw_r ad 0), .int (nI j), .int k0, .long b] : List Value) ++ List.replicate (6 - (lg_sl ([.ref (aw_r ad 0), .int (nI j), .int k0, .long b] : List Value)).length) Slot.unset).toArray = ls at hl ⊢
  have hl : lv_has ls 6 [(0, .ref (aw_r ad 0)), (1, .int (nI j)), (2, .int k0), (3, .long b)] := hl
  rcases hk with hk | hk
  · refine lv_aload_n hx hb d_Ru_mode_0 rfl (lv_at hl 0 rfl) ?_
    refine lv_iload_n hx hb d_Ru_mode_1 rfl (lv_at hl 1 rfl) ?_
    have he1 := zr_R0 hSh
    refine va_callr (va_runV (As := [.int (nI j)]) (rest := []) ⟨hx, hb, hml, hown, hG⟩ (k_Ru_contextAt1V l D g ad N0 zG zO zX zY zA zB zM zI zL zK zN zF zQ j hj) (aw_wV 1 hG gw_2_47 gw_2_45 gw_0_1 gw_2_46 gw_p_0 rfl rfl hd_Ru_contextAt ⟨Nat.le_of_ble_eq_true rfl, Nat.le_of_ble_eq_true rfl⟩) (ag_qV (va_recv hK hP rfl he1) hP hD hSh hU hS) rfl rfl hl.1 rfl (lv_room (Nat.le_of_ble_eq_true rfl)) d_Ru_mode_2 ⟨Nat.le_of_ble_eq_true rfl, Nat.le_of_ble_eq_true rfl⟩) hS (fun _ _ h => h) (fun _ h => h) ?_
    clear hP hD hSh hS he1
    intro u8 q2 t8 H locs ht _ _ hB _ _ hS
    obtain ⟨eq2, hB⟩ := hB
    obtain ⟨L, hP, hD, hSh⟩ := hB
    rw [ht] at hP
    clear ht
    subst eq2
    refine lv_astore hx hb d_Ru_mode_5 hl (by decide) rfl (fun ls hl => ?_)
    have hl : lv_has ls 6 [(5, .ref (aw_c ad j 0)), (0, .ref (aw_r ad 0)), (1, .int (nI j)), (2, .int k0), (3, .long b)] := hl
    refine lv_iload_n hx hb d_Ru_mode_7 rfl (lv_at hl 3 rfl) ?_
    refine lv_if_lt (tgt := 16) hx hb d_Ru_mode_8 (by decide) (fun _ => ?_) (fun h => absurd hk h)
    obtain ⟨sa3, hsa3⟩ := hU.2.1.2.2 (50, "there is no such mode") (by decide)
    exact ag_thr hx hb hst (names := ["java/lang/RuntimeException", "java/lang/Exception"]) hown (by decide +kernel) (by decide +kernel) (hG _ gw_3_45) (hG _ gw_0_15) hsa3 (aw_hat_Ru_28 hG hE) (by decide +kernel) hU hP hD hSh hS (by rw [hml]; exact hl.1) d_Ru_mode_16 d_Ru_mode_19 d_Ru_mode_20 d_Ru_mode_22 d_Ru_mode_25 (fun x h => (hex x h).elim) (by decide) (Nat.le_of_ble_eq_true rfl) (Nat.le_of_ble_eq_true rfl) (Nat.le_of_ble_eq_true rfl) hlocks (Nat.le_of_ble_eq_true rfl) (Nat.le_of_ble_eq_true rfl)
  · refine lv_aload_n hx hb d_Ru_mode_0 rfl (lv_at hl 0 rfl) ?_
    refine lv_iload_n hx hb d_Ru_mode_1 rfl (lv_at hl 1 rfl) ?_
    have he4 := zr_R0 hSh
    refine va_callr (va_runV (As := [.int (nI j)]) (rest := []) ⟨hx, hb, hml, hown, hG⟩ (k_Ru_contextAt1V l D g ad N0 zG zO zX zY zA zB zM zI zL zK zN zF zQ j hj) (aw_wV 1 hG gw_2_47 gw_2_45 gw_0_1 gw_2_46 gw_p_0 rfl rfl hd_Ru_contextAt ⟨Nat.le_of_ble_eq_true rfl, Nat.le_of_ble_eq_true rfl⟩) (ag_qV (va_recv hK hP rfl he4) hP hD hSh hU hS) rfl rfl hl.1 rfl (lv_room (Nat.le_of_ble_eq_true rfl)) d_Ru_mode_2 ⟨Nat.le_of_ble_eq_true rfl, Nat.le_of_ble_eq_true rfl⟩) hS (fun _ _ h => h) (fun _ h => h) ?_
    clear hP hD hSh hS he4
    intro u8 q5 t8 H locs ht _ _ hB _ _ hS
    obtain ⟨eq5, hB⟩ := hB
    obtain ⟨L, hP, hD, hSh⟩ := hB
    rw [ht] at hP
    clear ht
    subst eq5
    refine lv_astore hx hb d_Ru_mode_5 hl (by decide) rfl (fun ls hl => ?_)
    have hl : lv_has ls 6 [(5, .ref (aw_c ad j 0)), (0, .ref (aw_r ad 0)), (1, .int (nI j)), (2, .int k0), (3, .long b)] := hl
    refine lv_iload_n hx hb d_Ru_mode_7 rfl (lv_at hl 3 rfl) ?_
    refine lv_if_lt (tgt := 16) hx hb d_Ru_mode_8 (by decide) (fun h => absurd h hk.1) (fun _ => ?_)
    refine lv_iload_n hx hb d_Ru_mode_11 rfl (lv_at hl 3 rfl) ?_
    refine lv_iconst (v := nI 5) hx hb d_Ru_mode_12 (by decide +kernel) ?_
    refine lv_icmp_le (tgt := 26) hx hb d_Ru_mode_13 (by decide) (fun h => absurd h (fun h9 => absurd hk.2 (Int32.not_lt.mpr h9))) (fun _ => ?_)
    obtain ⟨sa6, hsa6⟩ := hU.2.1.2.2 (50, "there is no such mode") (by decide)
    exact ag_thr hx hb hst (names := ["java/lang/RuntimeException", "java/lang/Exception"]) hown (by decide +kernel) (by decide +kernel) (hG _ gw_3_45) (hG _ gw_0_15) hsa6 (aw_hat_Ru_28 hG hE) (by decide +kernel) hU hP hD hSh hS (by rw [hml]; exact hl.1) d_Ru_mode_16 d_Ru_mode_19 d_Ru_mode_20 d_Ru_mode_22 d_Ru_mode_25 (fun x h => (hex x h).elim) (by decide) (Nat.le_of_ble_eq_true rfl) (Nat.le_of_ble_eq_true rfl) (Nat.le_of_ble_eq_true rfl) hlocks (Nat.le_of_ble_eq_true rfl) (Nat.le_of_ble_eq_true rfl)
abbrev ws_Ru_modeXsV : List Cond := Cond.code y_Ru_mode b_Ru_mode 6 none :: aw_G
abbrev rm_Ru_modeXsV : Room := { frames := 7, cells := 1, slots := 6, locals := 110 }
set_option maxHeartbeats 4000000 in
set_option maxRecDepth 100000 in
theorem k_Ru_modeXsV (l : Launch) (hst : l.stackTraces = false) (D : va_G) (g : Nat → ClassId) (ad : Nat → Nat) (N0 : Nat) (zG : Nat → Nat × Nat) (zO : Nat → Nat) (zX : Nat → Nat → Int64) (zY : Nat → Nat → Int32) (zA : Nat → Nat → Nat → Int32) (zB : Nat → Int32) (zM : Nat → Nat × Nat) (zI : Nat → Nat → Int32) (zL : Nat → Nat → Int64) (zK : Int32) (zN : Nat) (zF : Int32) (zQ : Int64) (j : Nat) (k : Nat) (b : Int64) (hj : j < 4) (hk : k ≤ 5) (hs : (zG j).1 ≤ 1) : vx_Met l y_Ru_mode ws_Ru_modeXsV rm_Ru_modeXsV (va_Pc ([.ref (aw_r ad 0), .int (nI j), .int (nI k), .long b] : List Value) (ag_B D g N0 (az_Sh g ad zG zO zX zY zA zB zM zI zL zK zN zF zQ))) (va_Qv (fun (_ : Unit) => False) (fun (_ : Unit) _ => True) (aw_Z N0)) (vx_X (fun (_ : Unit) => True) (fun E (_ : Unit) t => E = "java/lang/IllegalStateException" ∧ ag_H D N0 (az_Sh g ad zG zO zX zY zA zB zM zI zL zK zN zF zQ) t.heap) (aw_Z N0)) 1 6 (aw_Z N0) := by
  refine vx_ofW (cc := b_Ru_mode) (maxL := 6) (ret := none) (by decide) rfl ?_
  intro p e s m args below meth c s₁ B hml hex hv
  obtain ⟨rfl, ⟨L, hP, hD, hSh⟩, hU⟩ := hv
  have hx := B.exec
  have hb := B.bytes
  have hr := B.returns
  have hG : ∀ w ∈ aw_G, w.before _ s = true := fun w h => atoms_spec (ws := ws_Ru_modeXsV) B.pre w (List.mem_cons_of_mem _ h)
  have hown : s.vm.findClass "RuleCiphers" = some m.cls := findClass_of_methodNamed B.named
  have hlocks := B.notSynchronized
  have hE := hU.1
  have hK := hE.1
  have hN := hE.2.1
  have hS : va_S (aw_Z N0) s.heap s.heap [] := va_S.rf
  have hl := lv_entry ([.ref (aw_r ad 0), .int (nI j), .int (nI k), .long b] : List Value) (n := 6) (Nat.le_of_ble_eq_true rfl)
  rw [lg_entry_eq]
  generalize (lg_sl ([.ref (aw_r ad 0), .int (nI j), .int (nI k), .long b] : List Value) ++ List.replicate (6 - (lg_sl ([.ref (aw_r ad 0), .int (nI j), .int (nI k), .long b] : List Value)).length) Slot.unset).toArray = ls at hl ⊢
  have hl : lv_has ls 6 [(0, .ref (aw_r ad 0)), (1, .int (nI j)), (2, .int (nI k)), (3, .long b)] := hl
  refine lv_aload_n hx hb d_Ru_mode_0 rfl (lv_at hl 0 rfl) ?_
  refine lv_iload_n hx hb d_Ru_mode_1 rfl (lv_at hl 1 rfl) ?_
  have he1 := zr_R0 hSh
  refine va_callr (va_runV (As := [.int (nI j)]) (rest := []) ⟨hx, hb, hml, hown, hG⟩ (k_Ru_contextAt1V l D g ad N0 zG zO zX zY zA zB zM zI zL zK zN zF zQ j hj) (aw_wV 1 hG gw_2_47 gw_2_45 gw_0_1 gw_2_46 gw_p_0 rfl rfl hd_Ru_contextAt ⟨Nat.le_of_ble_eq_true rfl, Nat.le_of_ble_eq_true rfl⟩) (ag_qV (va_recv hK hP rfl he1) hP hD hSh hU hS) rfl rfl hl.1 rfl (lv_room (Nat.le_of_ble_eq_true rfl)) d_Ru_mode_2 ⟨Nat.le_of_ble_eq_true rfl, Nat.le_of_ble_eq_true rfl⟩) hS (fun _ _ h => h) (fun _ h => h) ?_
  clear hP hD hSh hS he1
  intro u8 q2 t8 H locs ht _ _ hB _ _ hS
  obtain ⟨eq2, hB⟩ := hB
  obtain ⟨L, hP, hD, hSh⟩ := hB
  rw [ht] at hP
  clear ht
  subst eq2
  refine lv_astore hx hb d_Ru_mode_5 hl (by decide) rfl (fun ls hl => ?_)
  have hl : lv_has ls 6 [(5, .ref (aw_c ad j 0)), (0, .ref (aw_r ad 0)), (1, .int (nI j)), (2, .int (nI k)), (3, .long b)] := hl
  refine lv_iload_n hx hb d_Ru_mode_7 rfl (lv_at hl 3 rfl) ?_
  refine lv_if_lt (tgt := 16) hx hb d_Ru_mode_8 (by decide) (fun h => absurd h (show ¬ nI k < nI 0 from fun h9 => absurd ((nI_ltI (by omega) (by omega)).mp h9) (by omega))) (fun _ => ?_)
  refine lv_iload_n hx hb d_Ru_mode_11 rfl (lv_at hl 3 rfl) ?_
  refine lv_iconst (v := nI 5) hx hb d_Ru_mode_12 (by decide +kernel) ?_
  refine lv_icmp_le (tgt := 26) hx hb d_Ru_mode_13 (by decide) (fun _ => ?_) (fun h => absurd (show nI k ≤ nI 5 from (nI_leI (by omega) (by omega)).mpr (by omega)) h)
  refine lv_aload hx hb d_Ru_mode_26 (lv_at hl 0 rfl) ?_
  refine vx_callv (vx_runS (As := [.ref (aw_c ad j 0)]) (rest := []) ⟨hx, hb, hml, hown, hG⟩ (k_Ru_requireKeyXV l hst D g ad N0 zG zO zX zY zA zB zM zI zL zK zN zF zQ j hj hs) (aw_wS 1 hG gw_5_30 gw_5_28 gw_0_1 gw_5_29 rfl rfl hd_Ru_requireKey ⟨Nat.le_of_ble_eq_true rfl, Nat.le_of_ble_eq_true rfl⟩) (ag_qS hP hD hSh hU hS) rfl rfl hl.1 rfl (lv_room (Nat.le_of_ble_eq_true rfl)) d_Ru_mode_28 ⟨Nat.le_of_ble_eq_true rfl, Nat.le_of_ble_eq_true rfl⟩) hS (fun _ _ h => h) (fun _ h => h) (fun _ _ h => h) (fun E ce q9 u t H locs ht _ _ hBX _ _ hS hce hcv hcl => ?_) (fun u t H locs _ _ hF _ _ _ _ => hF.elim)
  obtain ⟨rfl, L, hP, hD, hSh⟩ := hBX
  rw [ht] at hP
  exact vx_out (fun x h => (hex x h).elim) hlocks hce hcv hcl (fun t9 ht9 _ => ⟨(), trivial, ⟨rfl, ag_Hr ht9 hP hD hSh⟩, hS.F ht9⟩) hS.2.2 (Nat.le_of_ble_eq_true rfl) (Nat.le_of_ble_eq_true rfl)
noncomputable def v_Ru_free1V_zG (zG : Nat → Nat × Nat) (j : Nat) : Nat → Nat × Nat := aw_g1 zG j 0
abbrev ws_Ru_free1V : List Cond := Cond.code y_Ru_free b_Ru_free 2 none :: aw_G
abbrev rm_Ru_free1V : Room := { frames := 1, cells := 0, slots := 0, locals := 21 }
set_option maxHeartbeats 4000000 in
set_option maxRecDepth 100000 in
theorem k_Ru_free1V (l : Launch) (D : va_G) (g : Nat → ClassId) (ad : Nat → Nat) (N0 : Nat) (zG : Nat → Nat × Nat) (zO : Nat → Nat) (zX : Nat → Nat → Int64) (zY : Nat → Nat → Int32) (zA : Nat → Nat → Nat → Int32) (zB : Nat → Int32) (zM : Nat → Nat × Nat) (zI : Nat → Nat → Int32) (zL : Nat → Nat → Int64) (zK : Int32) (zN : Nat) (zF : Int32) (zQ : Int64) (j : Nat) (hj : j < 4) : Met l y_Ru_free ws_Ru_free1V rm_Ru_free1V (va_Pc ([.ref (aw_r ad 0), .int (nI j)] : List Value) (ag_B D g N0 (az_Sh g ad zG zO zX zY zA zB zM zI zL zK zN zF zQ))) (va_Qv (fun (_ : Unit) => True) (fun (_ : Unit) t => ag_H D N0 (az_Sh g ad (v_Ru_free1V_zG zG j) zO zX zY zA zB zM zI zL zK zN zF zQ) t.heap) (aw_Z N0)) 0 0 (aw_Z N0) := by
  refine Met.ofW (cc := b_Ru_free) (maxL := 2) (ret := none) (by decide) rfl ?_
  intro p e s m args below meth c s₁ B hml hv
  obtain ⟨rfl, ⟨L, hP, hD, hSh⟩, hU⟩ := hv
  have hx := B.exec
  have hb := B.bytes
  have hr := B.returns
  have hG : ∀ w ∈ aw_G, w.before _ s = true := fun w h => atoms_spec (ws := ws_Ru_free1V) B.pre w (List.mem_cons_of_mem _ h)
  have hown : s.vm.findClass "RuleCiphers" = some m.cls := findClass_of_methodNamed B.named
  have hlocks := B.notSynchronized
  have hE := hU.1
  have hK := hE.1
  have hN := hE.2.1
  have hS : va_S (aw_Z N0) s.heap s.heap [] := va_S.rf
  have hl := lv_entry ([.ref (aw_r ad 0), .int (nI j)] : List Value) (n := 2) (Nat.le_of_ble_eq_true rfl)
  rw [lg_entry_eq]
  generalize (lg_sl ([.ref (aw_r ad 0), .int (nI j)] : List Value) ++ List.replicate (2 - (lg_sl ([.ref (aw_r ad 0), .int (nI j)] : List Value)).length) Slot.unset).toArray = ls at hl ⊢
  have hl : lv_has ls 2 [(0, .ref (aw_r ad 0)), (1, .int (nI j))] := hl
  refine lv_aload_n hx hb d_Ru_free_0 rfl (lv_at hl 0 rfl) ?_
  refine lv_iload_n hx hb d_Ru_free_1 rfl (lv_at hl 1 rfl) ?_
  have he1 := zr_R0 hSh
  refine va_callr (va_runV (As := [.int (nI j)]) (rest := []) ⟨hx, hb, hml, hown, hG⟩ (k_Ru_contextAt1V l D g ad N0 zG zO zX zY zA zB zM zI zL zK zN zF zQ j hj) (aw_wV 1 hG gw_2_47 gw_2_45 gw_0_1 gw_2_46 gw_p_0 rfl rfl hd_Ru_contextAt ⟨Nat.le_of_ble_eq_true rfl, Nat.le_of_ble_eq_true rfl⟩) (ag_qV (va_recv hK hP rfl he1) hP hD hSh hU hS) rfl rfl hl.1 rfl (lv_room (Nat.le_of_ble_eq_true rfl)) d_Ru_free_2 ⟨Nat.le_of_ble_eq_true rfl, Nat.le_of_ble_eq_true rfl⟩) hS (fun _ _ h => h) (fun _ h => h) ?_
  clear hP hD hSh hS he1
  intro u8 q2 t8 H locs ht _ _ hB _ _ hS
  obtain ⟨eq2, hB⟩ := hB
  obtain ⟨L, hP, hD, hSh⟩ := hB
  rw [ht] at hP
  clear ht
  subst eq2
  refine lv_iconst (v := nI 0) hx hb d_Ru_free_5 (by decide +kernel) ?_
  obtain ⟨hsd4, he3⟩ := zr_C0 hSh hj
  have hg := hSh.2.2.2.2.1 j hj
  refine ag_put (v := .int (nI 0)) (ty := .int) (C := R_Cx) (T := T_Cx) (N := 10) hx hb hG in_Cx t_Cx t_Cx_ok n_Cx hown hK hP hD hS (3 + 16 * j + 0) he3 rfl 2 (by decide) (hG _ gw_1_57) (fun _ h => h) rfl (by decide +kernel) rfl rfl (Nat.le_of_ble_eq_true rfl) d_Ru_free_6 (zw_G1 hSh hj 0 (by omega)) ?_
  clear hP hD hSh hS he3
  intro H locs L hP hD hSh hS
  obtain ⟨zG5, ezG5⟩ : ∃ z : Nat → Nat × Nat, aw_g1 zG j 0 = z := ⟨_, rfl⟩
  rw [ezG5] at hSh
  have gzG : zG5 = v_Ru_free1V_zG zG j := by subst ezG5; rfl
  have hSh : az_Sh g ad (v_Ru_free1V_zG zG j) zO zX zY zA zB zM zI zL zK zN zF zQ L := by rw [← gzG]; exact hSh
  exact W.vret hx hb hr (fun t ht hW => ⟨⟨(), rfl, trivial, ag_Hr ht hP hD hSh⟩, hS.F ht⟩) hS.2.2 d_Ru_free_9
abbrev ws_Ru_freeXcV : List Cond := Cond.code y_Ru_free b_Ru_free 2 none :: aw_G
abbrev rm_Ru_freeXcV : Room := { frames := 7, cells := 1, slots := 6, locals := 111 }
set_option maxHeartbeats 4000000 in
set_option maxRecDepth 100000 in
theorem k_Ru_freeXcV (l : Launch) (hst : l.stackTraces = false) (D : va_G) (g : Nat → ClassId) (ad : Nat → Nat) (N0 : Nat) (zG : Nat → Nat × Nat) (zO : Nat → Nat) (zX : Nat → Nat → Int64) (zY : Nat → Nat → Int32) (zA : Nat → Nat → Nat → Int32) (zB : Nat → Int32) (zM : Nat → Nat × Nat) (zI : Nat → Nat → Int32) (zL : Nat → Nat → Int64) (zK : Int32) (zN : Nat) (zF : Int32) (zQ : Int64) (c0 : Int32) (hc : c0 < 0 ∨ (¬ c0 < 0 ∧ ¬ c0 < nI 4)) : vx_Met l y_Ru_free ws_Ru_freeXcV rm_Ru_freeXcV (va_Pc ([.ref (aw_r ad 0), .int c0] : List Value) (ag_B D g N0 (az_Sh g ad zG zO zX zY zA zB zM zI zL zK zN zF zQ))) (va_Qv (fun (_ : Unit) => False) (fun (_ : Unit) _ => True) (aw_Z N0)) (vx_X (fun (_ : Unit) => True) (fun E (_ : Unit) t => E = "java/lang/IndexOutOfBoundsException" ∧ ag_H D N0 (az_Sh g ad zG zO zX zY zA zB zM zI zL zK zN zF zQ) t.heap) (aw_Z N0)) 1 6 (aw_Z N0) := by
  refine vx_ofW (cc := b_Ru_free) (maxL := 2) (ret := none) (by decide) rfl ?_
  intro p e s m args below meth c s₁ B hml hex hv
  obtain ⟨rfl, ⟨L, hP, hD, hSh⟩, hU⟩ := hv
  have hx := B.exec
  have hb := B.bytes
  have hr := B.returns
  have hG : ∀ w ∈ aw_G, w.before _ s = true := fun w h => atoms_spec (ws := ws_Ru_freeXcV) B.pre w (List.mem_cons_of_mem _ h)
  have hown : s.vm.findClass "RuleCiphers" = some m.cls := findClass_of_methodNamed B.named
  have hlocks := B.notSynchronized
  have hE := hU.1
  have hK := hE.1
  have hN := hE.2.1
  have hS : va_S (aw_Z N0) s.heap s.heap [] := va_S.rf
  have hl := lv_entry ([.ref (aw_r ad 0), .int c0] : List Value) (n := 2) (Nat.le_of_ble_eq_true rfl)
  rw [lg_entry_eq]
  generalize (lg_sl ([.ref (aw_r ad 0), .int c0] : List Value) ++ List.replicate (2 - (lg_sl ([.ref (aw_r ad 0), .int c0] : List Value)).length) Slot.unset).toArray = ls at hl ⊢
  have hl : lv_has ls 2 [(0, .ref (aw_r ad 0)), (1, .int c0)] := hl
  refine lv_aload_n hx hb d_Ru_free_0 rfl (lv_at hl 0 rfl) ?_
  refine lv_iload_n hx hb d_Ru_free_1 rfl (lv_at hl 1 rfl) ?_
  have he1 := zr_R0 hSh
  refine vx_callv (vx_runV (As := [.int c0]) (rest := []) ⟨hx, hb, hml, hown, hG⟩ (k_Ru_contextAtXV l hst D g ad N0 zG zO zX zY zA zB zM zI zL zK zN zF zQ c0 hc) (aw_wV 1 hG gw_2_47 gw_2_45 gw_0_1 gw_2_46 gw_p_0 rfl rfl hd_Ru_contextAt ⟨Nat.le_of_ble_eq_true rfl, Nat.le_of_ble_eq_true rfl⟩) (ag_qV (va_recv hK hP rfl he1) hP hD hSh hU hS) rfl rfl hl.1 rfl (lv_room (Nat.le_of_ble_eq_true rfl)) d_Ru_free_2 ⟨Nat.le_of_ble_eq_true rfl, Nat.le_of_ble_eq_true rfl⟩) hS (fun _ _ h => h) (fun _ h => h) (fun _ _ h => h) (fun E ce q9 u t H locs ht _ _ hBX _ _ hS hce hcv hcl => ?_) (fun u t H locs _ _ hF _ _ _ _ => hF.elim)
  obtain ⟨rfl, L, hP, hD, hSh⟩ := hBX
  rw [ht] at hP
  exact vx_out (fun x h => (hex x h).elim) hlocks hce hcv hcl (fun t9 ht9 _ => ⟨(), trivial, ⟨rfl, ag_Hr ht9 hP hD hSh⟩, hS.F ht9⟩) hS.2.2 (Nat.le_of_ble_eq_true rfl) (Nat.le_of_ble_eq_true rfl)
noncomputable def v_Ru_stage1V (zG : Nat → Nat × Nat) (j : Nat) : Int32 := nI (zG j).1
abbrev ws_Ru_stage1V : List Cond := Cond.code y_Ru_stage b_Ru_stage 2 (some .int) :: aw_G
abbrev rm_Ru_stage1V : Room := { frames := 1, cells := 0, slots := 0, locals := 21 }
set_option maxHeartbeats 4000000 in
set_option maxRecDepth 100000 in
theorem k_Ru_stage1V (l : Launch) (D : va_G) (g : Nat → ClassId) (ad : Nat → Nat) (N0 : Nat) (zG : Nat → Nat × Nat) (zO : Nat → Nat) (zX : Nat → Nat → Int64) (zY : Nat → Nat → Int32) (zA : Nat → Nat → Nat → Int32) (zB : Nat → Int32) (zM : Nat → Nat × Nat) (zI : Nat → Nat → Int32) (zL : Nat → Nat → Int64) (zK : Int32) (zN : Nat) (zF : Int32) (zQ : Int64) (j : Nat) (hj : j < 4) : Met l y_Ru_stage ws_Ru_stage1V rm_Ru_stage1V (va_Pc ([.ref (aw_r ad 0), .int (nI j)] : List Value) (ag_B D g N0 (az_Sh g ad zG zO zX zY zA zB zM zI zL zK zN zF zQ))) (va_Qi (fun r (_ : Unit) => r = v_Ru_stage1V zG j) (fun (_ : Unit) t => ag_H D N0 (az_Sh g ad zG zO zX zY zA zB zM zI zL zK zN zF zQ) t.heap) (aw_Z N0)) 0 0 (aw_Z N0) := by
  refine Met.ofW (cc := b_Ru_stage) (maxL := 2) (ret := (some .int)) (by decide) rfl ?_
  intro p e s m args below meth c s₁ B hml hv
  obtain ⟨rfl, ⟨L, hP, hD, hSh⟩, hU⟩ := hv
  have hx := B.exec
  have hb := B.bytes
  have hr := B.returns
  have hG : ∀ w ∈ aw_G, w.before _ s = true := fun w h => atoms_spec (ws := ws_Ru_stage1V) B.pre w (List.mem_cons_of_mem _ h)
  have hown : s.vm.findClass "RuleCiphers" = some m.cls := findClass_of_methodNamed B.named
  have hlocks := B.notSynchronized
  have hE := hU.1
  have hK := hE.1
  have hN := hE.2.1
  have hS : va_S (aw_Z N0) s.heap s.heap [] := va_S.rf
  have hl := lv_entry ([.ref (aw_r ad 0), .int (nI j)] : List Value) (n := 2) (Nat.le_of_ble_eq_true rfl)
  rw [lg_entry_eq]
  generalize (lg_sl ([.ref (aw_r ad 0), .int (nI j)] : List Value) ++ List.replicate (2 - (lg_sl ([.ref (aw_r ad 0), .int (nI j)] : List Value)).length) Slot.unset).toArray = ls at hl ⊢
  have hl : lv_has ls 2 [(0, .ref (aw_r ad 0)), (1, .int (nI j))] := hl
  refine lv_aload_n hx hb d_Ru_stage_0 rfl (lv_at hl 0 rfl) ?_
  refine lv_iload_n hx hb d_Ru_stage_1 rfl (lv_at hl 1 rfl) ?_
  have he1 := zr_R0 hSh
  refine va_callr (va_runV (As := [.int (nI j)]) (rest := []) ⟨hx, hb, hml, hown, hG⟩ (k_Ru_contextAt1V l D g ad N0 zG zO zX zY zA zB zM zI zL zK zN zF zQ j hj) (aw_wV 1 hG gw_2_47 gw_2_45 gw_0_1 gw_2_46 gw_p_0 rfl rfl hd_Ru_contextAt ⟨Nat.le_of_ble_eq_true rfl, Nat.le_of_ble_eq_true rfl⟩) (ag_qV (va_recv hK hP rfl he1) hP hD hSh hU hS) rfl rfl hl.1 rfl (lv_room (Nat.le_of_ble_eq_true rfl)) d_Ru_stage_2 ⟨Nat.le_of_ble_eq_true rfl, Nat.le_of_ble_eq_true rfl⟩) hS (fun _ _ h => h) (fun _ h => h) ?_
  clear hP hD hSh hS he1
  intro u8 q2 t8 H locs ht _ _ hB _ _ hS
  obtain ⟨eq2, hB⟩ := hB
  obtain ⟨L, hP, hD, hSh⟩ := hB
  rw [ht] at hP
  clear ht
  subst eq2
  obtain ⟨hsd4, he3⟩ := zr_C0 hSh hj
  have hg := hSh.2.2.2.2.1 j hj
  refine va_get (C := R_Cx) (T := T_Cx) (N := 10) (v := .int (nI ((zG j).1))) hx hb hG in_Cx hown hK hP (3 + 16 * j + 0) he3 rfl 2 (by decide) (hG _ gw_1_57) (fun _ h => h) rfl d_Ru_stage_5 ?_
  clear he3
  exact W.iret hx hb hr (fun t ht hW => ⟨⟨_, (), rfl, (by rfl), ag_Hr ht hP hD hSh⟩, hS.F ht⟩) hS.2.2 d_Ru_stage_8
abbrev ws_Ru_stageXcV : List Cond := Cond.code y_Ru_stage b_Ru_stage 2 (some .int) :: aw_G
abbrev rm_Ru_stageXcV : Room := { frames := 7, cells := 1, slots := 6, locals := 111 }
set_option maxHeartbeats 4000000 in
set_option maxRecDepth 100000 in
theorem k_Ru_stageXcV (l : Launch) (hst : l.stackTraces = false) (D : va_G) (g : Nat → ClassId) (ad : Nat → Nat) (N0 : Nat) (zG : Nat → Nat × Nat) (zO : Nat → Nat) (zX : Nat → Nat → Int64) (zY : Nat → Nat → Int32) (zA : Nat → Nat → Nat → Int32) (zB : Nat → Int32) (zM : Nat → Nat × Nat) (zI : Nat → Nat → Int32) (zL : Nat → Nat → Int64) (zK : Int32) (zN : Nat) (zF : Int32) (zQ : Int64) (c0 : Int32) (hc : c0 < 0 ∨ (¬ c0 < 0 ∧ ¬ c0 < nI 4)) : vx_Met l y_Ru_stage ws_Ru_stageXcV rm_Ru_stageXcV (va_Pc ([.ref (aw_r ad 0), .int c0] : List Value) (ag_B D g N0 (az_Sh g ad zG zO zX zY zA zB zM zI zL zK zN zF zQ))) (va_Qv (fun (_ : Unit) => False) (fun (_ : Unit) _ => True) (aw_Z N0)) (vx_X (fun (_ : Unit) => True) (fun E (_ : Unit) t => E = "java/lang/IndexOutOfBoundsException" ∧ ag_H D N0 (az_Sh g ad zG zO zX zY zA zB zM zI zL zK zN zF zQ) t.heap) (aw_Z N0)) 1 6 (aw_Z N0) := by
  refine vx_ofW (cc := b_Ru_stage) (maxL := 2) (ret := (some .int)) (by decide) rfl ?_
  intro p e s m args below meth c s₁ B hml hex hv
  obtain ⟨rfl, ⟨L, hP, hD, hSh⟩, hU⟩ := hv
  have hx := B.exec
  have hb := B.bytes
  have hr := B.returns
  have hG : ∀ w ∈ aw_G, w.before _ s = true := fun w h => atoms_spec (ws := ws_Ru_stageXcV) B.pre w (List.mem_cons_of_mem _ h)
  have hown : s.vm.findClass "RuleCiphers" = some m.cls := findClass_of_methodNamed B.named
  have hlocks := B.notSynchronized
  have hE := hU.1
  have hK := hE.1
  have hN := hE.2.1
  have hS : va_S (aw_Z N0) s.heap s.heap [] := va_S.rf
  have hl := lv_entry ([.ref (aw_r ad 0), .int c0] : List Value) (n := 2) (Nat.le_of_ble_eq_true rfl)
  rw [lg_entry_eq]
  generalize (lg_sl ([.ref (aw_r ad 0), .int c0] : List Value) ++ List.replicate (2 - (lg_sl ([.ref (aw_r ad 0), .int c0] : List Value)).length) Slot.unset).toArray = ls at hl ⊢
  have hl : lv_has ls 2 [(0, .ref (aw_r ad 0)), (1, .int c0)] := hl
  refine lv_aload_n hx hb d_Ru_stage_0 rfl (lv_at hl 0 rfl) ?_
  refine lv_iload_n hx hb d_Ru_stage_1 rfl (lv_at hl 1 rfl) ?_
  have he1 := zr_R0 hSh
  refine vx_callv (vx_runV (As := [.int c0]) (rest := []) ⟨hx, hb, hml, hown, hG⟩ (k_Ru_contextAtXV l hst D g ad N0 zG zO zX zY zA zB zM zI zL zK zN zF zQ c0 hc) (aw_wV 1 hG gw_2_47 gw_2_45 gw_0_1 gw_2_46 gw_p_0 rfl rfl hd_Ru_contextAt ⟨Nat.le_of_ble_eq_true rfl, Nat.le_of_ble_eq_true rfl⟩) (ag_qV (va_recv hK hP rfl he1) hP hD hSh hU hS) rfl rfl hl.1 rfl (lv_room (Nat.le_of_ble_eq_true rfl)) d_Ru_stage_2 ⟨Nat.le_of_ble_eq_true rfl, Nat.le_of_ble_eq_true rfl⟩) hS (fun _ _ h => h) (fun _ h => h) (fun _ _ h => h) (fun E ce q9 u t H locs ht _ _ hBX _ _ hS hce hcv hcl => ?_) (fun u t H locs _ _ hF _ _ _ _ => hF.elim)
  obtain ⟨rfl, L, hP, hD, hSh⟩ := hBX
  rw [ht] at hP
  exact vx_out (fun x h => (hex x h).elim) hlocks hce hcv hcl (fun t9 ht9 _ => ⟨(), trivial, ⟨rfl, ag_Hr ht9 hP hD hSh⟩, hS.F ht9⟩) hS.2.2 (Nat.le_of_ble_eq_true rfl) (Nat.le_of_ble_eq_true rfl)
noncomputable def v_Ru_block1V (zO : Nat → Nat) (zA : Nat → Nat → Nat → Int32) (j : Nat) (bk : Int32) (b : Int64) : Int64 := v_Ci_onOrBackV zA j (zO j) bk b
abbrev ws_Ru_block1V : List Cond := Cond.code y_Ru_block b_Ru_block 6 (some .long) :: aw_G
abbrev rm_Ru_block1V : Room := { frames := 4, cells := 0, slots := 0, locals := 102 }
set_option maxHeartbeats 4000000 in
set_option maxRecDepth 100000 in
theorem k_Ru_block1V (l : Launch) (D : va_G) (g : Nat → ClassId) (ad : Nat → Nat) (N0 : Nat) (zG : Nat → Nat × Nat) (zO : Nat → Nat) (zX : Nat → Nat → Int64) (zY : Nat → Nat → Int32) (zA : Nat → Nat → Nat → Int32) (zB : Nat → Int32) (zM : Nat → Nat × Nat) (zI : Nat → Nat → Int32) (zL : Nat → Nat → Int64) (zK : Int32) (zN : Nat) (zF : Int32) (zQ : Int64) (j : Nat) (bk : Int32) (b : Int64) (hj : j < 4) (hs : 2 ≤ (zG j).1) : Met l y_Ru_block ws_Ru_block1V rm_Ru_block1V (va_Pc ([.ref (aw_r ad 0), .int (nI j), .int bk, .long b] : List Value) (ag_B D g N0 (az_Sh g ad zG zO zX zY zA zB zM zI zL zK zN zF zQ))) (va_Ql (fun r (_ : Unit) => r = v_Ru_block1V zO zA j bk b) (fun (_ : Unit) t => ag_H D N0 (az_Sh g ad zG zO zX zY zA zB zM zI zL zK zN zF zQ) t.heap) (aw_Z N0)) 0 0 (aw_Z N0) := by
  refine Met.ofW (cc := b_Ru_block) (maxL := 6) (ret := (some .long)) (by decide) rfl ?_
  intro p e s m args below meth c s₁ B hml hv
  obtain ⟨rfl, ⟨L, hP, hD, hSh⟩, hU⟩ := hv
  have hx := B.exec
  have hb := B.bytes
  have hr := B.returns
  have hG : ∀ w ∈ aw_G, w.before _ s = true := fun w h => atoms_spec (ws := ws_Ru_block1V) B.pre w (List.mem_cons_of_mem _ h)
  have hown : s.vm.findClass "RuleCiphers" = some m.cls := findClass_of_methodNamed B.named
  have hlocks := B.notSynchronized
  have hE := hU.1
  have hK := hE.1
  have hN := hE.2.1
  have hS : va_S (aw_Z N0) s.heap s.heap [] := va_S.rf
  have hl := lv_entry ([.ref (aw_r ad 0), .int (nI j), .int bk, .long b] : List Value) (n := 6) (Nat.le_of_ble_eq_true rfl)
  rw [lg_entry_eq]
  generalize (lg_sl ([.ref (aw_r ad 0), .int (nI j), .int bk, .long b] : List Value) ++ List.replicate (6 - (lg_sl ([.ref (aw_r ad 0), .int (nI j), .int bk, .long b] : List Value)).length) Slot.unset).toArray = ls at hl ⊢
  have hl : lv_has ls 6 [(0, .ref (aw_r ad 0)), (1, .int (nI j)), (2, .int bk), (3, .long b)] := hl
  refine lv_aload_n hx hb d_Ru_block_0 rfl (lv_at hl 0 rfl) ?_
  refine lv_iload_n hx hb d_Ru_block_1 rfl (lv_at hl 1 rfl) ?_
  have he1 := zr_R0 hSh
  refine va_callr (va_runV (As := [.int (nI j)]) (rest := []) ⟨hx, hb, hml, hown, hG⟩ (k_Ru_contextAt1V l D g ad N0 zG zO zX zY zA zB zM zI zL zK zN zF zQ j hj) (aw_wV 1 hG gw_2_47 gw_2_45 gw_0_1 gw_2_46 gw_p_0 rfl rfl hd_Ru_contextAt ⟨Nat.le_of_ble_eq_true rfl, Nat.le_of_ble_eq_true rfl⟩) (ag_qV (va_recv hK hP rfl he1) hP hD hSh hU hS) rfl rfl hl.1 rfl (lv_room (Nat.le_of_ble_eq_true rfl)) d_Ru_block_2 ⟨Nat.le_of_ble_eq_true rfl, Nat.le_of_ble_eq_true rfl⟩) hS (fun _ _ h => h) (fun _ h => h) ?_
  clear hP hD hSh hS he1
  intro u8 q2 t8 H locs ht _ _ hB _ _ hS
  obtain ⟨eq2, hB⟩ := hB
  obtain ⟨L, hP, hD, hSh⟩ := hB
  rw [ht] at hP
  clear ht
  subst eq2
  refine lv_astore hx hb d_Ru_block_5 hl (by decide) rfl (fun ls hl => ?_)
  have hl : lv_has ls 6 [(5, .ref (aw_c ad j 0)), (0, .ref (aw_r ad 0)), (1, .int (nI j)), (2, .int bk), (3, .long b)] := hl
  refine lv_aload hx hb d_Ru_block_7 (lv_at hl 0 rfl) ?_
  refine va_callv (va_runS (As := [.ref (aw_c ad j 0)]) (rest := []) ⟨hx, hb, hml, hown, hG⟩ (k_Ru_requireKey1V l D g ad N0 zG zO zX zY zA zB zM zI zL zK zN zF zQ j hj hs) (aw_wS 1 hG gw_5_30 gw_5_28 gw_0_1 gw_5_29 rfl rfl hd_Ru_requireKey ⟨Nat.le_of_ble_eq_true rfl, Nat.le_of_ble_eq_true rfl⟩) (ag_qS hP hD hSh hU hS) rfl rfl hl.1 rfl (lv_room (Nat.le_of_ble_eq_true rfl)) d_Ru_block_9 ⟨Nat.le_of_ble_eq_true rfl, Nat.le_of_ble_eq_true rfl⟩) hS (fun _ _ h => h) (fun _ h => h) ?_
  clear hP hD hSh hS
  intro u8 t8 H locs ht _ _ hB _ _ hS
  obtain ⟨L, hP, hD, hSh⟩ := hB
  rw [ht] at hP
  clear ht
  refine lv_aload hx hb d_Ru_block_12 (lv_at hl 0 rfl) ?_
  obtain ⟨hsd4, he3⟩ := zr_C0 hSh hj
  have hg := hSh.2.2.2.2.1 j hj
  refine va_get (C := R_Cx) (T := T_Cx) (N := 10) (v := .ref (aw_c ad j (zO j))) hx hb hG in_Cx hown hK hP (3 + 16 * j + 0) he3 rfl 4 (by decide) (hG _ gw_2_1) (fun _ h => h) rfl d_Ru_block_14 ?_
  clear he3
  refine lv_iload_n hx hb d_Ru_block_17 rfl (lv_at hl 3 rfl) ?_
  refine lv_lload_n hx hb d_Ru_block_18 rfl (lv_at hl 4 rfl) ?_
  have hrun5 : va_Run p l e (headSpec ws_Ru_block1V rm_Ru_block1V).room s m ([.ref (aw_r ad 0), .int (nI j), .int bk, .long b] : List Value).toArray below meth c H locs 0 0 0 0 (F0 m 19 ls [.long b, .int bk, .ref (aw_c ad j (zO j))]) [] (va_Ql (fun r (_ : Unit) => r = v_Ci_onOrBackV zA j (zO j) bk b) (fun (_ : Unit) t => ag_H D N0 (az_Sh g ad zG zO zX zY zA zB zM zI zL zK zN zF zQ) t.heap) (aw_Z N0) ([.ref (aw_c ad j (zO j)), .int bk, .long b] : List Value).toArray) (aw_Z N0) := by
    rcases hsd4 with hq6 | hq6 | hq6 | hq6 | hq6
    · rw [hq6]
      have he7 := zr_C2 hSh hj
      exact va_runU (As := [.int bk, .long b]) (rest := []) ⟨hx, hb, hml, hown, hG⟩ (k_Ci_onOrBackV l D g ad N0 zG zO zX zY zA zB zM zI zL zK zN zF zQ j 2 bk b hj (by unfold aw_cof; omega)) (aw_wU (owner := "RuleCiphers$Cipher") 2 hG gw_6_8 gw_6_0 gw_6_2 gw_6_4 gw_6_1 gw_0_3 rfl rfl rfl hd_Ci_onOrBack ⟨Nat.le_of_ble_eq_true rfl, Nat.le_of_ble_eq_true rfl⟩) (ag_qV (va_recv hK hP rfl he7) hP hD hSh hU hS) rfl rfl hl.1 rfl (lv_room (Nat.le_of_ble_eq_true rfl)) d_Ru_block_19 ⟨Nat.le_of_ble_eq_true rfl, Nat.le_of_ble_eq_true rfl⟩
    · rw [hq6]
      have he8 := zr_C5 hSh hj
      exact va_runU (As := [.int bk, .long b]) (rest := []) ⟨hx, hb, hml, hown, hG⟩ (k_Ci_onOrBackV l D g ad N0 zG zO zX zY zA zB zM zI zL zK zN zF zQ j 5 bk b hj (by unfold aw_cof; omega)) (aw_wU (owner := "RuleCiphers$Cipher") 2 hG gw_6_8 gw_6_0 gw_6_2 gw_6_7 gw_6_1 gw_0_3 rfl rfl rfl hd_Ci_onOrBack ⟨Nat.le_of_ble_eq_true rfl, Nat.le_of_ble_eq_true rfl⟩) (ag_qV (va_recv hK hP rfl he8) hP hD hSh hU hS) rfl rfl hl.1 rfl (lv_room (Nat.le_of_ble_eq_true rfl)) d_Ru_block_19 ⟨Nat.le_of_ble_eq_true rfl, Nat.le_of_ble_eq_true rfl⟩
    · rw [hq6]
      have he9 := zr_C7 hSh hj
      exact va_runU (As := [.int bk, .long b]) (rest := []) ⟨hx, hb, hml, hown, hG⟩ (k_Ci_onOrBackV l D g ad N0 zG zO zX zY zA zB zM zI zL zK zN zF zQ j 7 bk b hj (by unfold aw_cof; omega)) (aw_wU (owner := "RuleCiphers$Cipher") 2 hG gw_6_8 gw_6_0 gw_6_2 gw_6_6 gw_6_1 gw_0_3 rfl rfl rfl hd_Ci_onOrBack ⟨Nat.le_of_ble_eq_true rfl, Nat.le_of_ble_eq_true rfl⟩) (ag_qV (va_recv hK hP rfl he9) hP hD hSh hU hS) rfl rfl hl.1 rfl (lv_room (Nat.le_of_ble_eq_true rfl)) d_Ru_block_19 ⟨Nat.le_of_ble_eq_true rfl, Nat.le_of_ble_eq_true rfl⟩
    · rw [hq6]
      have he10 := zr_C10 hSh hj
      exact va_runU (As := [.int bk, .long b]) (rest := []) ⟨hx, hb, hml, hown, hG⟩ (k_Ci_onOrBackV l D g ad N0 zG zO zX zY zA zB zM zI zL zK zN zF zQ j 10 bk b hj (by unfold aw_cof; omega)) (aw_wU (owner := "RuleCiphers$Cipher") 2 hG gw_6_8 gw_6_0 gw_6_2 gw_6_5 gw_6_1 gw_0_3 rfl rfl rfl hd_Ci_onOrBack ⟨Nat.le_of_ble_eq_true rfl, Nat.le_of_ble_eq_true rfl⟩) (ag_qV (va_recv hK hP rfl he10) hP hD hSh hU hS) rfl rfl hl.1 rfl (lv_room (Nat.le_of_ble_eq_true rfl)) d_Ru_block_19 ⟨Nat.le_of_ble_eq_true rfl, Nat.le_of_ble_eq_true rfl⟩
    · rw [hq6]
      have he11 := zr_C12 hSh hj
      exact va_runU (As := [.int bk, .long b]) (rest := []) ⟨hx, hb, hml, hown, hG⟩ (k_Ci_onOrBackV l D g ad N0 zG zO zX zY zA zB zM zI zL zK zN zF zQ j 12 bk b hj (by unfold aw_cof; omega)) (aw_wU (owner := "RuleCiphers$Cipher") 2 hG gw_6_8 gw_6_0 gw_6_2 gw_6_3 gw_6_1 gw_0_3 rfl rfl rfl hd_Ci_onOrBack ⟨Nat.le_of_ble_eq_true rfl, Nat.le_of_ble_eq_true rfl⟩) (ag_qV (va_recv hK hP rfl he11) hP hD hSh hU hS) rfl rfl hl.1 rfl (lv_room (Nat.le_of_ble_eq_true rfl)) d_Ru_block_19 ⟨Nat.le_of_ble_eq_true rfl, Nat.le_of_ble_eq_true rfl⟩
  refine va_calll hrun5 hS (fun _ _ h => h) (fun _ h => h) ?_
  clear hP hD hSh hS hrun5
  intro y12 u8 t8 H locs ht _ ey12 hB _ _ hS
  obtain ⟨L, hP, hD, hSh⟩ := hB
  rw [ht] at hP
  clear ht
  have ey12 := ey12.symm
  exact W.lret hx hb hr (fun t ht hW => ⟨⟨_, (), rfl, (by subst ey12; rfl), ag_Hr ht hP hD hSh⟩, hS.F ht⟩) hS.2.2 d_Ru_block_22
abbrev ws_Ru_blockXcV : List Cond := Cond.code y_Ru_block b_Ru_block 6 (some .long) :: aw_G
abbrev rm_Ru_blockXcV : Room := { frames := 7, cells := 1, slots := 6, locals := 111 }
set_option maxHeartbeats 4000000 in
set_option maxRecDepth 100000 in
theorem k_Ru_blockXcV (l : Launch) (hst : l.stackTraces = false) (D : va_G) (g : Nat → ClassId) (ad : Nat → Nat) (N0 : Nat) (zG : Nat → Nat × Nat) (zO : Nat → Nat) (zX : Nat → Nat → Int64) (zY : Nat → Nat → Int32) (zA : Nat → Nat → Nat → Int32) (zB : Nat → Int32) (zM : Nat → Nat × Nat) (zI : Nat → Nat → Int32) (zL : Nat → Nat → Int64) (zK : Int32) (zN : Nat) (zF : Int32) (zQ : Int64) (c0 : Int32) (bk : Int32) (b : Int64) (hc : c0 < 0 ∨ (¬ c0 < 0 ∧ ¬ c0 < nI 4)) : vx_Met l y_Ru_block ws_Ru_blockXcV rm_Ru_blockXcV (va_Pc ([.ref (aw_r ad 0), .int c0, .int bk, .long b] : List Value) (ag_B D g N0 (az_Sh g ad zG zO zX zY zA zB zM zI zL zK zN zF zQ))) (va_Qv (fun (_ : Unit) => False) (fun (_ : Unit) _ => True) (aw_Z N0)) (vx_X (fun (_ : Unit) => True) (fun E (_ : Unit) t => E = "java/lang/IndexOutOfBoundsException" ∧ ag_H D N0 (az_Sh g ad zG zO zX zY zA zB zM zI zL zK zN zF zQ) t.heap) (aw_Z N0)) 1 6 (aw_Z N0) := by
  refine vx_ofW (cc := b_Ru_block) (maxL := 6) (ret := (some .long)) (by decide) rfl ?_
  intro p e s m args below meth c s₁ B hml hex hv
  obtain ⟨rfl, ⟨L, hP, hD, hSh⟩, hU⟩ := hv
  have hx := B.exec
  have hb := B.bytes
  have hr := B.returns
  have hG : ∀ w ∈ aw_G, w.before _ s = true := fun w h => atoms_spec (ws := ws_Ru_blockXcV) B.pre w (List.mem_cons_of_mem _ h)
  have hown : s.vm.findClass "RuleCiphers" = some m.cls := findClass_of_methodNamed B.named
  have hlocks := B.notSynchronized
  have hE := hU.1
  have hK := hE.1
  have hN := hE.2.1
  have hS : va_S (aw_Z N0) s.heap s.heap [] := va_S.rf
  have hl := lv_entry ([.ref (aw_r ad 0), .int c0, .int bk, .long b] : List Value) (n := 6) (Nat.le_of_ble_eq_true rfl)
  rw [lg_entry_eq]
  generalize (lg_sl ([.ref (aw_r ad 0), .int c0, .int bk, .long b] : List Value) ++ List.replicate (6 - (lg_sl ([.ref (aw_r ad 0), .int c0, .int bk, .long b] : List Value)).length) Slot.unset).toArray = ls at hl ⊢
  have hl : lv_has ls 6 [(0, .ref (aw_r ad 0)), (1, .int c0), (2, .int bk), (3, .long b)] := hl
  refine lv_aload_n hx hb d_Ru_block_0 rfl (lv_at hl 0 rfl) ?_
  refine lv_iload_n hx hb d_Ru_block_1 rfl (lv_at hl 1 rfl) ?_
  have he1 := zr_R0 hSh
  refine vx_callv (vx_runV (As := [.int c0]) (rest := []) ⟨hx, hb, hml, hown, hG⟩ (k_Ru_contextAtXV l hst D g ad N0 zG zO zX zY zA zB zM zI zL zK zN zF zQ c0 hc) (aw_wV 1 hG gw_2_47 gw_2_45 gw_0_1 gw_2_46 gw_p_0 rfl rfl hd_Ru_contextAt ⟨Nat.le_of_ble_eq_true rfl, Nat.le_of_ble_eq_true rfl⟩) (ag_qV (va_recv hK hP rfl he1) hP hD hSh hU hS) rfl rfl hl.1 rfl (lv_room (Nat.le_of_ble_eq_true rfl)) d_Ru_block_2 ⟨Nat.le_of_ble_eq_true rfl, Nat.le_of_ble_eq_true rfl⟩) hS (fun _ _ h => h) (fun _ h => h) (fun _ _ h => h) (fun E ce q9 u t H locs ht _ _ hBX _ _ hS hce hcv hcl => ?_) (fun u t H locs _ _ hF _ _ _ _ => hF.elim)
  obtain ⟨rfl, L, hP, hD, hSh⟩ := hBX
  rw [ht] at hP
  exact vx_out (fun x h => (hex x h).elim) hlocks hce hcv hcl (fun t9 ht9 _ => ⟨(), trivial, ⟨rfl, ag_Hr ht9 hP hD hSh⟩, hS.F ht9⟩) hS.2.2 (Nat.le_of_ble_eq_true rfl) (Nat.le_of_ble_eq_true rfl)
abbrev ws_Ru_blockXsV : List Cond := Cond.code y_Ru_block b_Ru_block 6 (some .long) :: aw_G
abbrev rm_Ru_blockXsV : Room := { frames := 7, cells := 1, slots := 6, locals := 110 }
set_option maxHeartbeats 4000000 in
set_option maxRecDepth 100000 in
theorem k_Ru_blockXsV (l : Launch) (hst : l.stackTraces = false) (D : va_G) (g : Nat → ClassId) (ad : Nat → Nat) (N0 : Nat) (zG : Nat → Nat × Nat) (zO : Nat → Nat) (zX : Nat → Nat → Int64) (zY : Nat → Nat → Int32) (zA : Nat → Nat → Nat → Int32) (zB : Nat → Int32) (zM : Nat → Nat × Nat) (zI : Nat → Nat → Int32) (zL : Nat → Nat → Int64) (zK : Int32) (zN : Nat) (zF : Int32) (zQ : Int64) (j : Nat) (bk : Int32) (b : Int64) (hj : j < 4) (hs : (zG j).1 ≤ 1) : vx_Met l y_Ru_block ws_Ru_blockXsV rm_Ru_blockXsV (va_Pc ([.ref (aw_r ad 0), .int (nI j), .int bk, .long b] : List Value) (ag_B D g N0 (az_Sh g ad zG zO zX zY zA zB zM zI zL zK zN zF zQ))) (va_Qv (fun (_ : Unit) => False) (fun (_ : Unit) _ => True) (aw_Z N0)) (vx_X (fun (_ : Unit) => True) (fun E (_ : Unit) t => E = "java/lang/IllegalStateException" ∧ ag_H D N0 (az_Sh g ad zG zO zX zY zA zB zM zI zL zK zN zF zQ) t.heap) (aw_Z N0)) 1 6 (aw_Z N0) := by
  refine vx_ofW (cc := b_Ru_block) (maxL := 6) (ret := (some .long)) (by decide) rfl ?_
  intro p e s m args below meth c s₁ B hml hex hv
  obtain ⟨rfl, ⟨L, hP, hD, hSh⟩, hU⟩ := hv
  have hx := B.exec
  have hb := B.bytes
  have hr := B.returns
  have hG : ∀ w ∈ aw_G, w.before _ s = true := fun w h => atoms_spec (ws := ws_Ru_blockXsV) B.pre w (List.mem_cons_of_mem _ h)
  have hown : s.vm.findClass "RuleCiphers" = some m.cls := findClass_of_methodNamed B.named
  have hlocks := B.notSynchronized
  have hE := hU.1
  have hK := hE.1
  have hN := hE.2.1
  have hS : va_S (aw_Z N0) s.heap s.heap [] := va_S.rf
  have hl := lv_entry ([.ref (aw_r ad 0), .int (nI j), .int bk, .long b] : List Value) (n := 6) (Nat.le_of_ble_eq_true rfl)
  rw [lg_entry_eq]
  generalize (lg_sl ([.ref (aw_r ad 0), .int (nI j), .int bk, .long b] : List Value) ++ List.replicate (6 - (lg_sl ([.ref (aw_r ad 0), .int (nI j), .int bk, .long b] : List Value)).length) Slot.unset).toArray = ls at hl ⊢
  have hl : lv_has ls 6 [(0, .ref (aw_r ad 0)), (1, .int (nI j)), (2, .int bk), (3, .long b)] := hl
  refine lv_aload_n hx hb d_Ru_block_0 rfl (lv_at hl 0 rfl) ?_
  refine lv_iload_n hx hb d_Ru_block_1 rfl (lv_at hl 1 rfl) ?_
  have he1 := zr_R0 hSh
  refine va_callr (va_runV (As := [.int (nI j)]) (rest := []) ⟨hx, hb, hml, hown, hG⟩ (k_Ru_contextAt1V l D g ad N0 zG zO zX zY zA zB zM zI zL zK zN zF zQ j hj) (aw_wV 1 hG gw_2_47 gw_2_45 gw_0_1 gw_2_46 gw_p_0 rfl rfl hd_Ru_contextAt ⟨Nat.le_of_ble_eq_true rfl, Nat.le_of_ble_eq_true rfl⟩) (ag_qV (va_recv hK hP rfl he1) hP hD hSh hU hS) rfl rfl hl.1 rfl (lv_room (Nat.le_of_ble_eq_true rfl)) d_Ru_block_2 ⟨Nat.le_of_ble_eq_true rfl, Nat.le_of_ble_eq_true rfl⟩) hS (fun _ _ h => h) (fun _ h => h) ?_
  clear hP hD hSh hS he1
  intro u8 q2 t8 H locs ht _ _ hB _ _ hS
  obtain ⟨eq2, hB⟩ := hB
  obtain ⟨L, hP, hD, hSh⟩ := hB
  rw [ht] at hP
  clear ht
  subst eq2
  refine lv_astore hx hb d_Ru_block_5 hl (by decide) rfl (fun ls hl => ?_)
  have hl : lv_has ls 6 [(5, .ref (aw_c ad j 0)), (0, .ref (aw_r ad 0)), (1, .int (nI j)), (2, .int bk), (3, .long b)] := hl
  refine lv_aload hx hb d_Ru_block_7 (lv_at hl 0 rfl) ?_
  refine vx_callv (vx_runS (As := [.ref (aw_c ad j 0)]) (rest := []) ⟨hx, hb, hml, hown, hG⟩ (k_Ru_requireKeyXV l hst D g ad N0 zG zO zX zY zA zB zM zI zL zK zN zF zQ j hj hs) (aw_wS 1 hG gw_5_30 gw_5_28 gw_0_1 gw_5_29 rfl rfl hd_Ru_requireKey ⟨Nat.le_of_ble_eq_true rfl, Nat.le_of_ble_eq_true rfl⟩) (ag_qS hP hD hSh hU hS) rfl rfl hl.1 rfl (lv_room (Nat.le_of_ble_eq_true rfl)) d_Ru_block_9 ⟨Nat.le_of_ble_eq_true rfl, Nat.le_of_ble_eq_true rfl⟩) hS (fun _ _ h => h) (fun _ h => h) (fun _ _ h => h) (fun E ce q9 u t H locs ht _ _ hBX _ _ hS hce hcv hcl => ?_) (fun u t H locs _ _ hF _ _ _ _ => hF.elim)
  obtain ⟨rfl, L, hP, hD, hSh⟩ := hBX
  rw [ht] at hP
  exact vx_out (fun x h => (hex x h).elim) hlocks hce hcv hcl (fun t9 ht9 _ => ⟨(), trivial, ⟨rfl, ag_Hr ht9 hP hD hSh⟩, hS.F ht9⟩) hS.2.2 (Nat.le_of_ble_eq_true rfl) (Nat.le_of_ble_eq_true rfl)
noncomputable def v_Ru_word1V (zO : Nat → Nat) (zA : Nat → Nat → Nat → Int32) (j : Nat) (i : Int32) : Int32 := v_Ci_wordAtV zA j (zO j) i
abbrev ws_Ru_word1V : List Cond := Cond.code y_Ru_word b_Ru_word 4 (some .int) :: aw_G
abbrev rm_Ru_word1V : Room := { frames := 1, cells := 0, slots := 0, locals := 21 }
set_option maxHeartbeats 4000000 in
set_option maxRecDepth 100000 in
theorem k_Ru_word1V (l : Launch) (D : va_G) (g : Nat → ClassId) (ad : Nat → Nat) (N0 : Nat) (zG : Nat → Nat × Nat) (zO : Nat → Nat) (zX : Nat → Nat → Int64) (zY : Nat → Nat → Int32) (zA : Nat → Nat → Nat → Int32) (zB : Nat → Int32) (zM : Nat → Nat × Nat) (zI : Nat → Nat → Int32) (zL : Nat → Nat → Int64) (zK : Int32) (zN : Nat) (zF : Int32) (zQ : Int64) (j : Nat) (i : Int32) (hj : j < 4) (hs : 2 ≤ (zG j).1) : Met l y_Ru_word ws_Ru_word1V rm_Ru_word1V (va_Pc ([.ref (aw_r ad 0), .int (nI j), .int i] : List Value) (ag_B D g N0 (az_Sh g ad zG zO zX zY zA zB zM zI zL zK zN zF zQ))) (va_Qi (fun r (_ : Unit) => r = v_Ru_word1V zO zA j i) (fun (_ : Unit) t => ag_H D N0 (az_Sh g ad zG zO zX zY zA zB zM zI zL zK zN zF zQ) t.heap) (aw_Z N0)) 0 0 (aw_Z N0) := by
  refine Met.ofW (cc := b_Ru_word) (maxL := 4) (ret := (some .int)) (by decide) rfl ?_
  intro p e s m args below meth c s₁ B hml hv
  obtain ⟨rfl, ⟨L, hP, hD, hSh⟩, hU⟩ := hv
  have hx := B.exec
  have hb := B.bytes
  have hr := B.returns
  have hG : ∀ w ∈ aw_G, w.before _ s = true := fun w h => atoms_spec (ws := ws_Ru_word1V) B.pre w (List.mem_cons_of_mem _ h)
  have hown : s.vm.findClass "RuleCiphers" = some m.cls := findClass_of_methodNamed B.named
  have hlocks := B.notSynchronized
  have hE := hU.1
  have hK := hE.1
  have hN := hE.2.1
  have hS : va_S (aw_Z N0) s.heap s.heap [] := va_S.rf
  have hl := lv_entry ([.ref (aw_r ad 0), .int (nI j), .int i] : List Value) (n := 4) (Nat.le_of_ble_eq_true rfl)
  rw [lg_entry_eq]
  generalize (lg_sl ([.ref (aw_r ad 0), .int (nI j), .int i] : List Value) ++ List.replicate (4 - (lg_sl ([.ref (aw_r ad 0), .int (nI j), .int i] : List Value)).length) Slot.unset).toArray = ls at hl ⊢
  have hl : lv_has ls 4 [(0, .ref (aw_r ad 0)), (1, .int (nI j)), (2, .int i)] := hl
  refine lv_aload_n hx hb d_Ru_word_0 rfl (lv_at hl 0 rfl) ?_
  refine lv_iload_n hx hb d_Ru_word_1 rfl (lv_at hl 1 rfl) ?_
  have he1 := zr_R0 hSh
  refine va_callr (va_runV (As := [.int (nI j)]) (rest := []) ⟨hx, hb, hml, hown, hG⟩ (k_Ru_contextAt1V l D g ad N0 zG zO zX zY zA zB zM zI zL zK zN zF zQ j hj) (aw_wV 1 hG gw_2_47 gw_2_45 gw_0_1 gw_2_46 gw_p_0 rfl rfl hd_Ru_contextAt ⟨Nat.le_of_ble_eq_true rfl, Nat.le_of_ble_eq_true rfl⟩) (ag_qV (va_recv hK hP rfl he1) hP hD hSh hU hS) rfl rfl hl.1 rfl (lv_room (Nat.le_of_ble_eq_true rfl)) d_Ru_word_2 ⟨Nat.le_of_ble_eq_true rfl, Nat.le_of_ble_eq_true rfl⟩) hS (fun _ _ h => h) (fun _ h => h) ?_
  clear hP hD hSh hS he1
  intro u8 q2 t8 H locs ht _ _ hB _ _ hS
  obtain ⟨eq2, hB⟩ := hB
  obtain ⟨L, hP, hD, hSh⟩ := hB
  rw [ht] at hP
  clear ht
  subst eq2
  refine lv_astore_n hx hb d_Ru_word_5 rfl hl (by decide) rfl (fun ls hl => ?_)
  have hl : lv_has ls 4 [(3, .ref (aw_c ad j 0)), (0, .ref (aw_r ad 0)), (1, .int (nI j)), (2, .int i)] := hl
  refine lv_aload_n hx hb d_Ru_word_6 rfl (lv_at hl 0 rfl) ?_
  refine va_callv (va_runS (As := [.ref (aw_c ad j 0)]) (rest := []) ⟨hx, hb, hml, hown, hG⟩ (k_Ru_requireKey1V l D g ad N0 zG zO zX zY zA zB zM zI zL zK zN zF zQ j hj hs) (aw_wS 1 hG gw_5_30 gw_5_28 gw_0_1 gw_5_29 rfl rfl hd_Ru_requireKey ⟨Nat.le_of_ble_eq_true rfl, Nat.le_of_ble_eq_true rfl⟩) (ag_qS hP hD hSh hU hS) rfl rfl hl.1 rfl (lv_room (Nat.le_of_ble_eq_true rfl)) d_Ru_word_7 ⟨Nat.le_of_ble_eq_true rfl, Nat.le_of_ble_eq_true rfl⟩) hS (fun _ _ h => h) (fun _ h => h) ?_
  clear hP hD hSh hS
  intro u8 t8 H locs ht _ _ hB _ _ hS
  obtain ⟨L, hP, hD, hSh⟩ := hB
  rw [ht] at hP
  clear ht
  refine lv_aload_n hx hb d_Ru_word_10 rfl (lv_at hl 0 rfl) ?_
  obtain ⟨hsd4, he3⟩ := zr_C0 hSh hj
  have hg := hSh.2.2.2.2.1 j hj
  refine va_get (C := R_Cx) (T := T_Cx) (N := 10) (v := .ref (aw_c ad j (zO j))) hx hb hG in_Cx hown hK hP (3 + 16 * j + 0) he3 rfl 4 (by decide) (hG _ gw_2_1) (fun _ h => h) rfl d_Ru_word_11 ?_
  clear he3
  refine lv_iload_n hx hb d_Ru_word_14 rfl (lv_at hl 3 rfl) ?_
  have hrun5 : va_Run p l e (headSpec ws_Ru_word1V rm_Ru_word1V).room s m ([.ref (aw_r ad 0), .int (nI j), .int i] : List Value).toArray below meth c H locs 0 0 0 0 (F0 m 15 ls [.int i, .ref (aw_c ad j (zO j))]) [] (va_Qi (fun r (_ : Unit) => r = v_Ci_wordAtV zA j (zO j) i) (fun (_ : Unit) t => ag_H D N0 (az_Sh g ad zG zO zX zY zA zB zM zI zL zK zN zF zQ) t.heap) (aw_Z N0) ([.ref (aw_c ad j (zO j)), .int i] : List Value).toArray) (aw_Z N0) := by
    rcases hsd4 with hq6 | hq6 | hq6 | hq6 | hq6
    · rw [hq6]
      have he7 := zr_C2 hSh hj
      exact va_runU (As := [.int i]) (rest := []) ⟨hx, hb, hml, hown, hG⟩ (k_Ci_wordAtV l D g ad N0 zG zO zX zY zA zB zM zI zL zK zN zF zQ j 2 i hj (by unfold aw_cof; omega)) (aw_wU (owner := "RuleCiphers$Cipher") 1 hG gw_7_22 gw_7_14 gw_7_16 gw_7_18 gw_7_15 gw_0_3 rfl rfl rfl hd_Ci_wordAt ⟨Nat.le_of_ble_eq_true rfl, Nat.le_of_ble_eq_true rfl⟩) (ag_qV (va_recv hK hP rfl he7) hP hD hSh hU hS) rfl rfl hl.1 rfl (lv_room (Nat.le_of_ble_eq_true rfl)) d_Ru_word_15 ⟨Nat.le_of_ble_eq_true rfl, Nat.le_of_ble_eq_true rfl⟩
    · rw [hq6]
      have he8 := zr_C5 hSh hj
      exact va_runU (As := [.int i]) (rest := []) ⟨hx, hb, hml, hown, hG⟩ (k_Ci_wordAtV l D g ad N0 zG zO zX zY zA zB zM zI zL zK zN zF zQ j 5 i hj (by unfold aw_cof; omega)) (aw_wU (owner := "RuleCiphers$Cipher") 1 hG gw_7_22 gw_7_14 gw_7_16 gw_7_21 gw_7_15 gw_0_3 rfl rfl rfl hd_Ci_wordAt ⟨Nat.le_of_ble_eq_true rfl, Nat.le_of_ble_eq_true rfl⟩) (ag_qV (va_recv hK hP rfl he8) hP hD hSh hU hS) rfl rfl hl.1 rfl (lv_room (Nat.le_of_ble_eq_true rfl)) d_Ru_word_15 ⟨Nat.le_of_ble_eq_true rfl, Nat.le_of_ble_eq_true rfl⟩
    · rw [hq6]
      have he9 := zr_C7 hSh hj
      exact va_runU (As := [.int i]) (rest := []) ⟨hx, hb, hml, hown, hG⟩ (k_Ci_wordAtV l D g ad N0 zG zO zX zY zA zB zM zI zL zK zN zF zQ j 7 i hj (by unfold aw_cof; omega)) (aw_wU (owner := "RuleCiphers$Cipher") 1 hG gw_7_22 gw_7_14 gw_7_16 gw_7_20 gw_7_15 gw_0_3 rfl rfl rfl hd_Ci_wordAt ⟨Nat.le_of_ble_eq_true rfl, Nat.le_of_ble_eq_true rfl⟩) (ag_qV (va_recv hK hP rfl he9) hP hD hSh hU hS) rfl rfl hl.1 rfl (lv_room (Nat.le_of_ble_eq_true rfl)) d_Ru_word_15 ⟨Nat.le_of_ble_eq_true rfl, Nat.le_of_ble_eq_true rfl⟩
    · rw [hq6]
      have he10 := zr_C10 hSh hj
      exact va_runU (As := [.int i]) (rest := []) ⟨hx, hb, hml, hown, hG⟩ (k_Ci_wordAtV l D g ad N0 zG zO zX zY zA zB zM zI zL zK zN zF zQ j 10 i hj (by unfold aw_cof; omega)) (aw_wU (owner := "RuleCiphers$Cipher") 1 hG gw_7_22 gw_7_14 gw_7_16 gw_7_19 gw_7_15 gw_0_3 rfl rfl rfl hd_Ci_wordAt ⟨Nat.le_of_ble_eq_true rfl, Nat.le_of_ble_eq_true rfl⟩) (ag_qV (va_recv hK hP rfl he10) hP hD hSh hU hS) rfl rfl hl.1 rfl (lv_room (Nat.le_of_ble_eq_true rfl)) d_Ru_word_15 ⟨Nat.le_of_ble_eq_true rfl, Nat.le_of_ble_eq_true rfl⟩
    · rw [hq6]
      have he11 := zr_C12 hSh hj
      exact va_runU (As := [.int i]) (rest := []) ⟨hx, hb, hml, hown, hG⟩ (k_Ci_wordAtV l D g ad N0 zG zO zX zY zA zB zM zI zL zK zN zF zQ j 12 i hj (by unfold aw_cof; omega)) (aw_wU (owner := "RuleCiphers$Cipher") 1 hG gw_7_22 gw_7_14 gw_7_16 gw_7_17 gw_7_15 gw_0_3 rfl rfl rfl hd_Ci_wordAt ⟨Nat.le_of_ble_eq_true rfl, Nat.le_of_ble_eq_true rfl⟩) (ag_qV (va_recv hK hP rfl he11) hP hD hSh hU hS) rfl rfl hl.1 rfl (lv_room (Nat.le_of_ble_eq_true rfl)) d_Ru_word_15 ⟨Nat.le_of_ble_eq_true rfl, Nat.le_of_ble_eq_true rfl⟩
  refine va_calli hrun5 hS (fun _ _ h => h) (fun _ h => h) ?_
  clear hP hD hSh hS hrun5
  intro x12 u8 t8 H locs ht _ ex12 hB _ _ hS
  obtain ⟨L, hP, hD, hSh⟩ := hB
  rw [ht] at hP
  clear ht
  have ex12 := ex12.symm
  exact W.iret hx hb hr (fun t ht hW => ⟨⟨_, (), rfl, (by subst ex12; rfl), ag_Hr ht hP hD hSh⟩, hS.F ht⟩) hS.2.2 d_Ru_word_18
abbrev ws_Ru_wordXcV : List Cond := Cond.code y_Ru_word b_Ru_word 4 (some .int) :: aw_G
abbrev rm_Ru_wordXcV : Room := { frames := 7, cells := 1, slots := 6, locals := 111 }
set_option maxHeartbeats 4000000 in
set_option maxRecDepth 100000 in
theorem k_Ru_wordXcV (l : Launch) (hst : l.stackTraces = false) (D : va_G) (g : Nat → ClassId) (ad : Nat → Nat) (N0 : Nat) (zG : Nat → Nat × Nat) (zO : Nat → Nat) (zX : Nat → Nat → Int64) (zY : Nat → Nat → Int32) (zA : Nat → Nat → Nat → Int32) (zB : Nat → Int32) (zM : Nat → Nat × Nat) (zI : Nat → Nat → Int32) (zL : Nat → Nat → Int64) (zK : Int32) (zN : Nat) (zF : Int32) (zQ : Int64) (c0 : Int32) (i : Int32) (hc : c0 < 0 ∨ (¬ c0 < 0 ∧ ¬ c0 < nI 4)) : vx_Met l y_Ru_word ws_Ru_wordXcV rm_Ru_wordXcV (va_Pc ([.ref (aw_r ad 0), .int c0, .int i] : List Value) (ag_B D g N0 (az_Sh g ad zG zO zX zY zA zB zM zI zL zK zN zF zQ))) (va_Qv (fun (_ : Unit) => False) (fun (_ : Unit) _ => True) (aw_Z N0)) (vx_X (fun (_ : Unit) => True) (fun E (_ : Unit) t => E = "java/lang/IndexOutOfBoundsException" ∧ ag_H D N0 (az_Sh g ad zG zO zX zY zA zB zM zI zL zK zN zF zQ) t.heap) (aw_Z N0)) 1 6 (aw_Z N0) := by
  refine vx_ofW (cc := b_Ru_word) (maxL := 4) (ret := (some .int)) (by decide) rfl ?_
  intro p e s m args below meth c s₁ B hml hex hv
  obtain ⟨rfl, ⟨L, hP, hD, hSh⟩, hU⟩ := hv
  have hx := B.exec
  have hb := B.bytes
  have hr := B.returns
  have hG : ∀ w ∈ aw_G, w.before _ s = true := fun w h => atoms_spec (ws := ws_Ru_wordXcV) B.pre w (List.mem_cons_of_mem _ h)
  have hown : s.vm.findClass "RuleCiphers" = some m.cls := findClass_of_methodNamed B.named
  have hlocks := B.notSynchronized
  have hE := hU.1
  have hK := hE.1
  have hN := hE.2.1
  have hS : va_S (aw_Z N0) s.heap s.heap [] := va_S.rf
  have hl := lv_entry ([.ref (aw_r ad 0), .int c0, .int i] : List Value) (n := 4) (Nat.le_of_ble_eq_true rfl)
  rw [lg_entry_eq]
  generalize (lg_sl ([.ref (aw_r ad 0), .int c0, .int i] : List Value) ++ List.replicate (4 - (lg_sl ([.ref (aw_r ad 0), .int c0, .int i] : List Value)).length) Slot.unset).toArray = ls at hl ⊢
  have hl : lv_has ls 4 [(0, .ref (aw_r ad 0)), (1, .int c0), (2, .int i)] := hl
  refine lv_aload_n hx hb d_Ru_word_0 rfl (lv_at hl 0 rfl) ?_
  refine lv_iload_n hx hb d_Ru_word_1 rfl (lv_at hl 1 rfl) ?_
  have he1 := zr_R0 hSh
  refine vx_callv (vx_runV (As := [.int c0]) (rest := []) ⟨hx, hb, hml, hown, hG⟩ (k_Ru_contextAtXV l hst D g ad N0 zG zO zX zY zA zB zM zI zL zK zN zF zQ c0 hc) (aw_wV 1 hG gw_2_47 gw_2_45 gw_0_1 gw_2_46 gw_p_0 rfl rfl hd_Ru_contextAt ⟨Nat.le_of_ble_eq_true rfl, Nat.le_of_ble_eq_true rfl⟩) (ag_qV (va_recv hK hP rfl he1) hP hD hSh hU hS) rfl rfl hl.1 rfl (lv_room (Nat.le_of_ble_eq_true rfl)) d_Ru_word_2 ⟨Nat.le_of_ble_eq_true rfl, Nat.le_of_ble_eq_true rfl⟩) hS (fun _ _ h => h) (fun _ h => h) (fun _ _ h => h) (fun E ce q9 u t H locs ht _ _ hBX _ _ hS hce hcv hcl => ?_) (fun u t H locs _ _ hF _ _ _ _ => hF.elim)
  obtain ⟨rfl, L, hP, hD, hSh⟩ := hBX
  rw [ht] at hP
  exact vx_out (fun x h => (hex x h).elim) hlocks hce hcv hcl (fun t9 ht9 _ => ⟨(), trivial, ⟨rfl, ag_Hr ht9 hP hD hSh⟩, hS.F ht9⟩) hS.2.2 (Nat.le_of_ble_eq_true rfl) (Nat.le_of_ble_eq_true rfl)
abbrev ws_Ru_wordXsV : List Cond := Cond.code y_Ru_word b_Ru_word 4 (some .int) :: aw_G
abbrev rm_Ru_wordXsV : Room := { frames := 7, cells := 1, slots := 6, locals := 110 }
set_option maxHeartbeats 4000000 in
set_option maxRecDepth 100000 in
theorem k_Ru_wordXsV (l : Launch) (hst : l.stackTraces = false) (D : va_G) (g : Nat → ClassId) (ad : Nat → Nat) (N0 : Nat) (zG : Nat → Nat × Nat) (zO : Nat → Nat) (zX : Nat → Nat → Int64) (zY : Nat → Nat → Int32) (zA : Nat → Nat → Nat → Int32) (zB : Nat → Int32) (zM : Nat → Nat × Nat) (zI : Nat → Nat → Int32) (zL : Nat → Nat → Int64) (zK : Int32) (zN : Nat) (zF : Int32) (zQ : Int64) (j : Nat) (i : Int32) (hj : j < 4) (hs : (zG j).1 ≤ 1) : vx_Met l y_Ru_word ws_Ru_wordXsV rm_Ru_wordXsV (va_Pc ([.ref (aw_r ad 0), .int (nI j), .int i] : List Value) (ag_B D g N0 (az_Sh g ad zG zO zX zY zA zB zM zI zL zK zN zF zQ))) (va_Qv (fun (_ : Unit) => False) (fun (_ : Unit) _ => True) (aw_Z N0)) (vx_X (fun (_ : Unit) => True) (fun E (_ : Unit) t => E = "java/lang/IllegalStateException" ∧ ag_H D N0 (az_Sh g ad zG zO zX zY zA zB zM zI zL zK zN zF zQ) t.heap) (aw_Z N0)) 1 6 (aw_Z N0) := by
  refine vx_ofW (cc := b_Ru_word) (maxL := 4) (ret := (some .int)) (by decide) rfl ?_
  intro p e s m args below meth c s₁ B hml hex hv
  obtain ⟨rfl, ⟨L, hP, hD, hSh⟩, hU⟩ := hv
  have hx := B.exec
  have hb := B.bytes
  have hr := B.returns
  have hG : ∀ w ∈ aw_G, w.before _ s = true := fun w h => atoms_spec (ws := ws_Ru_wordXsV) B.pre w (List.mem_cons_of_mem _ h)
  have hown : s.vm.findClass "RuleCiphers" = some m.cls := findClass_of_methodNamed B.named
  have hlocks := B.notSynchronized
  have hE := hU.1
  have hK := hE.1
  have hN := hE.2.1
  have hS : va_S (aw_Z N0) s.heap s.heap [] := va_S.rf
  have hl := lv_entry ([.ref (aw_r ad 0), .int (nI j), .int i] : List Value) (n := 4) (Nat.le_of_ble_eq_true rfl)
  rw [lg_entry_eq]
  generalize (lg_sl ([.ref (aw_r ad 0), .int (nI j), .int i] : List Value) ++ List.replicate (4 - (lg_sl ([.ref (aw_r ad 0), .int (nI j), .int i] : List Value)).length) Slot.unset).toArray = ls at hl ⊢
  have hl : lv_has ls 4 [(0, .ref (aw_r ad 0)), (1, .int (nI j)), (2, .int i)] := hl
  refine lv_aload_n hx hb d_Ru_word_0 rfl (lv_at hl 0 rfl) ?_
  refine lv_iload_n hx hb d_Ru_word_1 rfl (lv_at hl 1 rfl) ?_
  have he1 := zr_R0 hSh
  refine va_callr (va_runV (As := [.int (nI j)]) (rest := []) ⟨hx, hb, hml, hown, hG⟩ (k_Ru_contextAt1V l D g ad N0 zG zO zX zY zA zB zM zI zL zK zN zF zQ j hj) (aw_wV 1 hG gw_2_47 gw_2_45 gw_0_1 gw_2_46 gw_p_0 rfl rfl hd_Ru_contextAt ⟨Nat.le_of_ble_eq_true rfl, Nat.le_of_ble_eq_true rfl⟩) (ag_qV (va_recv hK hP rfl he1) hP hD hSh hU hS) rfl rfl hl.1 rfl (lv_room (Nat.le_of_ble_eq_true rfl)) d_Ru_word_2 ⟨Nat.le_of_ble_eq_true rfl, Nat.le_of_ble_eq_true rfl⟩) hS (fun _ _ h => h) (fun _ h => h) ?_
  clear hP hD hSh hS he1
  intro u8 q2 t8 H locs ht _ _ hB _ _ hS
  obtain ⟨eq2, hB⟩ := hB
  obtain ⟨L, hP, hD, hSh⟩ := hB
  rw [ht] at hP
  clear ht
  subst eq2
  refine lv_astore_n hx hb d_Ru_word_5 rfl hl (by decide) rfl (fun ls hl => ?_)
  have hl : lv_has ls 4 [(3, .ref (aw_c ad j 0)), (0, .ref (aw_r ad 0)), (1, .int (nI j)), (2, .int i)] := hl
  refine lv_aload_n hx hb d_Ru_word_6 rfl (lv_at hl 0 rfl) ?_
  refine vx_callv (vx_runS (As := [.ref (aw_c ad j 0)]) (rest := []) ⟨hx, hb, hml, hown, hG⟩ (k_Ru_requireKeyXV l hst D g ad N0 zG zO zX zY zA zB zM zI zL zK zN zF zQ j hj hs) (aw_wS 1 hG gw_5_30 gw_5_28 gw_0_1 gw_5_29 rfl rfl hd_Ru_requireKey ⟨Nat.le_of_ble_eq_true rfl, Nat.le_of_ble_eq_true rfl⟩) (ag_qS hP hD hSh hU hS) rfl rfl hl.1 rfl (lv_room (Nat.le_of_ble_eq_true rfl)) d_Ru_word_7 ⟨Nat.le_of_ble_eq_true rfl, Nat.le_of_ble_eq_true rfl⟩) hS (fun _ _ h => h) (fun _ h => h) (fun _ _ h => h) (fun E ce q9 u t H locs ht _ _ hBX _ _ hS hce hcv hcl => ?_) (fun u t H locs _ _ hF _ _ _ _ => hF.elim)
  obtain ⟨rfl, L, hP, hD, hSh⟩ := hBX
  rw [ht] at hP
  exact vx_out (fun x h => (hex x h).elim) hlocks hce hcv hcl (fun t9 ht9 _ => ⟨(), trivial, ⟨rfl, ag_Hr ht9 hP hD hSh⟩, hS.F ht9⟩) hS.2.2 (Nat.le_of_ble_eq_true rfl) (Nat.le_of_ble_eq_true rfl)
noncomputable def v_Ru_put1V_zB (zB : Nat → Int32) (k : Nat) (b : Int32) : Nat → Int32 := upd (zB) k (b &&& (nI 255))
abbrev ws_Ru_put1V : List Cond := Cond.code y_Ru_put b_Ru_put 3 none :: aw_G
abbrev rm_Ru_put1V : Room := { frames := 1, cells := 0, slots := 0, locals := 20 }
set_option maxHeartbeats 4000000 in
set_option maxRecDepth 100000 in
theorem k_Ru_put1V (l : Launch) (D : va_G) (g : Nat → ClassId) (ad : Nat → Nat) (N0 : Nat) (zG : Nat → Nat × Nat) (zO : Nat → Nat) (zX : Nat → Nat → Int64) (zY : Nat → Nat → Int32) (zA : Nat → Nat → Nat → Int32) (zB : Nat → Int32) (zM : Nat → Nat × Nat) (zI : Nat → Nat → Int32) (zL : Nat → Nat → Int64) (zK : Int32) (zN : Nat) (zF : Int32) (zQ : Int64) (k : Nat) (b : Int32) (hk : k < 64) : Met l y_Ru_put ws_Ru_put1V rm_Ru_put1V (va_Pc ([.ref (aw_r ad 0), .int (nI k), .int b] : List Value) (ag_B D g N0 (az_Sh g ad zG zO zX zY zA zB zM zI zL zK zN zF zQ))) (va_Qv (fun (_ : Unit) => True) (fun (_ : Unit) t => ag_H D N0 (az_Sh g ad zG zO zX zY zA (v_Ru_put1V_zB zB k b) zM zI zL zK zN zF zQ) t.heap) (aw_Z N0)) 0 0 (aw_Z N0) := by
  refine Met.ofW (cc := b_Ru_put) (maxL := 3) (ret := none) (by decide) rfl ?_
  intro p e s m args below meth c s₁ B hml hv
  obtain ⟨rfl, ⟨L, hP, hD, hSh⟩, hU⟩ := hv
  have hx := B.exec
  have hb := B.bytes
  have hr := B.returns
  have hG : ∀ w ∈ aw_G, w.before _ s = true := fun w h => atoms_spec (ws := ws_Ru_put1V) B.pre w (List.mem_cons_of_mem _ h)
  have hown : s.vm.findClass "RuleCiphers" = some m.cls := findClass_of_methodNamed B.named
  have hlocks := B.notSynchronized
  have hE := hU.1
  have hK := hE.1
  have hN := hE.2.1
  have hS : va_S (aw_Z N0) s.heap s.heap [] := va_S.rf
  have hl := lv_entry ([.ref (aw_r ad 0), .int (nI k), .int b] : List Value) (n := 3) (Nat.le_of_ble_eq_true rfl)
  rw [lg_entry_eq]
  generalize (lg_sl ([.ref (aw_r ad 0), .int (nI k), .int b] : List Value) ++ List.replicate (3 - (lg_sl ([.ref (aw_r ad 0), .int (nI k), .int b] : List Value)).length) Slot.unset).toArray = ls at hl ⊢
  have hl : lv_has ls 3 [(0, .ref (aw_r ad 0)), (1, .int (nI k)), (2, .int b)] := hl
  refine lv_iload_n hx hb d_Ru_put_0 rfl (lv_at hl 1 rfl) ?_
  refine aw_cv ((va_runS (As := [.int (nI k)]) (rest := []) ⟨hx, hb, hml, hown, hG⟩ (k_Ru_requirePlace1 l k hk) (aw_wS 1 hG gw_7_32 gw_7_30 gw_0_1 gw_7_31 rfl rfl hd_Ru_requirePlace ⟨Nat.le_of_ble_eq_true rfl, Nat.le_of_ble_eq_true rfl⟩) aw_p0 rfl rfl hl.1 rfl (lv_room (Nat.le_of_ble_eq_true rfl)) d_Ru_put_1 ⟨Nat.le_of_ble_eq_true rfl, Nat.le_of_ble_eq_true rfl⟩).run) ?_
  refine lv_aload_n hx hb d_Ru_put_4 rfl (lv_at hl 0 rfl) ?_
  have he1 := zr_R0 hSh
  refine va_get (C := R_Ru) (T := T_Ru) (N := 2) (v := .ref (aw_r ad 2)) hx hb hG in_Ru hown hK hP 0 he1 rfl 1 (by decide) (hG _ gw_2_29) (fun _ h => h) rfl d_Ru_put_5 ?_
  clear he1
  refine lv_iload_n hx hb d_Ru_put_8 rfl (lv_at hl 1 rfl) ?_
  refine lv_iload_n hx hb d_Ru_put_9 rfl (lv_at hl 2 rfl) ?_
  refine lv_sipush (v := nI 255) hx hb d_Ru_put_10 (by decide +kernel) ?_
  refine lv_iand hx hb d_Ru_put_13 ?_
  refine ag_topi (fun x2 ex2 => ?_)
  have he3 := zr_R2 hSh
  refine ag_ist hx hb hK hP hD hS 2 0 he3 rfl (k := k) (by omega) (by decide) d_Ru_put_14 (zw_B hSh (upd (zB) k x2)) ?_
  clear hP hD hSh hS he3
  intro H locs L hP hD hSh hS
  obtain ⟨zB4, ezB4⟩ : ∃ z : Nat → Int32, upd (zB) k x2 = z := ⟨_, rfl⟩
  rw [ezB4] at hSh
  have gzB : zB4 = v_Ru_put1V_zB zB k b := by subst ezB4 ex2; rfl
  have hSh : az_Sh g ad zG zO zX zY zA (v_Ru_put1V_zB zB k b) zM zI zL zK zN zF zQ L := by rw [← gzB]; exact hSh
  exact W.vret hx hb hr (fun t ht hW => ⟨⟨(), rfl, trivial, ag_Hr ht hP hD hSh⟩, hS.F ht⟩) hS.2.2 d_Ru_put_15
abbrev ws_Ru_putXV : List Cond := Cond.code y_Ru_put b_Ru_put 3 none :: aw_G
abbrev rm_Ru_putXV : Room := { frames := 7, cells := 1, slots := 6, locals := 110 }
set_option maxHeartbeats 4000000 in
set_option maxRecDepth 100000 in
theorem k_Ru_putXV (l : Launch) (hst : l.stackTraces = false) (D : va_G) (g : Nat → ClassId) (ad : Nat → Nat) (N0 : Nat) (zG : Nat → Nat × Nat) (zO : Nat → Nat) (zX : Nat → Nat → Int64) (zY : Nat → Nat → Int32) (zA : Nat → Nat → Nat → Int32) (zB : Nat → Int32) (zM : Nat → Nat × Nat) (zI : Nat → Nat → Int32) (zL : Nat → Nat → Int64) (zK : Int32) (zN : Nat) (zF : Int32) (zQ : Int64) (p0 : Int32) (b : Int32) (hc : p0 < 0 ∨ (¬ p0 < 0 ∧ ¬ p0 < nI 64)) : vx_Met l y_Ru_put ws_Ru_putXV rm_Ru_putXV (va_Pc ([.ref (aw_r ad 0), .int p0, .int b] : List Value) (ag_B D g N0 (az_Sh g ad zG zO zX zY zA zB zM zI zL zK zN zF zQ))) (va_Qv (fun (_ : Unit) => False) (fun (_ : Unit) _ => True) (aw_Z N0)) (vx_X (fun (_ : Unit) => True) (fun E (_ : Unit) t => E = "java/lang/IndexOutOfBoundsException" ∧ ag_H D N0 (az_Sh g ad zG zO zX zY zA zB zM zI zL zK zN zF zQ) t.heap) (aw_Z N0)) 1 6 (aw_Z N0) := by
  refine vx_ofW (cc := b_Ru_put) (maxL := 3) (ret := none) (by decide) rfl ?_
  intro p e s m args below meth c s₁ B hml hex hv
  obtain ⟨rfl, ⟨L, hP, hD, hSh⟩, hU⟩ := hv
  have hx := B.exec
  have hb := B.bytes
  have hr := B.returns
  have hG : ∀ w ∈ aw_G, w.before _ s = true := fun w h => atoms_spec (ws := ws_Ru_putXV) B.pre w (List.mem_cons_of_mem _ h)
  have hown : s.vm.findClass "RuleCiphers" = some m.cls := findClass_of_methodNamed B.named
  have hlocks := B.notSynchronized
  have hE := hU.1
  have hK := hE.1
  have hN := hE.2.1
  have hS : va_S (aw_Z N0) s.heap s.heap [] := va_S.rf
  have hl := lv_entry ([.ref (aw_r ad 0), .int p0, .int b] : List Value) (n := 3) (Nat.le_of_ble_eq_true rfl)
  rw [lg_entry_eq]
  generalize (lg_sl ([.ref (aw_r ad 0), .int p0, .int b] : List Value) ++ List.replicate (3 - (lg_sl ([.ref (aw_r ad 0), .int p0, .int b] : List Value)).length) Slot.unset).toArray = ls at hl ⊢
  have hl : lv_has ls 3 [(0, .ref (aw_r ad 0)), (1, .int p0), (2, .int b)] := hl
  refine lv_iload_n hx hb d_Ru_put_0 rfl (lv_at hl 1 rfl) ?_
  refine vx_callv (vx_runS (As := [.int p0]) (rest := []) ⟨hx, hb, hml, hown, hG⟩ (k_Ru_requirePlaceXV l hst D g ad N0 zG zO zX zY zA zB zM zI zL zK zN zF zQ p0 hc) (aw_wS 1 hG gw_7_32 gw_7_30 gw_0_1 gw_7_31 rfl rfl hd_Ru_requirePlace ⟨Nat.le_of_ble_eq_true rfl, Nat.le_of_ble_eq_true rfl⟩) (ag_qS hP hD hSh hU hS) rfl rfl hl.1 rfl (lv_room (Nat.le_of_ble_eq_true rfl)) d_Ru_put_1 ⟨Nat.le_of_ble_eq_true rfl, Nat.le_of_ble_eq_true rfl⟩) hS (fun _ _ h => h) (fun _ h => h) (fun _ _ h => h) (fun E ce q9 u t H locs ht _ _ hBX _ _ hS hce hcv hcl => ?_) (fun u t H locs _ _ hF _ _ _ _ => hF.elim)
  obtain ⟨rfl, L, hP, hD, hSh⟩ := hBX
  rw [ht] at hP
  exact vx_out (fun x h => (hex x h).elim) hlocks hce hcv hcl (fun t9 ht9 _ => ⟨(), trivial, ⟨rfl, ag_Hr ht9 hP hD hSh⟩, hS.F ht9⟩) hS.2.2 (Nat.le_of_ble_eq_true rfl) (Nat.le_of_ble_eq_true rfl)
noncomputable def v_Ru_get1V (zB : Nat → Int32) (k : Nat) : Int32 := zB k
abbrev ws_Ru_get1V : List Cond := Cond.code y_Ru_get b_Ru_get 2 (some .int) :: aw_G
abbrev rm_Ru_get1V : Room := { frames := 1, cells := 0, slots := 0, locals := 20 }
set_option maxHeartbeats 4000000 in
set_option maxRecDepth 100000 in
theorem k_Ru_get1V (l : Launch) (D : va_G) (g : Nat → ClassId) (ad : Nat → Nat) (N0 : Nat) (zG : Nat → Nat × Nat) (zO : Nat → Nat) (zX : Nat → Nat → Int64) (zY : Nat → Nat → Int32) (zA : Nat → Nat → Nat → Int32) (zB : Nat → Int32) (zM : Nat → Nat × Nat) (zI : Nat → Nat → Int32) (zL : Nat → Nat → Int64) (zK : Int32) (zN : Nat) (zF : Int32) (zQ : Int64) (k : Nat) (hk : k < 64) : Met l y_Ru_get ws_Ru_get1V rm_Ru_get1V (va_Pc ([.ref (aw_r ad 0), .int (nI k)] : List Value) (ag_B D g N0 (az_Sh g ad zG zO zX zY zA zB zM zI zL zK zN zF zQ))) (va_Qi (fun r (_ : Unit) => r = v_Ru_get1V zB k) (fun (_ : Unit) t => ag_H D N0 (az_Sh g ad zG zO zX zY zA zB zM zI zL zK zN zF zQ) t.heap) (aw_Z N0)) 0 0 (aw_Z N0) := by
  refine Met.ofW (cc := b_Ru_get) (maxL := 2) (ret := (some .int)) (by decide) rfl ?_
  intro p e s m args below meth c s₁ B hml hv
  obtain ⟨rfl, ⟨L, hP, hD, hSh⟩, hU⟩ := hv
  have hx := B.exec
  have hb := B.bytes
  have hr := B.returns
  have hG : ∀ w ∈ aw_G, w.before _ s = true := fun w h => atoms_spec (ws := ws_Ru_get1V) B.pre w (List.mem_cons_of_mem _ h)
  have hown : s.vm.findClass "RuleCiphers" = some m.cls := findClass_of_methodNamed B.named
  have hlocks := B.notSynchronized
  have hE := hU.1
  have hK := hE.1
  have hN := hE.2.1
  have hS : va_S (aw_Z N0) s.heap s.heap [] := va_S.rf
  have hl := lv_entry ([.ref (aw_r ad 0), .int (nI k)] : List Value) (n := 2) (Nat.le_of_ble_eq_true rfl)
  rw [lg_entry_eq]
  generalize (lg_sl ([.ref (aw_r ad 0), .int (nI k)] : List Value) ++ List.replicate (2 - (lg_sl ([.ref (aw_r ad 0), .int (nI k)] : List Value)).length) Slot.unset).toArray = ls at hl ⊢
  have hl : lv_has ls 2 [(0, .ref (aw_r ad 0)), (1, .int (nI k))] := hl
  refine lv_iload_n hx hb d_Ru_get_0 rfl (lv_at hl 1 rfl) ?_
  refine aw_cv ((va_runS (As := [.int (nI k)]) (rest := []) ⟨hx, hb, hml, hown, hG⟩ (k_Ru_requirePlace1 l k hk) (aw_wS 1 hG gw_7_32 gw_7_30 gw_0_1 gw_7_31 rfl rfl hd_Ru_requirePlace ⟨Nat.le_of_ble_eq_true rfl, Nat.le_of_ble_eq_true rfl⟩) aw_p0 rfl rfl hl.1 rfl (lv_room (Nat.le_of_ble_eq_true rfl)) d_Ru_get_1 ⟨Nat.le_of_ble_eq_true rfl, Nat.le_of_ble_eq_true rfl⟩).run) ?_
  refine lv_aload_n hx hb d_Ru_get_4 rfl (lv_at hl 0 rfl) ?_
  have he1 := zr_R0 hSh
  refine va_get (C := R_Ru) (T := T_Ru) (N := 2) (v := .ref (aw_r ad 2)) hx hb hG in_Ru hown hK hP 0 he1 rfl 1 (by decide) (hG _ gw_2_29) (fun _ h => h) rfl d_Ru_get_5 ?_
  clear he1
  refine lv_iload_n hx hb d_Ru_get_8 rfl (lv_at hl 1 rfl) ?_
  have he2 := zr_R2 hSh
  refine aw_ild hx hb hK hP 2 0 he2 rfl (k := k) (by omega) (by decide) d_Ru_get_9 ?_
  clear he2
  refine ag_topi (fun x3 ex3 => ?_)
  exact W.iret hx hb hr (fun t ht hW => ⟨⟨_, (), rfl, (by subst ex3; rfl), ag_Hr ht hP hD hSh⟩, hS.F ht⟩) hS.2.2 d_Ru_get_10
abbrev ws_Ru_getXV : List Cond := Cond.code y_Ru_get b_Ru_get 2 (some .int) :: aw_G
abbrev rm_Ru_getXV : Room := { frames := 7, cells := 1, slots := 6, locals := 110 }
set_option maxHeartbeats 4000000 in
set_option maxRecDepth 100000 in
theorem k_Ru_getXV (l : Launch) (hst : l.stackTraces = false) (D : va_G) (g : Nat → ClassId) (ad : Nat → Nat) (N0 : Nat) (zG : Nat → Nat × Nat) (zO : Nat → Nat) (zX : Nat → Nat → Int64) (zY : Nat → Nat → Int32) (zA : Nat → Nat → Nat → Int32) (zB : Nat → Int32) (zM : Nat → Nat × Nat) (zI : Nat → Nat → Int32) (zL : Nat → Nat → Int64) (zK : Int32) (zN : Nat) (zF : Int32) (zQ : Int64) (p0 : Int32) (hc : p0 < 0 ∨ (¬ p0 < 0 ∧ ¬ p0 < nI 64)) : vx_Met l y_Ru_get ws_Ru_getXV rm_Ru_getXV (va_Pc ([.ref (aw_r ad 0), .int p0] : List Value) (ag_B D g N0 (az_Sh g ad zG zO zX zY zA zB zM zI zL zK zN zF zQ))) (va_Qv (fun (_ : Unit) => False) (fun (_ : Unit) _ => True) (aw_Z N0)) (vx_X (fun (_ : Unit) => True) (fun E (_ : Unit) t => E = "java/lang/IndexOutOfBoundsException" ∧ ag_H D N0 (az_Sh g ad zG zO zX zY zA zB zM zI zL zK zN zF zQ) t.heap) (aw_Z N0)) 1 6 (aw_Z N0) := by
  refine vx_ofW (cc := b_Ru_get) (maxL := 2) (ret := (some .int)) (by decide) rfl ?_
  intro p e s m args below meth c s₁ B hml hex hv
  obtain ⟨rfl, ⟨L, hP, hD, hSh⟩, hU⟩ := hv
  have hx := B.exec
  have hb := B.bytes
  have hr := B.returns
  have hG : ∀ w ∈ aw_G, w.before _ s = true := fun w h => atoms_spec (ws := ws_Ru_getXV) B.pre w (List.mem_cons_of_mem _ h)
  have hown : s.vm.findClass "RuleCiphers" = some m.cls := findClass_of_methodNamed B.named
  have hlocks := B.notSynchronized
  have hE := hU.1
  have hK := hE.1
  have hN := hE.2.1
  have hS : va_S (aw_Z N0) s.heap s.heap [] := va_S.rf
  have hl := lv_entry ([.ref (aw_r ad 0), .int p0] : List Value) (n := 2) (Nat.le_of_ble_eq_true rfl)
  rw [lg_entry_eq]
  generalize (lg_sl ([.ref (aw_r ad 0), .int p0] : List Value) ++ List.replicate (2 - (lg_sl ([.ref (aw_r ad 0), .int p0] : List Value)).length) Slot.unset).toArray = ls at hl ⊢
  have hl : lv_has ls 2 [(0, .ref (aw_r ad 0)), (1, .int p0)] := hl
  refine lv_iload_n hx hb d_Ru_get_0 rfl (lv_at hl 1 rfl) ?_
  refine vx_callv (vx_runS (As := [.int p0]) (rest := []) ⟨hx, hb, hml, hown, hG⟩ (k_Ru_requirePlaceXV l hst D g ad N0 zG zO zX zY zA zB zM zI zL zK zN zF zQ p0 hc) (aw_wS 1 hG gw_7_32 gw_7_30 gw_0_1 gw_7_31 rfl rfl hd_Ru_requirePlace ⟨Nat.le_of_ble_eq_true rfl, Nat.le_of_ble_eq_true rfl⟩) (ag_qS hP hD hSh hU hS) rfl rfl hl.1 rfl (lv_room (Nat.le_of_ble_eq_true rfl)) d_Ru_get_1 ⟨Nat.le_of_ble_eq_true rfl, Nat.le_of_ble_eq_true rfl⟩) hS (fun _ _ h => h) (fun _ h => h) (fun _ _ h => h) (fun E ce q9 u t H locs ht _ _ hBX _ _ hS hce hcv hcl => ?_) (fun u t H locs _ _ hF _ _ _ _ => hF.elim)
  obtain ⟨rfl, L, hP, hD, hSh⟩ := hBX
  rw [ht] at hP
  exact vx_out (fun x h => (hex x h).elim) hlocks hce hcv hcl (fun t9 ht9 _ => ⟨(), trivial, ⟨rfl, ag_Hr ht9 hP hD hSh⟩, hS.F ht9⟩) hS.2.2 (Nat.le_of_ble_eq_true rfl) (Nat.le_of_ble_eq_true rfl)
