noncomputable def v_Mo_choose1V_zM (zM : Nat → Nat × Nat) (zI : Nat → Nat → Int32) (j : Nat) (k : Nat) : Nat → Nat × Nat := aw_g1 zM j 1
noncomputable def v_Mo_choose1V_zI (zM : Nat → Nat × Nat) (zI : Nat → Nat → Int32) (j : Nat) (k : Nat) : Nat → Nat → Int32 := az_v (az_v zI 2 j (nI 1)) 3 j (nI k)
abbrev ws_Mo_choose1V : List Cond := Cond.code y_Mo_choose b_Mo_choose 3 none :: aw_G
abbrev rm_Mo_choose1V : Room := { frames := 1, cells := 0, slots := 0, locals := 21 }
set_option maxHeartbeats 4000000 in
set_option maxRecDepth 100000 in
theorem k_Mo_choose1V (l : Launch) (D : va_G) (g : Nat → ClassId) (ad : Nat → Nat) (N0 : Nat) (zG : Nat → Nat × Nat) (zO : Nat → Nat) (zX : Nat → Nat → Int64) (zY : Nat → Nat → Int32) (zA : Nat → Nat → Nat → Int32) (zB : Nat → Int32) (zM : Nat → Nat × Nat) (zI : Nat → Nat → Int32) (zL : Nat → Nat → Int64) (zK : Int32) (zN : Nat) (zF : Int32) (zQ : Int64) (j : Nat) (k : Nat) (hj : j < 4) (hk : k < 5) (hs : (zM j).1 = 0) : Met l y_Mo_choose ws_Mo_choose1V rm_Mo_choose1V (va_Pc ([.ref (aw_m ad 0), .int (nI j), .int (nI k)] : List Value) (ag_B D g N0 (az_Sh g ad zG zO zX zY zA zB zM zI zL zK zN zF zQ))) (va_Qv (fun (_ : Unit) => True) (fun (_ : Unit) t => ag_H D N0 (az_Sh g ad zG zO zX zY zA zB (v_Mo_choose1V_zM zM zI j k) (v_Mo_choose1V_zI zM zI j k) zL zK zN (nI 0) zQ) t.heap) (aw_Z N0)) 0 0 (aw_Z N0) := by
  refine Met.ofW (cc := b_Mo_choose) (maxL := 3) (ret := none) (by decide) rfl ?_
  intro p e s m args below meth c s₁ B hml hv
  obtain ⟨rfl, ⟨L, hP, hD, hSh⟩, hU⟩ := hv
  have hx := B.exec
  have hb := B.bytes
  have hr := B.returns
  have hG : ∀ w ∈ aw_G, w.before _ s = true := fun w h => atoms_spec (ws := ws_Mo_choose1V) B.pre w (List.mem_cons_of_mem _ h)
  have hown : s.vm.findClass "RuleCiphersModel" = some m.cls := findClass_of_methodNamed B.named
  have hlocks := B.notSynchronized
  have hE := hU.1
  have hK := hE.1
  have hN := hE.2.1
  have hS : va_S (aw_Z N0) s.heap s.heap [] := va_S.rf
  have hl := lv_entry ([.ref (aw_m ad 0), .int (nI j), .int (nI k)] : List Value) (n := 3) (Nat.le_of_ble_eq_true rfl)
  rw [lg_entry_eq]
  generalize (lg_sl ([.ref (aw_m ad 0), .int (nI j), .int (nI k)] : List Value) ++ List.replicate (3 - (lg_sl ([.ref (aw_m ad 0), .int (nI j), .int (nI k)] : List Value)).length) Slot.unset).toArray = ls at hl ⊢
  have hl : lv_has ls 3 [(0, .ref (aw_m ad 0)), (1, .int (nI j)), (2, .int (nI k))] := hl
  refine lv_aload_n hx hb d_Mo_choose_0 rfl (lv_at hl 0 rfl) ?_
  refine lv_iload_n hx hb d_Mo_choose_1 rfl (lv_at hl 1 rfl) ?_
  refine aw_ci ((va_runS (As := [.int (nI j)]) (rest := [.ref (aw_m ad 0)]) ⟨hx, hb, hml, hown, hG⟩ (k_Mo_isContext1 l j hj) (aw_wS 1 hG gw_10_34 gw_10_32 gw_0_10 gw_10_33 rfl rfl hd_Mo_isContext ⟨Nat.le_of_ble_eq_true rfl, Nat.le_of_ble_eq_true rfl⟩) aw_p0 rfl rfl hl.1 rfl (lv_room (Nat.le_of_ble_eq_true rfl)) d_Mo_choose_2 ⟨Nat.le_of_ble_eq_true rfl, Nat.le_of_ble_eq_true rfl⟩).run) (fun x1 hx1 => ?_)
  subst hx1
  refine lv_if_ne (tgt := 12) hx hb d_Mo_choose_5 (by decide) (fun _ => ?_) (fun h => absurd h (by decide +kernel))
  refine lv_iload_n hx hb d_Mo_choose_12 rfl (lv_at hl 2 rfl) ?_
  refine lv_if_lt (tgt := 21) hx hb d_Mo_choose_13 (by decide) (fun h => absurd h (show ¬ nI k < nI 0 from fun h9 => absurd ((nI_ltI (by omega) (by omega)).mp h9) (by omega))) (fun _ => ?_)
  refine lv_iload_n hx hb d_Mo_choose_16 rfl (lv_at hl 2 rfl) ?_
  refine lv_iconst (v := nI 4) hx hb d_Mo_choose_17 (by decide +kernel) ?_
  refine lv_icmp_le (tgt := 25) hx hb d_Mo_choose_18 (by decide) (fun _ => ?_) (fun h => absurd (show nI k ≤ nI 4 from (nI_leI (by omega) (by omega)).mpr (by omega)) h)
  refine lv_aload_n hx hb d_Mo_choose_25 rfl (lv_at hl 0 rfl) ?_
  obtain ⟨hsd3, he2⟩ := zr_M0 hSh
  refine va_get (C := R_Mo) (T := T_Mo) (N := 19) (v := .ref (aw_m ad 2)) hx hb hG in_Mo hown hK hP 67 he2 rfl 2 (by decide) (hG _ gw_9_27) (fun _ h => h) rfl d_Mo_choose_26 ?_
  clear he2
  refine lv_iload_n hx hb d_Mo_choose_29 rfl (lv_at hl 1 rfl) ?_
  obtain ⟨hsd5, he4⟩ := zr_M2 hSh
  refine aw_ild hx hb hK hP 69 0 he4 rfl (k := j) (by omega) (by decide) d_Mo_choose_30 ?_
  clear he4
  refine aw_ti (y := nI (zM j).1) (hsd5 _ (by omega)) ?_
  have hm := hSh.2.2.2.2.2 j (by omega)
  refine lv_if_eq (tgt := 38) hx hb d_Mo_choose_31 (by decide) (fun _ => ?_) (fun h => absurd (show nI ((zM j).1) = nI 0 from (nI_eq (by omega) (by omega)).mpr (by omega)) h)
  refine lv_iconst (v := nI 0) hx hb d_Mo_choose_38 (by decide +kernel) ?_
  obtain ⟨_, he6⟩ := zr_M0 hSh
  refine va_calli (va_runV (As := [.int (nI 0)]) (rest := []) ⟨hx, hb, hml, hown, hG⟩ (k_Mo_refused0V l D g ad N0 zG zO zX zY zA zB zM zI zL zK zN zF zQ) (aw_wV 1 hG gw_10_37 gw_10_35 gw_0_10 gw_10_36 gw_p_9 rfl rfl hd_Mo_refused ⟨Nat.le_of_ble_eq_true rfl, Nat.le_of_ble_eq_true rfl⟩) (ag_qV (va_recv hK hP rfl he6) hP hD hSh hU hS) rfl rfl hl.1 rfl (lv_room (Nat.le_of_ble_eq_true rfl)) d_Mo_choose_39 ⟨Nat.le_of_ble_eq_true rfl, Nat.le_of_ble_eq_true rfl⟩) hS (fun _ _ h => h) (fun _ h => h) ?_
  clear hP hD hSh hS he6
  intro x7 u8 t8 H locs ht _ ex7 hB _ _ hS
  obtain ⟨L, hP, hD, hSh⟩ := hB
  rw [ht] at hP
  clear ht
  subst ex7
  refine lv_if_ne (tgt := 59) hx hb d_Mo_choose_42 (by decide) (fun h => absurd (by decide +kernel) h) (fun _ => ?_)
  refine lv_aload_n hx hb d_Mo_choose_45 rfl (lv_at hl 0 rfl) ?_
  obtain ⟨hsd9, he8⟩ := zr_M0 hSh
  refine va_get (C := R_Mo) (T := T_Mo) (N := 19) (v := .ref (aw_m ad 2)) hx hb hG in_Mo hown hK hP 67 he8 rfl 2 (by decide) (hG _ gw_9_27) (fun _ h => h) rfl d_Mo_choose_46 ?_
  clear he8
  refine lv_iload_n hx hb d_Mo_choose_49 rfl (lv_at hl 1 rfl) ?_
  refine lv_iconst (v := nI 1) hx hb d_Mo_choose_50 (by decide +kernel) ?_
  obtain ⟨hsd11, he10⟩ := zr_M2 hSh
  refine ag_ist hx hb hK hP hD hS 69 0 he10 rfl (k := j) (by omega) (by decide) d_Mo_choose_51 (zw_M2 hSh j (by omega) 1 (by omega)) ?_
  clear hP hD hSh hS he10
  intro H locs L hP hD hSh hS
  obtain ⟨zM12, ezM12⟩ : ∃ z : Nat → Nat × Nat, aw_g1 zM j 1 = z := ⟨_, rfl⟩
  rw [ezM12] at hSh
  obtain ⟨zI13, ezI13⟩ : ∃ z : Nat → Nat → Int32, az_v zI 2 j (nI 1) = z := ⟨_, rfl⟩
  rw [ezI13] at hSh
  refine lv_aload_n hx hb d_Mo_choose_52 rfl (lv_at hl 0 rfl) ?_
  obtain ⟨hsd15, he14⟩ := zr_M0 hSh
  refine va_get (C := R_Mo) (T := T_Mo) (N := 19) (v := .ref (aw_m ad 3)) hx hb hG in_Mo hown hK hP 67 he14 rfl 3 (by decide) (hG _ gw_9_28) (fun _ h => h) rfl d_Mo_choose_53 ?_
  clear he14
  refine lv_iload_n hx hb d_Mo_choose_56 rfl (lv_at hl 1 rfl) ?_
  refine lv_iload_n hx hb d_Mo_choose_57 rfl (lv_at hl 2 rfl) ?_
  have he16 := zr_M3 hSh
  refine ag_ist hx hb hK hP hD hS 70 0 he16 rfl (k := j) (by omega) (by decide) d_Mo_choose_58 (zw_I3w hSh j (nI k)) ?_
  clear hP hD hSh hS he16
  intro H locs L hP hD hSh hS
  obtain ⟨zI17, ezI17⟩ : ∃ z : Nat → Nat → Int32, az_v zI13 3 j (nI k) = z := ⟨_, rfl⟩
  rw [ezI17] at hSh
  have gzM : zM12 = v_Mo_choose1V_zM zM zI j k := by subst ezI17 ezI13 ezM12; rfl
  have gzI : zI17 = v_Mo_choose1V_zI zM zI j k := by subst ezI17 ezI13 ezM12; rfl
  have hSh : az_Sh g ad zG zO zX zY zA zB (v_Mo_choose1V_zM zM zI j k) (v_Mo_choose1V_zI zM zI j k) zL zK zN (nI 0) zQ L := by rw [← gzM, ← gzI]; exact hSh
  exact W.vret hx hb hr (fun t ht hW => ⟨⟨(), rfl, trivial, ag_Hr ht hP hD hSh⟩, hS.F ht⟩) hS.2.2 d_Mo_choose_59
abbrev ws_Mo_chooseXcV : List Cond := Cond.code y_Mo_choose b_Mo_choose 3 none :: aw_G
abbrev rm_Mo_chooseXcV : Room := { frames := 1, cells := 0, slots := 0, locals := 21 }
set_option maxHeartbeats 4000000 in
set_option maxRecDepth 100000 in
theorem k_Mo_chooseXcV (l : Launch) (D : va_G) (g : Nat → ClassId) (ad : Nat → Nat) (N0 : Nat) (zG : Nat → Nat × Nat) (zO : Nat → Nat) (zX : Nat → Nat → Int64) (zY : Nat → Nat → Int32) (zA : Nat → Nat → Nat → Int32) (zB : Nat → Int32) (zM : Nat → Nat × Nat) (zI : Nat → Nat → Int32) (zL : Nat → Nat → Int64) (zK : Int32) (zN : Nat) (zF : Int32) (zQ : Int64) (c0 : Int32) (k0 : Int32) (hc : c0 < 0 ∨ (¬ c0 < 0 ∧ ¬ c0 < nI 4)) : Met l y_Mo_choose ws_Mo_chooseXcV rm_Mo_chooseXcV (va_Pc ([.ref (aw_m ad 0), .int c0, .int k0] : List Value) (ag_B D g N0 (az_Sh g ad zG zO zX zY zA zB zM zI zL zK zN zF zQ))) (va_Qv (fun (_ : Unit) => True) (fun (_ : Unit) t => ag_H D N0 (az_Sh g ad zG zO zX zY zA zB zM zI zL zK zN (nI 1) zQ) t.heap) (aw_Z N0)) 0 0 (aw_Z N0) := by
  refine Met.ofW (cc := b_Mo_choose) (maxL := 3) (ret := none) (by decide) rfl ?_
  intro p e s m args below meth c s₁ B hml hv
  obtain ⟨rfl, ⟨L, hP, hD, hSh⟩, hU⟩ := hv
  have hx := B.exec
  have hb := B.bytes
  have hr := B.returns
  have hG : ∀ w ∈ aw_G, w.before _ s = true := fun w h => atoms_spec (ws := ws_Mo_chooseXcV) B.pre w (List.mem_cons_of_mem _ h)
  have hown : s.vm.findClass "RuleCiphersModel" = some m.cls := findClass_of_methodNamed B.named
  have hlocks := B.notSynchronized
  have hE := hU.1
  have hK := hE.1
  have hN := hE.2.1
  have hS : va_S (aw_Z N0) s.heap s.heap [] := va_S.rf
  have hl := lv_entry ([.ref (aw_m ad 0), .int c0, .int k0] : List Value) (n := 3) (Nat.le_of_ble_eq_true rfl)
  rw [lg_entry_eq]
  generalize (lg_sl ([.ref (aw_m ad 0), .int c0, .int k0] : List Value) ++ List.replicate (3 - (lg_sl ([.ref (aw_m ad 0), .int c0, .int k0] : List Value)).length) Slot.unset).toArray = ls at hl ⊢
  have hl : lv_has ls 3 [(0, .ref (aw_m ad 0)), (1, .int c0), (2, .int k0)] := hl
  refine lv_aload_n hx hb d_Mo_choose_0 rfl (lv_at hl 0 rfl) ?_
  refine lv_iload_n hx hb d_Mo_choose_1 rfl (lv_at hl 1 rfl) ?_
  refine aw_ci ((va_runS (As := [.int c0]) (rest := [.ref (aw_m ad 0)]) ⟨hx, hb, hml, hown, hG⟩ (k_Mo_isContext0 l c0 hc) (aw_wS 1 hG gw_10_34 gw_10_32 gw_0_10 gw_10_33 rfl rfl hd_Mo_isContext ⟨Nat.le_of_ble_eq_true rfl, Nat.le_of_ble_eq_true rfl⟩) aw_p0 rfl rfl hl.1 rfl (lv_room (Nat.le_of_ble_eq_true rfl)) d_Mo_choose_2 ⟨Nat.le_of_ble_eq_true rfl, Nat.le_of_ble_eq_true rfl⟩).run) (fun x1 hx1 => ?_)
  subst hx1
  refine lv_if_ne (tgt := 12) hx hb d_Mo_choose_5 (by decide) (fun h => absurd (by decide +kernel) h) (fun _ => ?_)
  refine lv_iconst (v := nI 1) hx hb d_Mo_choose_8 (by decide +kernel) ?_
  refine lv_goto (tgt := 39) hx hb d_Mo_choose_9 (by decide) ?_
  obtain ⟨_, he2⟩ := zr_M0 hSh
  refine va_calli (va_runV (As := [.int (nI 1)]) (rest := []) ⟨hx, hb, hml, hown, hG⟩ (k_Mo_refused1V l D g ad N0 zG zO zX zY zA zB zM zI zL zK zN zF zQ 1 (by omega)) (aw_wV 1 hG gw_10_37 gw_10_35 gw_0_10 gw_10_36 gw_p_9 rfl rfl hd_Mo_refused ⟨Nat.le_of_ble_eq_true rfl, Nat.le_of_ble_eq_true rfl⟩) (ag_qV (va_recv hK hP rfl he2) hP hD hSh hU hS) rfl rfl hl.1 rfl (lv_room (Nat.le_of_ble_eq_true rfl)) d_Mo_choose_39 ⟨Nat.le_of_ble_eq_true rfl, Nat.le_of_ble_eq_true rfl⟩) hS (fun _ _ h => h) (fun _ h => h) ?_
  clear hP hD hSh hS he2
  intro x3 u8 t8 H locs ht _ ex3 hB _ _ hS
  obtain ⟨L, hP, hD, hSh⟩ := hB
  rw [ht] at hP
  clear ht
  subst ex3
  refine lv_if_ne (tgt := 59) hx hb d_Mo_choose_42 (by decide) (fun _ => ?_) (fun h => absurd h (by decide +kernel))
  exact W.vret hx hb hr (fun t ht hW => ⟨⟨(), rfl, trivial, ag_Hr ht hP hD hSh⟩, hS.F ht⟩) hS.2.2 d_Mo_choose_59
abbrev ws_Mo_chooseXaV : List Cond := Cond.code y_Mo_choose b_Mo_choose 3 none :: aw_G
abbrev rm_Mo_chooseXaV : Room := { frames := 1, cells := 0, slots := 0, locals := 21 }
set_option maxHeartbeats 4000000 in
set_option maxRecDepth 100000 in
theorem k_Mo_chooseXaV (l : Launch) (D : va_G) (g : Nat → ClassId) (ad : Nat → Nat) (N0 : Nat) (zG : Nat → Nat × Nat) (zO : Nat → Nat) (zX : Nat → Nat → Int64) (zY : Nat → Nat → Int32) (zA : Nat → Nat → Nat → Int32) (zB : Nat → Int32) (zM : Nat → Nat × Nat) (zI : Nat → Nat → Int32) (zL : Nat → Nat → Int64) (zK : Int32) (zN : Nat) (zF : Int32) (zQ : Int64) (j : Nat) (k0 : Int32) (hj : j < 4) (hk : k0 < 0 ∨ (¬ k0 < 0 ∧ nI 4 < k0)) : Met l y_Mo_choose ws_Mo_chooseXaV rm_Mo_chooseXaV (va_Pc ([.ref (aw_m ad 0), .int (nI j), .int k0] : List Value) (ag_B D g N0 (az_Sh g ad zG zO zX zY zA zB zM zI zL zK zN zF zQ))) (va_Qv (fun (_ : Unit) => True) (fun (_ : Unit) t => ag_H D N0 (az_Sh g ad zG zO zX zY zA zB zM zI zL zK zN (nI 2) zQ) t.heap) (aw_Z N0)) 0 0 (aw_Z N0) := by
  refine Met.ofW (cc := b_Mo_choose) (maxL := 3) (ret := none) (by decide) rfl ?_
  intro p e s m args below meth c s₁ B hml hv
  obtain ⟨rfl, ⟨L, hP, hD, hSh⟩, hU⟩ := hv
  have hx := B.exec
  have hb := B.bytes
  have hr := B.returns
  have hG : ∀ w ∈ aw_G, w.before _ s = true := fun w h => atoms_spec (ws := ws_Mo_chooseXaV) B.pre w (List.mem_cons_of_mem _ h)
  have hown : s.vm.findClass "RuleCiphersModel" = some m.cls := findClass_of_methodNamed B.named
  have hlocks := B.notSynchronized
  have hE := hU.1
  have hK := hE.1
  have hN := hE.2.1
  have hS : va_S (aw_Z N0) s.heap s.heap [] := va_S.rf
  have hl := lv_entry ([.ref (aw_m ad 0), .int (nI j), .int k0] : List Value) (n := 3) (Nat.le_of_ble_eq_true rfl)
  rw [lg_entry_eq]
  generalize (lg_sl ([.ref (aw_m ad 0), .int (nI j), .int k0] : List Value) ++ List.replicate (3 - (lg_sl ([.ref (aw_m ad 0), .int (nI j), .int k0] : List Value)).length) Slot.unset).toArray = ls at hl ⊢
  have hl : lv_has ls 3 [(0, .ref (aw_m ad 0)), (1, .int (nI j)), (2, .int k0)] := hl
  rcases hk with hk | hk
  · refine lv_aload_n hx hb d_Mo_choose_0 rfl (lv_at hl 0 rfl) ?_
    refine lv_iload_n hx hb d_Mo_choose_1 rfl (lv_at hl 1 rfl) ?_
    refine aw_ci ((va_runS (As := [.int (nI j)]) (rest := [.ref (aw_m ad 0)]) ⟨hx, hb, hml, hown, hG⟩ (k_Mo_isContext1 l j hj) (aw_wS 1 hG gw_10_34 gw_10_32 gw_0_10 gw_10_33 rfl rfl hd_Mo_isContext ⟨Nat.le_of_ble_eq_true rfl, Nat.le_of_ble_eq_true rfl⟩) aw_p0 rfl rfl hl.1 rfl (lv_room (Nat.le_of_ble_eq_true rfl)) d_Mo_choose_2 ⟨Nat.le_of_ble_eq_true rfl, Nat.le_of_ble_eq_true rfl⟩).run) (fun x1 hx1 => ?_)
    subst hx1
    refine lv_if_ne (tgt := 12) hx hb d_Mo_choose_5 (by decide) (fun _ => ?_) (fun h => absurd h (by decide +kernel))
    refine lv_iload_n hx hb d_Mo_choose_12 rfl (lv_at hl 2 rfl) ?_
    refine lv_if_lt (tgt := 21) hx hb d_Mo_choose_13 (by decide) (fun _ => ?_) (fun h => absurd hk h)
    refine lv_iconst (v := nI 2) hx hb d_Mo_choose_21 (by decide +kernel) ?_
    refine lv_goto (tgt := 39) hx hb d_Mo_choose_22 (by decide) ?_
    obtain ⟨_, he2⟩ := zr_M0 hSh
    refine va_calli (va_runV (As := [.int (nI 2)]) (rest := []) ⟨hx, hb, hml, hown, hG⟩ (k_Mo_refused1V l D g ad N0 zG zO zX zY zA zB zM zI zL zK zN zF zQ 2 (by omega)) (aw_wV 1 hG gw_10_37 gw_10_35 gw_0_10 gw_10_36 gw_p_9 rfl rfl hd_Mo_refused ⟨Nat.le_of_ble_eq_true rfl, Nat.le_of_ble_eq_true rfl⟩) (ag_qV (va_recv hK hP rfl he2) hP hD hSh hU hS) rfl rfl hl.1 rfl (lv_room (Nat.le_of_ble_eq_true rfl)) d_Mo_choose_39 ⟨Nat.le_of_ble_eq_true rfl, Nat.le_of_ble_eq_true rfl⟩) hS (fun _ _ h => h) (fun _ h => h) ?_
    clear hP hD hSh hS he2
    intro x3 u8 t8 H locs ht _ ex3 hB _ _ hS
    obtain ⟨L, hP, hD, hSh⟩ := hB
    rw [ht] at hP
    clear ht
    subst ex3
    refine lv_if_ne (tgt := 59) hx hb d_Mo_choose_42 (by decide) (fun _ => ?_) (fun h => absurd h (by decide +kernel))
    exact W.vret hx hb hr (fun t ht hW => ⟨⟨(), rfl, trivial, ag_Hr ht hP hD hSh⟩, hS.F ht⟩) hS.2.2 d_Mo_choose_59
  · refine lv_aload_n hx hb d_Mo_choose_0 rfl (lv_at hl 0 rfl) ?_
    refine lv_iload_n hx hb d_Mo_choose_1 rfl (lv_at hl 1 rfl) ?_
    refine aw_ci ((va_runS (As := [.int (nI j)]) (rest := [.ref (aw_m ad 0)]) ⟨hx, hb, hml, hown, hG⟩ (k_Mo_isContext1 l j hj) (aw_wS 1 hG gw_10_34 gw_10_32 gw_0_10 gw_10_33 rfl rfl hd_Mo_isContext ⟨Nat.le_of_ble_eq_true rfl, Nat.le_of_ble_eq_true rfl⟩) aw_p0 rfl rfl hl.1 rfl (lv_room (Nat.le_of_ble_eq_true rfl)) d_Mo_choose_2 ⟨Nat.le_of_ble_eq_true rfl, Nat.le_of_ble_eq_true rfl⟩).run) (fun x4 hx4 => ?_)
    subst hx4
    refine lv_if_ne (tgt := 12) hx hb d_Mo_choose_5 (by decide) (fun _ => ?_) (fun h => absurd h (by decide +kernel))
    refine lv_iload_n hx hb d_Mo_choose_12 rfl (lv_at hl 2 rfl) ?_
    refine lv_if_lt (tgt := 21) hx hb d_Mo_choose_13 (by decide) (fun h => absurd h hk.1) (fun _ => ?_)
    refine lv_iload_n hx hb d_Mo_choose_16 rfl (lv_at hl 2 rfl) ?_
    refine lv_iconst (v := nI 4) hx hb d_Mo_choose_17 (by decide +kernel) ?_
    refine lv_icmp_le (tgt := 25) hx hb d_Mo_choose_18 (by decide) (fun h => absurd h (fun h9 => absurd hk.2 (Int32.not_lt.mpr h9))) (fun _ => ?_)
    refine lv_iconst (v := nI 2) hx hb d_Mo_choose_21 (by decide +kernel) ?_
    refine lv_goto (tgt := 39) hx hb d_Mo_choose_22 (by decide) ?_
    obtain ⟨_, he5⟩ := zr_M0 hSh
    refine va_calli (va_runV (As := [.int (nI 2)]) (rest := []) ⟨hx, hb, hml, hown, hG⟩ (k_Mo_refused1V l D g ad N0 zG zO zX zY zA zB zM zI zL zK zN zF zQ 2 (by omega)) (aw_wV 1 hG gw_10_37 gw_10_35 gw_0_10 gw_10_36 gw_p_9 rfl rfl hd_Mo_refused ⟨Nat.le_of_ble_eq_true rfl, Nat.le_of_ble_eq_true rfl⟩) (ag_qV (va_recv hK hP rfl he5) hP hD hSh hU hS) rfl rfl hl.1 rfl (lv_room (Nat.le_of_ble_eq_true rfl)) d_Mo_choose_39 ⟨Nat.le_of_ble_eq_true rfl, Nat.le_of_ble_eq_true rfl⟩) hS (fun _ _ h => h) (fun _ h => h) ?_
    clear hP hD hSh hS he5
    intro x6 u8 t8 H locs ht _ ex6 hB _ _ hS
    obtain ⟨L, hP, hD, hSh⟩ := hB
    rw [ht] at hP
    clear ht
    subst ex6
    refine lv_if_ne (tgt := 59) hx hb d_Mo_choose_42 (by decide) (fun _ => ?_) (fun h => absurd h (by decide +kernel))
    exact W.vret hx hb hr (fun t ht hW => ⟨⟨(), rfl, trivial, ag_Hr ht hP hD hSh⟩, hS.F ht⟩) hS.2.2 d_Mo_choose_59
abbrev ws_Mo_chooseXsV : List Cond := Cond.code y_Mo_choose b_Mo_choose 3 none :: aw_G
abbrev rm_Mo_chooseXsV : Room := { frames := 1, cells := 0, slots := 0, locals := 21 }
set_option maxHeartbeats 4000000 in
set_option maxRecDepth 100000 in
theorem k_Mo_chooseXsV (l : Launch) (D : va_G) (g : Nat → ClassId) (ad : Nat → Nat) (N0 : Nat) (zG : Nat → Nat × Nat) (zO : Nat → Nat) (zX : Nat → Nat → Int64) (zY : Nat → Nat → Int32) (zA : Nat → Nat → Nat → Int32) (zB : Nat → Int32) (zM : Nat → Nat × Nat) (zI : Nat → Nat → Int32) (zL : Nat → Nat → Int64) (zK : Int32) (zN : Nat) (zF : Int32) (zQ : Int64) (j : Nat) (k : Nat) (hj : j < 4) (hk : k < 5) (hs : 1 ≤ (zM j).1) : Met l y_Mo_choose ws_Mo_chooseXsV rm_Mo_chooseXsV (va_Pc ([.ref (aw_m ad 0), .int (nI j), .int (nI k)] : List Value) (ag_B D g N0 (az_Sh g ad zG zO zX zY zA zB zM zI zL zK zN zF zQ))) (va_Qv (fun (_ : Unit) => True) (fun (_ : Unit) t => ag_H D N0 (az_Sh g ad zG zO zX zY zA zB zM zI zL zK zN (nI 3) zQ) t.heap) (aw_Z N0)) 0 0 (aw_Z N0) := by
  refine Met.ofW (cc := b_Mo_choose) (maxL := 3) (ret := none) (by decide) rfl ?_
  intro p e s m args below meth c s₁ B hml hv
  obtain ⟨rfl, ⟨L, hP, hD, hSh⟩, hU⟩ := hv
  have hx := B.exec
  have hb := B.bytes
  have hr := B.returns
  have hG : ∀ w ∈ aw_G, w.before _ s = true := fun w h => atoms_spec (ws := ws_Mo_chooseXsV) B.pre w (List.mem_cons_of_mem _ h)
  have hown : s.vm.findClass "RuleCiphersModel" = some m.cls := findClass_of_methodNamed B.named
  have hlocks := B.notSynchronized
  have hE := hU.1
  have hK := hE.1
  have hN := hE.2.1
  have hS : va_S (aw_Z N0) s.heap s.heap [] := va_S.rf
  have hl := lv_entry ([.ref (aw_m ad 0), .int (nI j), .int (nI k)] : List Value) (n := 3) (Nat.le_of_ble_eq_true rfl)
  rw [lg_entry_eq]
  generalize (lg_sl ([.ref (aw_m ad 0), .int (nI j), .int (nI k)] : List Value) ++ List.replicate (3 - (lg_sl ([.ref (aw_m ad 0), .int (nI j), .int (nI k)] : List Value)).length) Slot.unset).toArray = ls at hl ⊢
  have hl : lv_has ls 3 [(0, .ref (aw_m ad 0)), (1, .int (nI j)), (2, .int (nI k))] := hl
  refine lv_aload_n hx hb d_Mo_choose_0 rfl (lv_at hl 0 rfl) ?_
  refine lv_iload_n hx hb d_Mo_choose_1 rfl (lv_at hl 1 rfl) ?_
  refine aw_ci ((va_runS (As := [.int (nI j)]) (rest := [.ref (aw_m ad 0)]) ⟨hx, hb, hml, hown, hG⟩ (k_Mo_isContext1 l j hj) (aw_wS 1 hG gw_10_34 gw_10_32 gw_0_10 gw_10_33 rfl rfl hd_Mo_isContext ⟨Nat.le_of_ble_eq_true rfl, Nat.le_of_ble_eq_true rfl⟩) aw_p0 rfl rfl hl.1 rfl (lv_room (Nat.le_of_ble_eq_true rfl)) d_Mo_choose_2 ⟨Nat.le_of_ble_eq_true rfl, Nat.le_of_ble_eq_true rfl⟩).run) (fun x1 hx1 => ?_)
  subst hx1
  refine lv_if_ne (tgt := 12) hx hb d_Mo_choose_5 (by decide) (fun _ => ?_) (fun h => absurd h (by decide +kernel))
  refine lv_iload_n hx hb d_Mo_choose_12 rfl (lv_at hl 2 rfl) ?_
  refine lv_if_lt (tgt := 21) hx hb d_Mo_choose_13 (by decide) (fun h => absurd h (show ¬ nI k < nI 0 from fun h9 => absurd ((nI_ltI (by omega) (by omega)).mp h9) (by omega))) (fun _ => ?_)
  refine lv_iload_n hx hb d_Mo_choose_16 rfl (lv_at hl 2 rfl) ?_
  refine lv_iconst (v := nI 4) hx hb d_Mo_choose_17 (by decide +kernel) ?_
  refine lv_icmp_le (tgt := 25) hx hb d_Mo_choose_18 (by decide) (fun _ => ?_) (fun h => absurd (show nI k ≤ nI 4 from (nI_leI (by omega) (by omega)).mpr (by omega)) h)
  refine lv_aload_n hx hb d_Mo_choose_25 rfl (lv_at hl 0 rfl) ?_
  obtain ⟨hsd3, he2⟩ := zr_M0 hSh
  refine va_get (C := R_Mo) (T := T_Mo) (N := 19) (v := .ref (aw_m ad 2)) hx hb hG in_Mo hown hK hP 67 he2 rfl 2 (by decide) (hG _ gw_9_27) (fun _ h => h) rfl d_Mo_choose_26 ?_
  clear he2
  refine lv_iload_n hx hb d_Mo_choose_29 rfl (lv_at hl 1 rfl) ?_
  obtain ⟨hsd5, he4⟩ := zr_M2 hSh
  refine aw_ild hx hb hK hP 69 0 he4 rfl (k := j) (by omega) (by decide) d_Mo_choose_30 ?_
  clear he4
  refine aw_ti (y := nI (zM j).1) (hsd5 _ (by omega)) ?_
  have hm := hSh.2.2.2.2.2 j (by omega)
  refine lv_if_eq (tgt := 38) hx hb d_Mo_choose_31 (by decide) (fun h => absurd h (show ¬ nI ((zM j).1) = nI 0 from fun h9 => absurd ((nI_eq (by omega) (by omega)).mp h9) (by omega))) (fun _ => ?_)
  refine lv_iconst (v := nI 3) hx hb d_Mo_choose_34 (by decide +kernel) ?_
  refine lv_goto (tgt := 39) hx hb d_Mo_choose_35 (by decide) ?_
  obtain ⟨_, he6⟩ := zr_M0 hSh
  refine va_calli (va_runV (As := [.int (nI 3)]) (rest := []) ⟨hx, hb, hml, hown, hG⟩ (k_Mo_refused1V l D g ad N0 zG zO zX zY zA zB zM zI zL zK zN zF zQ 3 (by omega)) (aw_wV 1 hG gw_10_37 gw_10_35 gw_0_10 gw_10_36 gw_p_9 rfl rfl hd_Mo_refused ⟨Nat.le_of_ble_eq_true rfl, Nat.le_of_ble_eq_true rfl⟩) (ag_qV (va_recv hK hP rfl he6) hP hD hSh hU hS) rfl rfl hl.1 rfl (lv_room (Nat.le_of_ble_eq_true rfl)) d_Mo_choose_39 ⟨Nat.le_of_ble_eq_true rfl, Nat.le_of_ble_eq_true rfl⟩) hS (fun _ _ h => h) (fun _ h => h) ?_
  clear hP hD hSh hS he6
  intro x7 u8 t8 H locs ht _ ex7 hB _ _ hS
  obtain ⟨L, hP, hD, hSh⟩ := hB
  rw [ht] at hP
  clear ht
  subst ex7
  refine lv_if_ne (tgt := 59) hx hb d_Mo_choose_42 (by decide) (fun _ => ?_) (fun h => absurd h (by decide +kernel))
  exact W.vret hx hb hr (fun t ht hW => ⟨⟨(), rfl, trivial, ag_Hr ht hP hD hSh⟩, hS.F ht⟩) hS.2.2 d_Mo_choose_59
noncomputable def v_Mo_key1V_zM (zM : Nat → Nat × Nat) (zI : Nat → Nat → Int32) (zL : Nat → Nat → Int64) (j : Nat) (a : Int64) (b : Int64) : Nat → Nat × Nat := aw_g1 zM j 2
noncomputable def v_Mo_key1V_zI (zM : Nat → Nat × Nat) (zI : Nat → Nat → Int32) (zL : Nat → Nat → Int64) (j : Nat) (a : Int64) (b : Int64) : Nat → Nat → Int32 := az_v zI 2 j (nI 2)
noncomputable def v_Mo_key1V_zL (zM : Nat → Nat × Nat) (zI : Nat → Nat → Int32) (zL : Nat → Nat → Int64) (j : Nat) (a : Int64) (b : Int64) : Nat → Nat → Int64 := az_vl (az_vl zL 4 j a) 5 j b
abbrev ws_Mo_key1V : List Cond := Cond.code y_Mo_key b_Mo_key 6 none :: aw_G
abbrev rm_Mo_key1V : Room := { frames := 1, cells := 0, slots := 0, locals := 21 }
set_option maxHeartbeats 4000000 in
set_option maxRecDepth 100000 in
theorem k_Mo_key1V (l : Launch) (D : va_G) (g : Nat → ClassId) (ad : Nat → Nat) (N0 : Nat) (zG : Nat → Nat × Nat) (zO : Nat → Nat) (zX : Nat → Nat → Int64) (zY : Nat → Nat → Int32) (zA : Nat → Nat → Nat → Int32) (zB : Nat → Int32) (zM : Nat → Nat × Nat) (zI : Nat → Nat → Int32) (zL : Nat → Nat → Int64) (zK : Int32) (zN : Nat) (zF : Int32) (zQ : Int64) (j : Nat) (a : Int64) (b : Int64) (hj : j < 4) (hs : 1 ≤ (zM j).1) : Met l y_Mo_key ws_Mo_key1V rm_Mo_key1V (va_Pc ([.ref (aw_m ad 0), .int (nI j), .long a, .long b] : List Value) (ag_B D g N0 (az_Sh g ad zG zO zX zY zA zB zM zI zL zK zN zF zQ))) (va_Qv (fun (_ : Unit) => True) (fun (_ : Unit) t => ag_H D N0 (az_Sh g ad zG zO zX zY zA zB (v_Mo_key1V_zM zM zI zL j a b) (v_Mo_key1V_zI zM zI zL j a b) (v_Mo_key1V_zL zM zI zL j a b) zK zN (nI 0) zQ) t.heap) (aw_Z N0)) 0 0 (aw_Z N0) := by
  refine Met.ofW (cc := b_Mo_key) (maxL := 6) (ret := none) (by decide) rfl ?_
  intro p e s m args below meth c s₁ B hml hv
  obtain ⟨rfl, ⟨L, hP, hD, hSh⟩, hU⟩ := hv
  have hx := B.exec
  have hb := B.bytes
  have hr := B.returns
  have hG : ∀ w ∈ aw_G, w.before _ s = true := fun w h => atoms_spec (ws := ws_Mo_key1V) B.pre w (List.mem_cons_of_mem _ h)
  have hown : s.vm.findClass "RuleCiphersModel" = some m.cls := findClass_of_methodNamed B.named
  have hlocks := B.notSynchronized
  have hE := hU.1
  have hK := hE.1
  have hN := hE.2.1
  have hS : va_S (aw_Z N0) s.heap s.heap [] := va_S.rf
  have hl := lv_entry ([.ref (aw_m ad 0), .int (nI j), .long a, .long b] : List Value) (n := 6) (Nat.le_of_ble_eq_true rfl)
  rw [lg_entry_eq]
  generalize (lg_sl ([.ref (aw_m ad 0), .int (nI j), .long a, .long b] : List Value) ++ List.replicate (6 - (lg_sl ([.ref (aw_m ad 0), .int (nI j), .long a, .long b] : List Value)).length) Slot.unset).toArray = ls at hl ⊢
  have hl : lv_has ls 6 [(0, .ref (aw_m ad 0)), (1, .int (nI j)), (2, .long a), (4, .long b)] := hl
  refine lv_aload_n hx hb d_Mo_key_0 rfl (lv_at hl 0 rfl) ?_
  refine lv_iload_n hx hb d_Mo_key_1 rfl (lv_at hl 1 rfl) ?_
  refine aw_ci ((va_runS (As := [.int (nI j)]) (rest := [.ref (aw_m ad 0)]) ⟨hx, hb, hml, hown, hG⟩ (k_Mo_isContext1 l j hj) (aw_wS 1 hG gw_10_34 gw_10_32 gw_0_10 gw_10_33 rfl rfl hd_Mo_isContext ⟨Nat.le_of_ble_eq_true rfl, Nat.le_of_ble_eq_true rfl⟩) aw_p0 rfl rfl hl.1 rfl (lv_room (Nat.le_of_ble_eq_true rfl)) d_Mo_key_2 ⟨Nat.le_of_ble_eq_true rfl, Nat.le_of_ble_eq_true rfl⟩).run) (fun x1 hx1 => ?_)
  subst hx1
  refine lv_if_ne (tgt := 12) hx hb d_Mo_key_5 (by decide) (fun _ => ?_) (fun h => absurd h (by decide +kernel))
  refine lv_aload_n hx hb d_Mo_key_12 rfl (lv_at hl 0 rfl) ?_
  obtain ⟨hsd3, he2⟩ := zr_M0 hSh
  refine va_get (C := R_Mo) (T := T_Mo) (N := 19) (v := .ref (aw_m ad 2)) hx hb hG in_Mo hown hK hP 67 he2 rfl 2 (by decide) (hG _ gw_9_27) (fun _ h => h) rfl d_Mo_key_13 ?_
  clear he2
  refine lv_iload_n hx hb d_Mo_key_16 rfl (lv_at hl 1 rfl) ?_
  obtain ⟨hsd5, he4⟩ := zr_M2 hSh
  refine aw_ild hx hb hK hP 69 0 he4 rfl (k := j) (by omega) (by decide) d_Mo_key_17 ?_
  clear he4
  refine aw_ti (y := nI (zM j).1) (hsd5 _ (by omega)) ?_
  have hm := hSh.2.2.2.2.2 j (by omega)
  refine lv_if_ne (tgt := 25) hx hb d_Mo_key_18 (by decide) (fun _ => ?_) (fun h => absurd h (show ¬ nI ((zM j).1) = nI 0 from fun h9 => absurd ((nI_eq (by omega) (by omega)).mp h9) (by omega)))
  refine lv_iconst (v := nI 0) hx hb d_Mo_key_25 (by decide +kernel) ?_
  obtain ⟨_, he6⟩ := zr_M0 hSh
  refine va_calli (va_runV (As := [.int (nI 0)]) (rest := []) ⟨hx, hb, hml, hown, hG⟩ (k_Mo_refused0V l D g ad N0 zG zO zX zY zA zB zM zI zL zK zN zF zQ) (aw_wV 1 hG gw_10_37 gw_10_35 gw_0_10 gw_10_36 gw_p_9 rfl rfl hd_Mo_refused ⟨Nat.le_of_ble_eq_true rfl, Nat.le_of_ble_eq_true rfl⟩) (ag_qV (va_recv hK hP rfl he6) hP hD hSh hU hS) rfl rfl hl.1 rfl (lv_room (Nat.le_of_ble_eq_true rfl)) d_Mo_key_26 ⟨Nat.le_of_ble_eq_true rfl, Nat.le_of_ble_eq_true rfl⟩) hS (fun _ _ h => h) (fun _ h => h) ?_
  clear hP hD hSh hS he6
  intro x7 u8 t8 H locs ht _ ex7 hB _ _ hS
  obtain ⟨L, hP, hD, hSh⟩ := hB
  rw [ht] at hP
  clear ht
  subst ex7
  refine lv_if_ne (tgt := 54) hx hb d_Mo_key_29 (by decide) (fun h => absurd (by decide +kernel) h) (fun _ => ?_)
  refine lv_aload_n hx hb d_Mo_key_32 rfl (lv_at hl 0 rfl) ?_
  obtain ⟨hsd9, he8⟩ := zr_M0 hSh
  refine va_get (C := R_Mo) (T := T_Mo) (N := 19) (v := .ref (aw_m ad 2)) hx hb hG in_Mo hown hK hP 67 he8 rfl 2 (by decide) (hG _ gw_9_27) (fun _ h => h) rfl d_Mo_key_33 ?_
  clear he8
  refine lv_iload_n hx hb d_Mo_key_36 rfl (lv_at hl 1 rfl) ?_
  refine lv_iconst (v := nI 2) hx hb d_Mo_key_37 (by decide +kernel) ?_
  obtain ⟨hsd11, he10⟩ := zr_M2 hSh
  refine ag_ist hx hb hK hP hD hS 69 0 he10 rfl (k := j) (by omega) (by decide) d_Mo_key_38 (zw_M2 hSh j (by omega) 2 (by omega)) ?_
  clear hP hD hSh hS he10
  intro H locs L hP hD hSh hS
  obtain ⟨zM12, ezM12⟩ : ∃ z : Nat → Nat × Nat, aw_g1 zM j 2 = z := ⟨_, rfl⟩
  rw [ezM12] at hSh
  obtain ⟨zI13, ezI13⟩ : ∃ z : Nat → Nat → Int32, az_v zI 2 j (nI 2) = z := ⟨_, rfl⟩
  rw [ezI13] at hSh
  refine lv_aload_n hx hb d_Mo_key_39 rfl (lv_at hl 0 rfl) ?_
  obtain ⟨hsd15, he14⟩ := zr_M0 hSh
  refine va_get (C := R_Mo) (T := T_Mo) (N := 19) (v := .ref (aw_m ad 4)) hx hb hG in_Mo hown hK hP 67 he14 rfl 4 (by decide) (hG _ gw_9_29) (fun _ h => h) rfl d_Mo_key_40 ?_
  clear he14
  refine lv_iload_n hx hb d_Mo_key_43 rfl (lv_at hl 1 rfl) ?_
  refine lv_lload_n hx hb d_Mo_key_44 rfl (lv_at hl 2 rfl) ?_
  have he16 := zr_M4 hSh
  refine ag_lst hx hb hK hP hD hS 71 1 he16 rfl (k := j) (by omega) (by decide) d_Mo_key_45 (zw_L4w hSh j a) ?_
  clear hP hD hSh hS he16
  intro H locs L hP hD hSh hS
  obtain ⟨zL17, ezL17⟩ : ∃ z : Nat → Nat → Int64, az_vl zL 4 j a = z := ⟨_, rfl⟩
  rw [ezL17] at hSh
  refine lv_aload_n hx hb d_Mo_key_46 rfl (lv_at hl 0 rfl) ?_
  obtain ⟨hsd19, he18⟩ := zr_M0 hSh
  refine va_get (C := R_Mo) (T := T_Mo) (N := 19) (v := .ref (aw_m ad 5)) hx hb hG in_Mo hown hK hP 67 he18 rfl 5 (by decide) (hG _ gw_9_30) (fun _ h => h) rfl d_Mo_key_47 ?_
  clear he18
  refine lv_iload_n hx hb d_Mo_key_50 rfl (lv_at hl 1 rfl) ?_
  refine lv_lload hx hb d_Mo_key_51 (lv_at hl 3 rfl) ?_
  have he20 := zr_M5 hSh
  refine ag_lst hx hb hK hP hD hS 72 1 he20 rfl (k := j) (by omega) (by decide) d_Mo_key_53 (zw_L5w hSh j b) ?_
  clear hP hD hSh hS he20
  intro H locs L hP hD hSh hS
  obtain ⟨zL21, ezL21⟩ : ∃ z : Nat → Nat → Int64, az_vl zL17 5 j b = z := ⟨_, rfl⟩
  rw [ezL21] at hSh
  have gzM : zM12 = v_Mo_key1V_zM zM zI zL j a b := by subst ezL21 ezL17 ezI13 ezM12; rfl
  have gzI : zI13 = v_Mo_key1V_zI zM zI zL j a b := by subst ezL21 ezL17 ezI13 ezM12; rfl
  have gzL : zL21 = v_Mo_key1V_zL zM zI zL j a b := by subst ezL21 ezL17 ezI13 ezM12; rfl
  have hSh : az_Sh g ad zG zO zX zY zA zB (v_Mo_key1V_zM zM zI zL j a b) (v_Mo_key1V_zI zM zI zL j a b) (v_Mo_key1V_zL zM zI zL j a b) zK zN (nI 0) zQ L := by rw [← gzM, ← gzI, ← gzL]; exact hSh
  exact W.vret hx hb hr (fun t ht hW => ⟨⟨(), rfl, trivial, ag_Hr ht hP hD hSh⟩, hS.F ht⟩) hS.2.2 d_Mo_key_54
abbrev ws_Mo_keyXcV : List Cond := Cond.code y_Mo_key b_Mo_key 6 none :: aw_G
abbrev rm_Mo_keyXcV : Room := { frames := 1, cells := 0, slots := 0, locals := 21 }
set_option maxHeartbeats 4000000 in
set_option maxRecDepth 100000 in
theorem k_Mo_keyXcV (l : Launch) (D : va_G) (g : Nat → ClassId) (ad : Nat → Nat) (N0 : Nat) (zG : Nat → Nat × Nat) (zO : Nat → Nat) (zX : Nat → Nat → Int64) (zY : Nat → Nat → Int32) (zA : Nat → Nat → Nat → Int32) (zB : Nat → Int32) (zM : Nat → Nat × Nat) (zI : Nat → Nat → Int32) (zL : Nat → Nat → Int64) (zK : Int32) (zN : Nat) (zF : Int32) (zQ : Int64) (c0 : Int32) (a : Int64) (b : Int64) (hc : c0 < 0 ∨ (¬ c0 < 0 ∧ ¬ c0 < nI 4)) : Met l y_Mo_key ws_Mo_keyXcV rm_Mo_keyXcV (va_Pc ([.ref (aw_m ad 0), .int c0, .long a, .long b] : List Value) (ag_B D g N0 (az_Sh g ad zG zO zX zY zA zB zM zI zL zK zN zF zQ))) (va_Qv (fun (_ : Unit) => True) (fun (_ : Unit) t => ag_H D N0 (az_Sh g ad zG zO zX zY zA zB zM zI zL zK zN (nI 1) zQ) t.heap) (aw_Z N0)) 0 0 (aw_Z N0) := by
  refine Met.ofW (cc := b_Mo_key) (maxL := 6) (ret := none) (by decide) rfl ?_
  intro p e s m args below meth c s₁ B hml hv
  obtain ⟨rfl, ⟨L, hP, hD, hSh⟩, hU⟩ := hv
  have hx := B.exec
  have hb := B.bytes
  have hr := B.returns
  have hG : ∀ w ∈ aw_G, w.before _ s = true := fun w h => atoms_spec (ws := ws_Mo_keyXcV) B.pre w (List.mem_cons_of_mem _ h)
  have hown : s.vm.findClass "RuleCiphersModel" = some m.cls := findClass_of_methodNamed B.named
  have hlocks := B.notSynchronized
  have hE := hU.1
  have hK := hE.1
  have hN := hE.2.1
  have hS : va_S (aw_Z N0) s.heap s.heap [] := va_S.rf
  have hl := lv_entry ([.ref (aw_m ad 0), .int c0, .long a, .long b] : List Value) (n := 6) (Nat.le_of_ble_eq_true rfl)
  rw [lg_entry_eq]
  generalize (lg_sl ([.ref (aw_m ad 0), .int c0, .long a, .long b] : List Value) ++ List.replicate (6 - (lg_sl ([.ref (aw_m ad 0), .int c0, .long a, .long b] : List Value)).length) Slot.unset).toArray = ls at hl ⊢
  have hl : lv_has ls 6 [(0, .ref (aw_m ad 0)), (1, .int c0), (2, .long a), (4, .long b)] := hl
  refine lv_aload_n hx hb d_Mo_key_0 rfl (lv_at hl 0 rfl) ?_
  refine lv_iload_n hx hb d_Mo_key_1 rfl (lv_at hl 1 rfl) ?_
  refine aw_ci ((va_runS (As := [.int c0]) (rest := [.ref (aw_m ad 0)]) ⟨hx, hb, hml, hown, hG⟩ (k_Mo_isContext0 l c0 hc) (aw_wS 1 hG gw_10_34 gw_10_32 gw_0_10 gw_10_33 rfl rfl hd_Mo_isContext ⟨Nat.le_of_ble_eq_true rfl, Nat.le_of_ble_eq_true rfl⟩) aw_p0 rfl rfl hl.1 rfl (lv_room (Nat.le_of_ble_eq_true rfl)) d_Mo_key_2 ⟨Nat.le_of_ble_eq_true rfl, Nat.le_of_ble_eq_true rfl⟩).run) (fun x1 hx1 => ?_)
  subst hx1
  refine lv_if_ne (tgt := 12) hx hb d_Mo_key_5 (by decide) (fun h => absurd (by decide +kernel) h) (fun _ => ?_)
  refine lv_iconst (v := nI 1) hx hb d_Mo_key_8 (by decide +kernel) ?_
  refine lv_goto (tgt := 26) hx hb d_Mo_key_9 (by decide) ?_
  obtain ⟨_, he2⟩ := zr_M0 hSh
  refine va_calli (va_runV (As := [.int (nI 1)]) (rest := []) ⟨hx, hb, hml, hown, hG⟩ (k_Mo_refused1V l D g ad N0 zG zO zX zY zA zB zM zI zL zK zN zF zQ 1 (by omega)) (aw_wV 1 hG gw_10_37 gw_10_35 gw_0_10 gw_10_36 gw_p_9 rfl rfl hd_Mo_refused ⟨Nat.le_of_ble_eq_true rfl, Nat.le_of_ble_eq_true rfl⟩) (ag_qV (va_recv hK hP rfl he2) hP hD hSh hU hS) rfl rfl hl.1 rfl (lv_room (Nat.le_of_ble_eq_true rfl)) d_Mo_key_26 ⟨Nat.le_of_ble_eq_true rfl, Nat.le_of_ble_eq_true rfl⟩) hS (fun _ _ h => h) (fun _ h => h) ?_
  clear hP hD hSh hS he2
  intro x3 u8 t8 H locs ht _ ex3 hB _ _ hS
  obtain ⟨L, hP, hD, hSh⟩ := hB
  rw [ht] at hP
  clear ht
  subst ex3
  refine lv_if_ne (tgt := 54) hx hb d_Mo_key_29 (by decide) (fun _ => ?_) (fun h => absurd h (by decide +kernel))
  exact W.vret hx hb hr (fun t ht hW => ⟨⟨(), rfl, trivial, ag_Hr ht hP hD hSh⟩, hS.F ht⟩) hS.2.2 d_Mo_key_54
abbrev ws_Mo_keyXsV : List Cond := Cond.code y_Mo_key b_Mo_key 6 none :: aw_G
abbrev rm_Mo_keyXsV : Room := { frames := 1, cells := 0, slots := 0, locals := 21 }
set_option maxHeartbeats 4000000 in
set_option maxRecDepth 100000 in
theorem k_Mo_keyXsV (l : Launch) (D : va_G) (g : Nat → ClassId) (ad : Nat → Nat) (N0 : Nat) (zG : Nat → Nat × Nat) (zO : Nat → Nat) (zX : Nat → Nat → Int64) (zY : Nat → Nat → Int32) (zA : Nat → Nat → Nat → Int32) (zB : Nat → Int32) (zM : Nat → Nat × Nat) (zI : Nat → Nat → Int32) (zL : Nat → Nat → Int64) (zK : Int32) (zN : Nat) (zF : Int32) (zQ : Int64) (j : Nat) (a : Int64) (b : Int64) (hj : j < 4) (hs : (zM j).1 = 0) : Met l y_Mo_key ws_Mo_keyXsV rm_Mo_keyXsV (va_Pc ([.ref (aw_m ad 0), .int (nI j), .long a, .long b] : List Value) (ag_B D g N0 (az_Sh g ad zG zO zX zY zA zB zM zI zL zK zN zF zQ))) (va_Qv (fun (_ : Unit) => True) (fun (_ : Unit) t => ag_H D N0 (az_Sh g ad zG zO zX zY zA zB zM zI zL zK zN (nI 2) zQ) t.heap) (aw_Z N0)) 0 0 (aw_Z N0) := by
  refine Met.ofW (cc := b_Mo_key) (maxL := 6) (ret := none) (by decide) rfl ?_
  intro p e s m args below meth c s₁ B hml hv
  obtain ⟨rfl, ⟨L, hP, hD, hSh⟩, hU⟩ := hv
  have hx := B.exec
  have hb := B.bytes
  have hr := B.returns
  have hG : ∀ w ∈ aw_G, w.before _ s = true := fun w h => atoms_spec (ws := ws_Mo_keyXsV) B.pre w (List.mem_cons_of_mem _ h)
  have hown : s.vm.findClass "RuleCiphersModel" = some m.cls := findClass_of_methodNamed B.named
  have hlocks := B.notSynchronized
  have hE := hU.1
  have hK := hE.1
  have hN := hE.2.1
  have hS : va_S (aw_Z N0) s.heap s.heap [] := va_S.rf
  have hl := lv_entry ([.ref (aw_m ad 0), .int (nI j), .long a, .long b] : List Value) (n := 6) (Nat.le_of_ble_eq_true rfl)
  rw [lg_entry_eq]
  generalize (lg_sl ([.ref (aw_m ad 0), .int (nI j), .long a, .long b] : List Value) ++ List.replicate (6 - (lg_sl ([.ref (aw_m ad 0), .int (nI j), .long a, .long b] : List Value)).length) Slot.unset).toArray = ls at hl ⊢
  have hl : lv_has ls 6 [(0, .ref (aw_m ad 0)), (1, .int (nI j)), (2, .long a), (4, .long b)] := hl
  refine lv_aload_n hx hb d_Mo_key_0 rfl (lv_at hl 0 rfl) ?_
  refine lv_iload_n hx hb d_Mo_key_1 rfl (lv_at hl 1 rfl) ?_
  refine aw_ci ((va_runS (As := [.int (nI j)]) (rest := [.ref (aw_m ad 0)]) ⟨hx, hb, hml, hown, hG⟩ (k_Mo_isContext1 l j hj) (aw_wS 1 hG gw_10_34 gw_10_32 gw_0_10 gw_10_33 rfl rfl hd_Mo_isContext ⟨Nat.le_of_ble_eq_true rfl, Nat.le_of_ble_eq_true rfl⟩) aw_p0 rfl rfl hl.1 rfl (lv_room (Nat.le_of_ble_eq_true rfl)) d_Mo_key_2 ⟨Nat.le_of_ble_eq_true rfl, Nat.le_of_ble_eq_true rfl⟩).run) (fun x1 hx1 => ?_)
  subst hx1
  refine lv_if_ne (tgt := 12) hx hb d_Mo_key_5 (by decide) (fun _ => ?_) (fun h => absurd h (by decide +kernel))
  refine lv_aload_n hx hb d_Mo_key_12 rfl (lv_at hl 0 rfl) ?_
  obtain ⟨hsd3, he2⟩ := zr_M0 hSh
  refine va_get (C := R_Mo) (T := T_Mo) (N := 19) (v := .ref (aw_m ad 2)) hx hb hG in_Mo hown hK hP 67 he2 rfl 2 (by decide) (hG _ gw_9_27) (fun _ h => h) rfl d_Mo_key_13 ?_
  clear he2
  refine lv_iload_n hx hb d_Mo_key_16 rfl (lv_at hl 1 rfl) ?_
  obtain ⟨hsd5, he4⟩ := zr_M2 hSh
  refine aw_ild hx hb hK hP 69 0 he4 rfl (k := j) (by omega) (by decide) d_Mo_key_17 ?_
  clear he4
  refine aw_ti (y := nI (zM j).1) (hsd5 _ (by omega)) ?_
  have hm := hSh.2.2.2.2.2 j (by omega)
  refine lv_if_ne (tgt := 25) hx hb d_Mo_key_18 (by decide) (fun h => absurd (show nI ((zM j).1) = nI 0 from (nI_eq (by omega) (by omega)).mpr (by omega)) h) (fun _ => ?_)
  refine lv_iconst (v := nI 2) hx hb d_Mo_key_21 (by decide +kernel) ?_
  refine lv_goto (tgt := 26) hx hb d_Mo_key_22 (by decide) ?_
  obtain ⟨_, he6⟩ := zr_M0 hSh
  refine va_calli (va_runV (As := [.int (nI 2)]) (rest := []) ⟨hx, hb, hml, hown, hG⟩ (k_Mo_refused1V l D g ad N0 zG zO zX zY zA zB zM zI zL zK zN zF zQ 2 (by omega)) (aw_wV 1 hG gw_10_37 gw_10_35 gw_0_10 gw_10_36 gw_p_9 rfl rfl hd_Mo_refused ⟨Nat.le_of_ble_eq_true rfl, Nat.le_of_ble_eq_true rfl⟩) (ag_qV (va_recv hK hP rfl he6) hP hD hSh hU hS) rfl rfl hl.1 rfl (lv_room (Nat.le_of_ble_eq_true rfl)) d_Mo_key_26 ⟨Nat.le_of_ble_eq_true rfl, Nat.le_of_ble_eq_true rfl⟩) hS (fun _ _ h => h) (fun _ h => h) ?_
  clear hP hD hSh hS he6
  intro x7 u8 t8 H locs ht _ ex7 hB _ _ hS
  obtain ⟨L, hP, hD, hSh⟩ := hB
  rw [ht] at hP
  clear ht
  subst ex7
  refine lv_if_ne (tgt := 54) hx hb d_Mo_key_29 (by decide) (fun _ => ?_) (fun h => absurd h (by decide +kernel))
  exact W.vret hx hb hr (fun t ht hW => ⟨⟨(), rfl, trivial, ag_Hr ht hP hD hSh⟩, hS.F ht⟩) hS.2.2 d_Mo_key_54
noncomputable def v_Mo_mode1V_zM (zM : Nat → Nat × Nat) (zI : Nat → Nat → Int32) (zL : Nat → Nat → Int64) (j : Nat) (k : Nat) (b : Int64) : Nat → Nat × Nat := aw_g2 (aw_g1 zM j 3) j k
noncomputable def v_Mo_mode1V_zI (zM : Nat → Nat × Nat) (zI : Nat → Nat → Int32) (zL : Nat → Nat → Int64) (j : Nat) (k : Nat) (b : Int64) : Nat → Nat → Int32 := v_Mo_emptyV_zI (az_v (az_v (az_v (az_v zI 2 j (nI 3)) 6 j (nI k)) 9 j (nI 0)) 10 j (nI 0)) (az_vl (az_vl zL 7 j b) 8 j b) j
noncomputable def v_Mo_mode1V_zL (zM : Nat → Nat × Nat) (zI : Nat → Nat → Int32) (zL : Nat → Nat → Int64) (j : Nat) (k : Nat) (b : Int64) : Nat → Nat → Int64 := v_Mo_emptyV_zL (az_v (az_v (az_v (az_v zI 2 j (nI 3)) 6 j (nI k)) 9 j (nI 0)) 10 j (nI 0)) (az_vl (az_vl zL 7 j b) 8 j b) j
abbrev ws_Mo_mode1V : List Cond := Cond.code y_Mo_mode b_Mo_mode 5 none :: aw_G
abbrev rm_Mo_mode1V : Room := { frames := 1, cells := 0, slots := 0, locals := 21 }
set_option maxHeartbeats 4000000 in
set_option maxRecDepth 100000 in
theorem k_Mo_mode1V (l : Launch) (D : va_G) (g : Nat → ClassId) (ad : Nat → Nat) (N0 : Nat) (zG : Nat → Nat × Nat) (zO : Nat → Nat) (zX : Nat → Nat → Int64) (zY : Nat → Nat → Int32) (zA : Nat → Nat → Nat → Int32) (zB : Nat → Int32) (zM : Nat → Nat × Nat) (zI : Nat → Nat → Int32) (zL : Nat → Nat → Int64) (zK : Int32) (zN : Nat) (zF : Int32) (zQ : Int64) (j : Nat) (k : Nat) (b : Int64) (hj : j < 4) (hk : k ≤ 5) (hs : 2 ≤ (zM j).1) : Met l y_Mo_mode ws_Mo_mode1V rm_Mo_mode1V (va_Pc ([.ref (aw_m ad 0), .int (nI j), .int (nI k), .long b] : List Value) (ag_B D g N0 (az_Sh g ad zG zO zX zY zA zB zM zI zL zK zN zF zQ))) (va_Qv (fun (_ : Unit) => True) (fun (_ : Unit) t => ag_H D N0 (az_Sh g ad zG zO zX zY zA zB (v_Mo_mode1V_zM zM zI zL j k b) (v_Mo_mode1V_zI zM zI zL j k b) (v_Mo_mode1V_zL zM zI zL j k b) zK zN (nI 0) zQ) t.heap) (aw_Z N0)) 0 0 (aw_Z N0) := by
  refine Met.ofW (cc := b_Mo_mode) (maxL := 5) (ret := none) (by decide) rfl ?_
  intro p e s m args below meth c s₁ B hml hv
  obtain ⟨rfl, ⟨L, hP, hD, hSh⟩, hU⟩ := hv
  have hx := B.exec
  have hb := B.bytes
  have hr := B.returns
  have hG : ∀ w ∈ aw_G, w.before _ s = true := fun w h => atoms_spec (ws := ws_Mo_mode1V) B.pre w (List.mem_cons_of_mem _ h)
  have hown : s.vm.findClass "RuleCiphersModel" = some m.cls := findClass_of_methodNamed B.named
  have hlocks := B.notSynchronized
  have hE := hU.1
  have hK := hE.1
  have hN := hE.2.1
  have hS : va_S (aw_Z N0) s.heap s.heap [] := va_S.rf
  have hl := lv_entry ([.ref (aw_m ad 0), .int (nI j), .int (nI k), .long b] : List Value) (n := 5) (Nat.le_of_ble_eq_true rfl)
  rw [lg_entry_eq]
  generalize (lg_sl ([.ref (aw_m ad 0), .int (nI j), .int (nI k), .long b] : List Value) ++ List.replicate (5 - (lg_sl ([.ref (aw_m ad 0), .int (nI j), .int (nI k), .long b] : List Value)).length) Slot.unset).toArray = ls at hl ⊢
  have hl : lv_has ls 5 [(0, .ref (aw_m ad 0)), (1, .int (nI j)), (2, .int (nI k)), (3, .long b)] := hl
  refine lv_aload_n hx hb d_Mo_mode_0 rfl (lv_at hl 0 rfl) ?_
  refine lv_iload_n hx hb d_Mo_mode_1 rfl (lv_at hl 1 rfl) ?_
  refine aw_ci ((va_runS (As := [.int (nI j)]) (rest := [.ref (aw_m ad 0)]) ⟨hx, hb, hml, hown, hG⟩ (k_Mo_isContext1 l j hj) (aw_wS 1 hG gw_10_34 gw_10_32 gw_0_10 gw_10_33 rfl rfl hd_Mo_isContext ⟨Nat.le_of_ble_eq_true rfl, Nat.le_of_ble_eq_true rfl⟩) aw_p0 rfl rfl hl.1 rfl (lv_room (Nat.le_of_ble_eq_true rfl)) d_Mo_mode_2 ⟨Nat.le_of_ble_eq_true rfl, Nat.le_of_ble_eq_true rfl⟩).run) (fun x1 hx1 => ?_)
  subst hx1
  refine lv_if_ne (tgt := 12) hx hb d_Mo_mode_5 (by decide) (fun _ => ?_) (fun h => absurd h (by decide +kernel))
  refine lv_iload_n hx hb d_Mo_mode_12 rfl (lv_at hl 2 rfl) ?_
  refine lv_if_lt (tgt := 21) hx hb d_Mo_mode_13 (by decide) (fun h => absurd h (show ¬ nI k < nI 0 from fun h9 => absurd ((nI_ltI (by omega) (by omega)).mp h9) (by omega))) (fun _ => ?_)
  refine lv_iload_n hx hb d_Mo_mode_16 rfl (lv_at hl 2 rfl) ?_
  refine lv_iconst (v := nI 5) hx hb d_Mo_mode_17 (by decide +kernel) ?_
  refine lv_icmp_le (tgt := 25) hx hb d_Mo_mode_18 (by decide) (fun _ => ?_) (fun h => absurd (show nI k ≤ nI 5 from (nI_leI (by omega) (by omega)).mpr (by omega)) h)
  refine lv_aload_n hx hb d_Mo_mode_25 rfl (lv_at hl 0 rfl) ?_
  refine lv_iload_n hx hb d_Mo_mode_26 rfl (lv_at hl 1 rfl) ?_
  obtain ⟨_, he2⟩ := zr_M0 hSh
  refine va_calli (va_runV (As := [.int (nI j)]) (rest := [.ref (aw_m ad 0)]) ⟨hx, hb, hml, hown, hG⟩ (k_Mo_isKeyed1V l D g ad N0 zG zO zX zY zA zB zM zI zL zK zN zF zQ j hj hs) (aw_wV 1 hG gw_10_48 gw_10_46 gw_0_10 gw_10_47 gw_p_10 rfl rfl hd_Mo_isKeyed ⟨Nat.le_of_ble_eq_true rfl, Nat.le_of_ble_eq_true rfl⟩) (ag_qV (va_recv hK hP rfl he2) hP hD hSh hU hS) rfl rfl hl.1 rfl (lv_room (Nat.le_of_ble_eq_true rfl)) d_Mo_mode_27 ⟨Nat.le_of_ble_eq_true rfl, Nat.le_of_ble_eq_true rfl⟩) hS (fun _ _ h => h) (fun _ h => h) ?_
  clear hP hD hSh hS he2
  intro x3 u8 t8 H locs ht _ ex3 hB _ _ hS
  obtain ⟨L, hP, hD, hSh⟩ := hB
  rw [ht] at hP
  clear ht
  subst ex3
  refine lv_if_ne (tgt := 37) hx hb d_Mo_mode_30 (by decide) (fun _ => ?_) (fun h => absurd h (by decide +kernel))
  refine lv_iconst (v := nI 0) hx hb d_Mo_mode_37 (by decide +kernel) ?_
  obtain ⟨_, he4⟩ := zr_M0 hSh
  refine va_calli (va_runV (As := [.int (nI 0)]) (rest := []) ⟨hx, hb, hml, hown, hG⟩ (k_Mo_refused0V l D g ad N0 zG zO zX zY zA zB zM zI zL zK zN zF zQ) (aw_wV 1 hG gw_10_37 gw_10_35 gw_0_10 gw_10_36 gw_p_9 rfl rfl hd_Mo_refused ⟨Nat.le_of_ble_eq_true rfl, Nat.le_of_ble_eq_true rfl⟩) (ag_qV (va_recv hK hP rfl he4) hP hD hSh hU hS) rfl rfl hl.1 rfl (lv_room (Nat.le_of_ble_eq_true rfl)) d_Mo_mode_38 ⟨Nat.le_of_ble_eq_true rfl, Nat.le_of_ble_eq_true rfl⟩) hS (fun _ _ h => h) (fun _ h => h) ?_
  clear hP hD hSh hS he4
  intro x5 u8 t8 H locs ht _ ex5 hB _ _ hS
  obtain ⟨L, hP, hD, hSh⟩ := hB
  rw [ht] at hP
  clear ht
  subst ex5
  refine lv_if_ne (tgt := 91) hx hb d_Mo_mode_41 (by decide) (fun h => absurd (by decide +kernel) h) (fun _ => ?_)
  refine lv_aload_n hx hb d_Mo_mode_44 rfl (lv_at hl 0 rfl) ?_
  obtain ⟨hsd7, he6⟩ := zr_M0 hSh
  refine va_get (C := R_Mo) (T := T_Mo) (N := 19) (v := .ref (aw_m ad 2)) hx hb hG in_Mo hown hK hP 67 he6 rfl 2 (by decide) (hG _ gw_9_27) (fun _ h => h) rfl d_Mo_mode_45 ?_
  clear he6
  refine lv_iload_n hx hb d_Mo_mode_48 rfl (lv_at hl 1 rfl) ?_
  refine lv_iconst (v := nI 3) hx hb d_Mo_mode_49 (by decide +kernel) ?_
  obtain ⟨hsd9, he8⟩ := zr_M2 hSh
  refine ag_ist hx hb hK hP hD hS 69 0 he8 rfl (k := j) (by omega) (by decide) d_Mo_mode_50 (zw_M2 hSh j (by omega) 3 (by omega)) ?_
  clear hP hD hSh hS he8
  intro H locs L hP hD hSh hS
  obtain ⟨zM10, ezM10⟩ : ∃ z : Nat → Nat × Nat, aw_g1 zM j 3 = z := ⟨_, rfl⟩
  rw [ezM10] at hSh
  obtain ⟨zI11, ezI11⟩ : ∃ z : Nat → Nat → Int32, az_v zI 2 j (nI 3) = z := ⟨_, rfl⟩
  rw [ezI11] at hSh
  refine lv_aload_n hx hb d_Mo_mode_51 rfl (lv_at hl 0 rfl) ?_
  obtain ⟨hsd13, he12⟩ := zr_M0 hSh
  refine va_get (C := R_Mo) (T := T_Mo) (N := 19) (v := .ref (aw_m ad 6)) hx hb hG in_Mo hown hK hP 67 he12 rfl 6 (by decide) (hG _ gw_9_31) (fun _ h => h) rfl d_Mo_mode_52 ?_
  clear he12
  refine lv_iload_n hx hb d_Mo_mode_55 rfl (lv_at hl 1 rfl) ?_
  refine lv_iload_n hx hb d_Mo_mode_56 rfl (lv_at hl 2 rfl) ?_
  obtain ⟨hsd15, he14⟩ := zr_M6 hSh
  refine ag_ist hx hb hK hP hD hS 73 0 he14 rfl (k := j) (by omega) (by decide) d_Mo_mode_57 (zw_M6 hSh j (by omega) k (by omega)) ?_
  clear hP hD hSh hS he14
  intro H locs L hP hD hSh hS
  obtain ⟨zM16, ezM16⟩ : ∃ z : Nat → Nat × Nat, aw_g2 zM10 j k = z := ⟨_, rfl⟩
  rw [ezM16] at hSh
  obtain ⟨zI17, ezI17⟩ : ∃ z : Nat → Nat → Int32, az_v zI11 6 j (nI k) = z := ⟨_, rfl⟩
  rw [ezI17] at hSh
  refine lv_aload_n hx hb d_Mo_mode_58 rfl (lv_at hl 0 rfl) ?_
  obtain ⟨hsd19, he18⟩ := zr_M0 hSh
  refine va_get (C := R_Mo) (T := T_Mo) (N := 19) (v := .ref (aw_m ad 7)) hx hb hG in_Mo hown hK hP 67 he18 rfl 7 (by decide) (hG _ gw_9_32) (fun _ h => h) rfl d_Mo_mode_59 ?_
  clear he18
  refine lv_iload_n hx hb d_Mo_mode_62 rfl (lv_at hl 1 rfl) ?_
  refine lv_lload_n hx hb d_Mo_mode_63 rfl (lv_at hl 3 rfl) ?_
  have he20 := zr_M7 hSh
  refine ag_lst hx hb hK hP hD hS 74 1 he20 rfl (k := j) (by omega) (by decide) d_Mo_mode_64 (zw_L7w hSh j b) ?_
  clear hP hD hSh hS he20
  intro H locs L hP hD hSh hS
  obtain ⟨zL21, ezL21⟩ : ∃ z : Nat → Nat → Int64, az_vl zL 7 j b = z := ⟨_, rfl⟩
  rw [ezL21] at hSh
  refine lv_aload_n hx hb d_Mo_mode_65 rfl (lv_at hl 0 rfl) ?_
  obtain ⟨hsd23, he22⟩ := zr_M0 hSh
  refine va_get (C := R_Mo) (T := T_Mo) (N := 19) (v := .ref (aw_m ad 8)) hx hb hG in_Mo hown hK hP 67 he22 rfl 8 (by decide) (hG _ gw_9_33) (fun _ h => h) rfl d_Mo_mode_66 ?_
  clear he22
  refine lv_iload_n hx hb d_Mo_mode_69 rfl (lv_at hl 1 rfl) ?_
  refine lv_lload_n hx hb d_Mo_mode_70 rfl (lv_at hl 3 rfl) ?_
  have he24 := zr_M8 hSh
  refine ag_lst hx hb hK hP hD hS 75 1 he24 rfl (k := j) (by omega) (by decide) d_Mo_mode_71 (zw_L8w hSh j b) ?_
  clear hP hD hSh hS he24
  intro H locs L hP hD hSh hS
  obtain ⟨zL25, ezL25⟩ : ∃ z : Nat → Nat → Int64, az_vl zL21 8 j b = z := ⟨_, rfl⟩
  rw [ezL25] at hSh
  refine lv_aload_n hx hb d_Mo_mode_72 rfl (lv_at hl 0 rfl) ?_
  obtain ⟨hsd27, he26⟩ := zr_M0 hSh
  refine va_get (C := R_Mo) (T := T_Mo) (N := 19) (v := .ref (aw_m ad 9)) hx hb hG in_Mo hown hK hP 67 he26 rfl 9 (by decide) (hG _ gw_9_34) (fun _ h => h) rfl d_Mo_mode_73 ?_
  clear he26
  refine lv_iload_n hx hb d_Mo_mode_76 rfl (lv_at hl 1 rfl) ?_
  refine lv_iconst (v := nI 0) hx hb d_Mo_mode_77 (by decide +kernel) ?_
  have he28 := zr_M9 hSh
  refine ag_ist hx hb hK hP hD hS 76 0 he28 rfl (k := j) (by omega) (by decide) d_Mo_mode_78 (zw_I9w hSh j (nI 0)) ?_
  clear hP hD hSh hS he28
  intro H locs L hP hD hSh hS
  obtain ⟨zI29, ezI29⟩ : ∃ z : Nat → Nat → Int32, az_v zI17 9 j (nI 0) = z := ⟨_, rfl⟩
  rw [ezI29] at hSh
  refine lv_aload_n hx hb d_Mo_mode_79 rfl (lv_at hl 0 rfl) ?_
  obtain ⟨hsd31, he30⟩ := zr_M0 hSh
  refine va_get (C := R_Mo) (T := T_Mo) (N := 19) (v := .ref (aw_m ad 10)) hx hb hG in_Mo hown hK hP 67 he30 rfl 10 (by decide) (hG _ gw_9_35) (fun _ h => h) rfl d_Mo_mode_80 ?_
  clear he30
  refine lv_iload_n hx hb d_Mo_mode_83 rfl (lv_at hl 1 rfl) ?_
  refine lv_iconst (v := nI 0) hx hb d_Mo_mode_84 (by decide +kernel) ?_
  have he32 := zr_M10 hSh
  refine ag_ist hx hb hK hP hD hS 77 0 he32 rfl (k := j) (by omega) (by decide) d_Mo_mode_85 (zw_I10w hSh j (nI 0)) ?_
  clear hP hD hSh hS he32
  intro H locs L hP hD hSh hS
  obtain ⟨zI33, ezI33⟩ : ∃ z : Nat → Nat → Int32, az_v zI29 10 j (nI 0) = z := ⟨_, rfl⟩
  rw [ezI33] at hSh
  refine lv_aload_n hx hb d_Mo_mode_86 rfl (lv_at hl 0 rfl) ?_
  refine lv_iload_n hx hb d_Mo_mode_87 rfl (lv_at hl 1 rfl) ?_
  obtain ⟨_, he34⟩ := zr_M0 hSh
  refine va_callv (va_runV (As := [.int (nI j)]) (rest := []) ⟨hx, hb, hml, hown, hG⟩ (k_Mo_emptyV l D g ad N0 zG zO zX zY zA zB zM16 zI33 zL25 zK zN (nI 0) zQ j hj) (aw_wV 1 hG gw_10_51 gw_10_49 gw_0_10 gw_10_50 gw_p_11 rfl rfl hd_Mo_empty ⟨Nat.le_of_ble_eq_true rfl, Nat.le_of_ble_eq_true rfl⟩) (ag_qV (va_recv hK hP rfl he34) hP hD hSh hU hS) rfl rfl hl.1 rfl (lv_room (Nat.le_of_ble_eq_true rfl)) d_Mo_mode_88 ⟨Nat.le_of_ble_eq_true rfl, Nat.le_of_ble_eq_true rfl⟩) hS (fun _ _ h => h) (fun _ h => h) ?_
  clear hP hD hSh hS he34
  intro u8 t8 H locs ht _ _ hB _ _ hS
  obtain ⟨L, hP, hD, hSh⟩ := hB
  rw [ht] at hP
  clear ht
  obtain ⟨zI35, ezI35⟩ : ∃ z : Nat → Nat → Int32, v_Mo_emptyV_zI zI33 zL25 j = z := ⟨_, rfl⟩
  rw [ezI35] at hSh
  obtain ⟨zL36, ezL36⟩ : ∃ z : Nat → Nat → Int64, v_Mo_emptyV_zL zI33 zL25 j = z := ⟨_, rfl⟩
  rw [ezL36] at hSh
  have gzM : zM16 = v_Mo_mode1V_zM zM zI zL j k b := by subst ezL36 ezI35 ezI33 ezI29 ezL25 ezL21 ezI17 ezM16 ezI11 ezM10; rfl
  have gzI : zI35 = v_Mo_mode1V_zI zM zI zL j k b := by subst ezL36 ezI35 ezI33 ezI29 ezL25 ezL21 ezI17 ezM16 ezI11 ezM10; rfl
  have gzL : zL36 = v_Mo_mode1V_zL zM zI zL j k b := by subst ezL36 ezI35 ezI33 ezI29 ezL25 ezL21 ezI17 ezM16 ezI11 ezM10; rfl
  have hSh : az_Sh g ad zG zO zX zY zA zB (v_Mo_mode1V_zM zM zI zL j k b) (v_Mo_mode1V_zI zM zI zL j k b) (v_Mo_mode1V_zL zM zI zL j k b) zK zN (nI 0) zQ L := by rw [← gzM, ← gzI, ← gzL]; exact hSh
  exact W.vret hx hb hr (fun t ht hW => ⟨⟨(), rfl, trivial, ag_Hr ht hP hD hSh⟩, hS.F ht⟩) hS.2.2 d_Mo_mode_91
abbrev ws_Mo_modeXcV : List Cond := Cond.code y_Mo_mode b_Mo_mode 5 none :: aw_G
abbrev rm_Mo_modeXcV : Room := { frames := 1, cells := 0, slots := 0, locals := 21 }
set_option maxHeartbeats 4000000 in
set_option maxRecDepth 100000 in
theorem k_Mo_modeXcV (l : Launch) (D : va_G) (g : Nat → ClassId) (ad : Nat → Nat) (N0 : Nat) (zG : Nat → Nat × Nat) (zO : Nat → Nat) (zX : Nat → Nat → Int64) (zY : Nat → Nat → Int32) (zA : Nat → Nat → Nat → Int32) (zB : Nat → Int32) (zM : Nat → Nat × Nat) (zI : Nat → Nat → Int32) (zL : Nat → Nat → Int64) (zK : Int32) (zN : Nat) (zF : Int32) (zQ : Int64) (c0 : Int32) (k0 : Int32) (b : Int64) (hc : c0 < 0 ∨ (¬ c0 < 0 ∧ ¬ c0 < nI 4)) : Met l y_Mo_mode ws_Mo_modeXcV rm_Mo_modeXcV (va_Pc ([.ref (aw_m ad 0), .int c0, .int k0, .long b] : List Value) (ag_B D g N0 (az_Sh g ad zG zO zX zY zA zB zM zI zL zK zN zF zQ))) (va_Qv (fun (_ : Unit) => True) (fun (_ : Unit) t => ag_H D N0 (az_Sh g ad zG zO zX zY zA zB zM zI zL zK zN (nI 1) zQ) t.heap) (aw_Z N0)) 0 0 (aw_Z N0) := by
  refine Met.ofW (cc := b_Mo_mode) (maxL := 5) (ret := none) (by decide) rfl ?_
  intro p e s m args below meth c s₁ B hml hv
  obtain ⟨rfl, ⟨L, hP, hD, hSh⟩, hU⟩ := hv
  have hx := B.exec
  have hb := B.bytes
  have hr := B.returns
  have hG : ∀ w ∈ aw_G, w.before _ s = true := fun w h => atoms_spec (ws := ws_Mo_modeXcV) B.pre w (List.mem_cons_of_mem _ h)
  have hown : s.vm.findClass "RuleCiphersModel" = some m.cls := findClass_of_methodNamed B.named
  have hlocks := B.notSynchronized
  have hE := hU.1
  have hK := hE.1
  have hN := hE.2.1
  have hS : va_S (aw_Z N0) s.heap s.heap [] := va_S.rf
  have hl := lv_entry ([.ref (aw_m ad 0), .int c0, .int k0, .long b] : List Value) (n := 5) (Nat.le_of_ble_eq_true rfl)
  rw [lg_entry_eq]
  generalize (lg_sl ([.ref (aw_m ad 0), .int c0, .int k0, .long b] : List Value) ++ List.replicate (5 - (lg_sl ([.ref (aw_m ad 0), .int c0, .int k0, .long b] : List Value)).length) Slot.unset).toArray = ls at hl ⊢
  have hl : lv_has ls 5 [(0, .ref (aw_m ad 0)), (1, .int c0), (2, .int k0), (3, .long b)] := hl
  refine lv_aload_n hx hb d_Mo_mode_0 rfl (lv_at hl 0 rfl) ?_
  refine lv_iload_n hx hb d_Mo_mode_1 rfl (lv_at hl 1 rfl) ?_
  refine aw_ci ((va_runS (As := [.int c0]) (rest := [.ref (aw_m ad 0)]) ⟨hx, hb, hml, hown, hG⟩ (k_Mo_isContext0 l c0 hc) (aw_wS 1 hG gw_10_34 gw_10_32 gw_0_10 gw_10_33 rfl rfl hd_Mo_isContext ⟨Nat.le_of_ble_eq_true rfl, Nat.le_of_ble_eq_true rfl⟩) aw_p0 rfl rfl hl.1 rfl (lv_room (Nat.le_of_ble_eq_true rfl)) d_Mo_mode_2 ⟨Nat.le_of_ble_eq_true rfl, Nat.le_of_ble_eq_true rfl⟩).run) (fun x1 hx1 => ?_)
  subst hx1
  refine lv_if_ne (tgt := 12) hx hb d_Mo_mode_5 (by decide) (fun h => absurd (by decide +kernel) h) (fun _ => ?_)
  refine lv_iconst (v := nI 1) hx hb d_Mo_mode_8 (by decide +kernel) ?_
  refine lv_goto (tgt := 38) hx hb d_Mo_mode_9 (by decide) ?_
  obtain ⟨_, he2⟩ := zr_M0 hSh
  refine va_calli (va_runV (As := [.int (nI 1)]) (rest := []) ⟨hx, hb, hml, hown, hG⟩ (k_Mo_refused1V l D g ad N0 zG zO zX zY zA zB zM zI zL zK zN zF zQ 1 (by omega)) (aw_wV 1 hG gw_10_37 gw_10_35 gw_0_10 gw_10_36 gw_p_9 rfl rfl hd_Mo_refused ⟨Nat.le_of_ble_eq_true rfl, Nat.le_of_ble_eq_true rfl⟩) (ag_qV (va_recv hK hP rfl he2) hP hD hSh hU hS) rfl rfl hl.1 rfl (lv_room (Nat.le_of_ble_eq_true rfl)) d_Mo_mode_38 ⟨Nat.le_of_ble_eq_true rfl, Nat.le_of_ble_eq_true rfl⟩) hS (fun _ _ h => h) (fun _ h => h) ?_
  clear hP hD hSh hS he2
  intro x3 u8 t8 H locs ht _ ex3 hB _ _ hS
  obtain ⟨L, hP, hD, hSh⟩ := hB
  rw [ht] at hP
  clear ht
  subst ex3
  refine lv_if_ne (tgt := 91) hx hb d_Mo_mode_41 (by decide) (fun _ => ?_) (fun h => absurd h (by decide +kernel))
  exact W.vret hx hb hr (fun t ht hW => ⟨⟨(), rfl, trivial, ag_Hr ht hP hD hSh⟩, hS.F ht⟩) hS.2.2 d_Mo_mode_91
abbrev ws_Mo_modeXaV : List Cond := Cond.code y_Mo_mode b_Mo_mode 5 none :: aw_G
abbrev rm_Mo_modeXaV : Room := { frames := 1, cells := 0, slots := 0, locals := 21 }
set_option maxHeartbeats 4000000 in
set_option maxRecDepth 100000 in
theorem k_Mo_modeXaV (l : Launch) (D : va_G) (g : Nat → ClassId) (ad : Nat → Nat) (N0 : Nat) (zG : Nat → Nat × Nat) (zO : Nat → Nat) (zX : Nat → Nat → Int64) (zY : Nat → Nat → Int32) (zA : Nat → Nat → Nat → Int32) (zB : Nat → Int32) (zM : Nat → Nat × Nat) (zI : Nat → Nat → Int32) (zL : Nat → Nat → Int64) (zK : Int32) (zN : Nat) (zF : Int32) (zQ : Int64) (j : Nat) (k0 : Int32) (b : Int64) (hj : j < 4) (hk : k0 < 0 ∨ (¬ k0 < 0 ∧ nI 5 < k0)) : Met l y_Mo_mode ws_Mo_modeXaV rm_Mo_modeXaV (va_Pc ([.ref (aw_m ad 0), .int (nI j), .int k0, .long b] : List Value) (ag_B D g N0 (az_Sh g ad zG zO zX zY zA zB zM zI zL zK zN zF zQ))) (va_Qv (fun (_ : Unit) => True) (fun (_ : Unit) t => ag_H D N0 (az_Sh g ad zG zO zX zY zA zB zM zI zL zK zN (nI 2) zQ) t.heap) (aw_Z N0)) 0 0 (aw_Z N0) := by
  refine Met.ofW (cc := b_Mo_mode) (maxL := 5) (ret := none) (by decide) rfl ?_
  intro p e s m args below meth c s₁ B hml hv
  obtain ⟨rfl, ⟨L, hP, hD, hSh⟩, hU⟩ := hv
  have hx := B.exec
  have hb := B.bytes
  have hr := B.returns
  have hG : ∀ w ∈ aw_G, w.before _ s = true := fun w h => atoms_spec (ws := ws_Mo_modeXaV) B.pre w (List.mem_cons_of_mem _ h)
  have hown : s.vm.findClass "RuleCiphersModel" = some m.cls := findClass_of_methodNamed B.named
  have hlocks := B.notSynchronized
  have hE := hU.1
  have hK := hE.1
  have hN := hE.2.1
  have hS : va_S (aw_Z N0) s.heap s.heap [] := va_S.rf
  have hl := lv_entry ([.ref (aw_m ad 0), .int (nI j), .int k0, .long b] : List Value) (n := 5) (Nat.le_of_ble_eq_true rfl)
  rw [lg_entry_eq]
  generalize (lg_sl ([.ref (aw_m ad 0), .int (nI j), .int k0, .long b] : List Value) ++ List.replicate (5 - (lg_sl ([.ref (aw_m ad 0), .int (nI j), .int k0, .long b] : List Value)).length) Slot.unset).toArray = ls at hl ⊢
  have hl : lv_has ls 5 [(0, .ref (aw_m ad 0)), (1, .int (nI j)), (2, .int k0), (3, .long b)] := hl
  rcases hk with hk | hk
  · refine lv_aload_n hx hb d_Mo_mode_0 rfl (lv_at hl 0 rfl) ?_
    refine lv_iload_n hx hb d_Mo_mode_1 rfl (lv_at hl 1 rfl) ?_
    refine aw_ci ((va_runS (As := [.int (nI j)]) (rest := [.ref (aw_m ad 0)]) ⟨hx, hb, hml, hown, hG⟩ (k_Mo_isContext1 l j hj) (aw_wS 1 hG gw_10_34 gw_10_32 gw_0_10 gw_10_33 rfl rfl hd_Mo_isContext ⟨Nat.le_of_ble_eq_true rfl, Nat.le_of_ble_eq_true rfl⟩) aw_p0 rfl rfl hl.1 rfl (lv_room (Nat.le_of_ble_eq_true rfl)) d_Mo_mode_2 ⟨Nat.le_of_ble_eq_true rfl, Nat.le_of_ble_eq_true rfl⟩).run) (fun x1 hx1 => ?_)
    subst hx1
    refine lv_if_ne (tgt := 12) hx hb d_Mo_mode_5 (by decide) (fun _ => ?_) (fun h => absurd h (by decide +kernel))
    refine lv_iload_n hx hb d_Mo_mode_12 rfl (lv_at hl 2 rfl) ?_
    refine lv_if_lt (tgt := 21) hx hb d_Mo_mode_13 (by decide) (fun _ => ?_) (fun h => absurd hk h)
    refine lv_iconst (v := nI 2) hx hb d_Mo_mode_21 (by decide +kernel) ?_
    refine lv_goto (tgt := 38) hx hb d_Mo_mode_22 (by decide) ?_
    obtain ⟨_, he2⟩ := zr_M0 hSh
    refine va_calli (va_runV (As := [.int (nI 2)]) (rest := []) ⟨hx, hb, hml, hown, hG⟩ (k_Mo_refused1V l D g ad N0 zG zO zX zY zA zB zM zI zL zK zN zF zQ 2 (by omega)) (aw_wV 1 hG gw_10_37 gw_10_35 gw_0_10 gw_10_36 gw_p_9 rfl rfl hd_Mo_refused ⟨Nat.le_of_ble_eq_true rfl, Nat.le_of_ble_eq_true rfl⟩) (ag_qV (va_recv hK hP rfl he2) hP hD hSh hU hS) rfl rfl hl.1 rfl (lv_room (Nat.le_of_ble_eq_true rfl)) d_Mo_mode_38 ⟨Nat.le_of_ble_eq_true rfl, Nat.le_of_ble_eq_true rfl⟩) hS (fun _ _ h => h) (fun _ h => h) ?_
    clear hP hD hSh hS he2
    intro x3 u8 t8 H locs ht _ ex3 hB _ _ hS
    obtain ⟨L, hP, hD, hSh⟩ := hB
    rw [ht] at hP
    clear ht
    subst ex3
    refine lv_if_ne (tgt := 91) hx hb d_Mo_mode_41 (by decide) (fun _ => ?_) (fun h => absurd h (by decide +kernel))
    exact W.vret hx hb hr (fun t ht hW => ⟨⟨(), rfl, trivial, ag_Hr ht hP hD hSh⟩, hS.F ht⟩) hS.2.2 d_Mo_mode_91
  · refine lv_aload_n hx hb d_Mo_mode_0 rfl (lv_at hl 0 rfl) ?_
    refine lv_iload_n hx hb d_Mo_mode_1 rfl (lv_at hl 1 rfl) ?_
    refine aw_ci ((va_runS (As := [.int (nI j)]) (rest := [.ref (aw_m ad 0)]) ⟨hx, hb, hml, hown, hG⟩ (k_Mo_isContext1 l j hj) (aw_wS 1 hG gw_10_34 gw_10_32 gw_0_10 gw_10_33 rfl rfl hd_Mo_isContext ⟨Nat.le_of_ble_eq_true rfl, Nat.le_of_ble_eq_true rfl⟩) aw_p0 rfl rfl hl.1 rfl (lv_room (Nat.le_of_ble_eq_true rfl)) d_Mo_mode_2 ⟨Nat.le_of_ble_eq_true rfl, Nat.le_of_ble_eq_true rfl⟩).run) (fun x4 hx4 => ?_)
    subst hx4
    refine lv_if_ne (tgt := 12) hx hb d_Mo_mode_5 (by decide) (fun _ => ?_) (fun h => absurd h (by decide +kernel))
    refine lv_iload_n hx hb d_Mo_mode_12 rfl (lv_at hl 2 rfl) ?_
    refine lv_if_lt (tgt := 21) hx hb d_Mo_mode_13 (by decide) (fun h => absurd h hk.1) (fun _ => ?_)
    refine lv_iload_n hx hb d_Mo_mode_16 rfl (lv_at hl 2 rfl) ?_
    refine lv_iconst (v := nI 5) hx hb d_Mo_mode_17 (by decide +kernel) ?_
    refine lv_icmp_le (tgt := 25) hx hb d_Mo_mode_18 (by decide) (fun h => absurd h (fun h9 => absurd hk.2 (Int32.not_lt.mpr h9))) (fun _ => ?_)
    refine lv_iconst (v := nI 2) hx hb d_Mo_mode_21 (by decide +kernel) ?_
    refine lv_goto (tgt := 38) hx hb d_Mo_mode_22 (by decide) ?_
    obtain ⟨_, he5⟩ := zr_M0 hSh
    refine va_calli (va_runV (As := [.int (nI 2)]) (rest := []) ⟨hx, hb, hml, hown, hG⟩ (k_Mo_refused1V l D g ad N0 zG zO zX zY zA zB zM zI zL zK zN zF zQ 2 (by omega)) (aw_wV 1 hG gw_10_37 gw_10_35 gw_0_10 gw_10_36 gw_p_9 rfl rfl hd_Mo_refused ⟨Nat.le_of_ble_eq_true rfl, Nat.le_of_ble_eq_true rfl⟩) (ag_qV (va_recv hK hP rfl he5) hP hD hSh hU hS) rfl rfl hl.1 rfl (lv_room (Nat.le_of_ble_eq_true rfl)) d_Mo_mode_38 ⟨Nat.le_of_ble_eq_true rfl, Nat.le_of_ble_eq_true rfl⟩) hS (fun _ _ h => h) (fun _ h => h) ?_
    clear hP hD hSh hS he5
    intro x6 u8 t8 H locs ht _ ex6 hB _ _ hS
    obtain ⟨L, hP, hD, hSh⟩ := hB
    rw [ht] at hP
    clear ht
    subst ex6
    refine lv_if_ne (tgt := 91) hx hb d_Mo_mode_41 (by decide) (fun _ => ?_) (fun h => absurd h (by decide +kernel))
    exact W.vret hx hb hr (fun t ht hW => ⟨⟨(), rfl, trivial, ag_Hr ht hP hD hSh⟩, hS.F ht⟩) hS.2.2 d_Mo_mode_91
abbrev ws_Mo_modeXsV : List Cond := Cond.code y_Mo_mode b_Mo_mode 5 none :: aw_G
abbrev rm_Mo_modeXsV : Room := { frames := 1, cells := 0, slots := 0, locals := 21 }
set_option maxHeartbeats 4000000 in
set_option maxRecDepth 100000 in
theorem k_Mo_modeXsV (l : Launch) (D : va_G) (g : Nat → ClassId) (ad : Nat → Nat) (N0 : Nat) (zG : Nat → Nat × Nat) (zO : Nat → Nat) (zX : Nat → Nat → Int64) (zY : Nat → Nat → Int32) (zA : Nat → Nat → Nat → Int32) (zB : Nat → Int32) (zM : Nat → Nat × Nat) (zI : Nat → Nat → Int32) (zL : Nat → Nat → Int64) (zK : Int32) (zN : Nat) (zF : Int32) (zQ : Int64) (j : Nat) (k : Nat) (b : Int64) (hj : j < 4) (hk : k ≤ 5) (hs : (zM j).1 ≤ 1) : Met l y_Mo_mode ws_Mo_modeXsV rm_Mo_modeXsV (va_Pc ([.ref (aw_m ad 0), .int (nI j), .int (nI k), .long b] : List Value) (ag_B D g N0 (az_Sh g ad zG zO zX zY zA zB zM zI zL zK zN zF zQ))) (va_Qv (fun (_ : Unit) => True) (fun (_ : Unit) t => ag_H D N0 (az_Sh g ad zG zO zX zY zA zB zM zI zL zK zN (nI 3) zQ) t.heap) (aw_Z N0)) 0 0 (aw_Z N0) := by
  refine Met.ofW (cc := b_Mo_mode) (maxL := 5) (ret := none) (by decide) rfl ?_
  intro p e s m args below meth c s₁ B hml hv
  obtain ⟨rfl, ⟨L, hP, hD, hSh⟩, hU⟩ := hv
  have hx := B.exec
  have hb := B.bytes
  have hr := B.returns
  have hG : ∀ w ∈ aw_G, w.before _ s = true := fun w h => atoms_spec (ws := ws_Mo_modeXsV) B.pre w (List.mem_cons_of_mem _ h)
  have hown : s.vm.findClass "RuleCiphersModel" = some m.cls := findClass_of_methodNamed B.named
  have hlocks := B.notSynchronized
  have hE := hU.1
  have hK := hE.1
  have hN := hE.2.1
  have hS : va_S (aw_Z N0) s.heap s.heap [] := va_S.rf
  have hl := lv_entry ([.ref (aw_m ad 0), .int (nI j), .int (nI k), .long b] : List Value) (n := 5) (Nat.le_of_ble_eq_true rfl)
  rw [lg_entry_eq]
  generalize (lg_sl ([.ref (aw_m ad 0), .int (nI j), .int (nI k), .long b] : List Value) ++ List.replicate (5 - (lg_sl ([.ref (aw_m ad 0), .int (nI j), .int (nI k), .long b] : List Value)).length) Slot.unset).toArray = ls at hl ⊢
  have hl : lv_has ls 5 [(0, .ref (aw_m ad 0)), (1, .int (nI j)), (2, .int (nI k)), (3, .long b)] := hl
  refine lv_aload_n hx hb d_Mo_mode_0 rfl (lv_at hl 0 rfl) ?_
  refine lv_iload_n hx hb d_Mo_mode_1 rfl (lv_at hl 1 rfl) ?_
  refine aw_ci ((va_runS (As := [.int (nI j)]) (rest := [.ref (aw_m ad 0)]) ⟨hx, hb, hml, hown, hG⟩ (k_Mo_isContext1 l j hj) (aw_wS 1 hG gw_10_34 gw_10_32 gw_0_10 gw_10_33 rfl rfl hd_Mo_isContext ⟨Nat.le_of_ble_eq_true rfl, Nat.le_of_ble_eq_true rfl⟩) aw_p0 rfl rfl hl.1 rfl (lv_room (Nat.le_of_ble_eq_true rfl)) d_Mo_mode_2 ⟨Nat.le_of_ble_eq_true rfl, Nat.le_of_ble_eq_true rfl⟩).run) (fun x1 hx1 => ?_)
  subst hx1
  refine lv_if_ne (tgt := 12) hx hb d_Mo_mode_5 (by decide) (fun _ => ?_) (fun h => absurd h (by decide +kernel))
  refine lv_iload_n hx hb d_Mo_mode_12 rfl (lv_at hl 2 rfl) ?_
  refine lv_if_lt (tgt := 21) hx hb d_Mo_mode_13 (by decide) (fun h => absurd h (show ¬ nI k < nI 0 from fun h9 => absurd ((nI_ltI (by omega) (by omega)).mp h9) (by omega))) (fun _ => ?_)
  refine lv_iload_n hx hb d_Mo_mode_16 rfl (lv_at hl 2 rfl) ?_
  refine lv_iconst (v := nI 5) hx hb d_Mo_mode_17 (by decide +kernel) ?_
  refine lv_icmp_le (tgt := 25) hx hb d_Mo_mode_18 (by decide) (fun _ => ?_) (fun h => absurd (show nI k ≤ nI 5 from (nI_leI (by omega) (by omega)).mpr (by omega)) h)
  refine lv_aload_n hx hb d_Mo_mode_25 rfl (lv_at hl 0 rfl) ?_
  refine lv_iload_n hx hb d_Mo_mode_26 rfl (lv_at hl 1 rfl) ?_
  obtain ⟨_, he2⟩ := zr_M0 hSh
  refine va_calli (va_runV (As := [.int (nI j)]) (rest := [.ref (aw_m ad 0)]) ⟨hx, hb, hml, hown, hG⟩ (k_Mo_isKeyed0V l D g ad N0 zG zO zX zY zA zB zM zI zL zK zN zF zQ j hj hs) (aw_wV 1 hG gw_10_48 gw_10_46 gw_0_10 gw_10_47 gw_p_10 rfl rfl hd_Mo_isKeyed ⟨Nat.le_of_ble_eq_true rfl, Nat.le_of_ble_eq_true rfl⟩) (ag_qV (va_recv hK hP rfl he2) hP hD hSh hU hS) rfl rfl hl.1 rfl (lv_room (Nat.le_of_ble_eq_true rfl)) d_Mo_mode_27 ⟨Nat.le_of_ble_eq_true rfl, Nat.le_of_ble_eq_true rfl⟩) hS (fun _ _ h => h) (fun _ h => h) ?_
  clear hP hD hSh hS he2
  intro x3 u8 t8 H locs ht _ ex3 hB _ _ hS
  obtain ⟨L, hP, hD, hSh⟩ := hB
  rw [ht] at hP
  clear ht
  subst ex3
  refine lv_if_ne (tgt := 37) hx hb d_Mo_mode_30 (by decide) (fun h => absurd (by decide +kernel) h) (fun _ => ?_)
  refine lv_iconst (v := nI 3) hx hb d_Mo_mode_33 (by decide +kernel) ?_
  refine lv_goto (tgt := 38) hx hb d_Mo_mode_34 (by decide) ?_
  obtain ⟨_, he4⟩ := zr_M0 hSh
  refine va_calli (va_runV (As := [.int (nI 3)]) (rest := []) ⟨hx, hb, hml, hown, hG⟩ (k_Mo_refused1V l D g ad N0 zG zO zX zY zA zB zM zI zL zK zN zF zQ 3 (by omega)) (aw_wV 1 hG gw_10_37 gw_10_35 gw_0_10 gw_10_36 gw_p_9 rfl rfl hd_Mo_refused ⟨Nat.le_of_ble_eq_true rfl, Nat.le_of_ble_eq_true rfl⟩) (ag_qV (va_recv hK hP rfl he4) hP hD hSh hU hS) rfl rfl hl.1 rfl (lv_room (Nat.le_of_ble_eq_true rfl)) d_Mo_mode_38 ⟨Nat.le_of_ble_eq_true rfl, Nat.le_of_ble_eq_true rfl⟩) hS (fun _ _ h => h) (fun _ h => h) ?_
  clear hP hD hSh hS he4
  intro x5 u8 t8 H locs ht _ ex5 hB _ _ hS
  obtain ⟨L, hP, hD, hSh⟩ := hB
  rw [ht] at hP
  clear ht
  subst ex5
  refine lv_if_ne (tgt := 91) hx hb d_Mo_mode_41 (by decide) (fun _ => ?_) (fun h => absurd h (by decide +kernel))
  exact W.vret hx hb hr (fun t ht hW => ⟨⟨(), rfl, trivial, ag_Hr ht hP hD hSh⟩, hS.F ht⟩) hS.2.2 d_Mo_mode_91
noncomputable def v_Mo_free1V_zM (zM : Nat → Nat × Nat) (zI : Nat → Nat → Int32) (j : Nat) : Nat → Nat × Nat := aw_g1 zM j 0
noncomputable def v_Mo_free1V_zI (zM : Nat → Nat × Nat) (zI : Nat → Nat → Int32) (j : Nat) : Nat → Nat → Int32 := az_v zI 2 j (nI 0)
abbrev ws_Mo_free1V : List Cond := Cond.code y_Mo_free b_Mo_free 2 none :: aw_G
abbrev rm_Mo_free1V : Room := { frames := 1, cells := 0, slots := 0, locals := 21 }
set_option maxHeartbeats 4000000 in
set_option maxRecDepth 100000 in
theorem k_Mo_free1V (l : Launch) (D : va_G) (g : Nat → ClassId) (ad : Nat → Nat) (N0 : Nat) (zG : Nat → Nat × Nat) (zO : Nat → Nat) (zX : Nat → Nat → Int64) (zY : Nat → Nat → Int32) (zA : Nat → Nat → Nat → Int32) (zB : Nat → Int32) (zM : Nat → Nat × Nat) (zI : Nat → Nat → Int32) (zL : Nat → Nat → Int64) (zK : Int32) (zN : Nat) (zF : Int32) (zQ : Int64) (j : Nat) (hj : j < 4) : Met l y_Mo_free ws_Mo_free1V rm_Mo_free1V (va_Pc ([.ref (aw_m ad 0), .int (nI j)] : List Value) (ag_B D g N0 (az_Sh g ad zG zO zX zY zA zB zM zI zL zK zN zF zQ))) (va_Qv (fun (_ : Unit) => True) (fun (_ : Unit) t => ag_H D N0 (az_Sh g ad zG zO zX zY zA zB (v_Mo_free1V_zM zM zI j) (v_Mo_free1V_zI zM zI j) zL zK zN (nI 0) zQ) t.heap) (aw_Z N0)) 0 0 (aw_Z N0) := by
  refine Met.ofW (cc := b_Mo_free) (maxL := 2) (ret := none) (by decide) rfl ?_
  intro p e s m args below meth c s₁ B hml hv
  obtain ⟨rfl, ⟨L, hP, hD, hSh⟩, hU⟩ := hv
  have hx := B.exec
  have hb := B.bytes
  have hr := B.returns
  have hG : ∀ w ∈ aw_G, w.before _ s = true := fun w h => atoms_spec (ws := ws_Mo_free1V) B.pre w (List.mem_cons_of_mem _ h)
  have hown : s.vm.findClass "RuleCiphersModel" = some m.cls := findClass_of_methodNamed B.named
  have hlocks := B.notSynchronized
  have hE := hU.1
  have hK := hE.1
  have hN := hE.2.1
  have hS : va_S (aw_Z N0) s.heap s.heap [] := va_S.rf
  have hl := lv_entry ([.ref (aw_m ad 0), .int (nI j)] : List Value) (n := 2) (Nat.le_of_ble_eq_true rfl)
  rw [lg_entry_eq]
  generalize (lg_sl ([.ref (aw_m ad 0), .int (nI j)] : List Value) ++ List.replicate (2 - (lg_sl ([.ref (aw_m ad 0), .int (nI j)] : List Value)).length) Slot.unset).toArray = ls at hl ⊢
  have hl : lv_has ls 2 [(0, .ref (aw_m ad 0)), (1, .int (nI j))] := hl
  refine lv_aload_n hx hb d_Mo_free_0 rfl (lv_at hl 0 rfl) ?_
  refine lv_iload_n hx hb d_Mo_free_1 rfl (lv_at hl 1 rfl) ?_
  refine aw_ci ((va_runS (As := [.int (nI j)]) (rest := [.ref (aw_m ad 0)]) ⟨hx, hb, hml, hown, hG⟩ (k_Mo_isContext1 l j hj) (aw_wS 1 hG gw_10_34 gw_10_32 gw_0_10 gw_10_33 rfl rfl hd_Mo_isContext ⟨Nat.le_of_ble_eq_true rfl, Nat.le_of_ble_eq_true rfl⟩) aw_p0 rfl rfl hl.1 rfl (lv_room (Nat.le_of_ble_eq_true rfl)) d_Mo_free_2 ⟨Nat.le_of_ble_eq_true rfl, Nat.le_of_ble_eq_true rfl⟩).run) (fun x1 hx1 => ?_)
  subst hx1
  refine lv_if_eq (tgt := 12) hx hb d_Mo_free_5 (by decide) (fun h => absurd h (by decide +kernel)) (fun _ => ?_)
  refine lv_iconst (v := nI 0) hx hb d_Mo_free_8 (by decide +kernel) ?_
  refine lv_goto (tgt := 13) hx hb d_Mo_free_9 (by decide) ?_
  obtain ⟨_, he2⟩ := zr_M0 hSh
  refine va_calli (va_runV (As := [.int (nI 0)]) (rest := []) ⟨hx, hb, hml, hown, hG⟩ (k_Mo_refused0V l D g ad N0 zG zO zX zY zA zB zM zI zL zK zN zF zQ) (aw_wV 1 hG gw_10_37 gw_10_35 gw_0_10 gw_10_36 gw_p_9 rfl rfl hd_Mo_refused ⟨Nat.le_of_ble_eq_true rfl, Nat.le_of_ble_eq_true rfl⟩) (ag_qV (va_recv hK hP rfl he2) hP hD hSh hU hS) rfl rfl hl.1 rfl (lv_room (Nat.le_of_ble_eq_true rfl)) d_Mo_free_13 ⟨Nat.le_of_ble_eq_true rfl, Nat.le_of_ble_eq_true rfl⟩) hS (fun _ _ h => h) (fun _ h => h) ?_
  clear hP hD hSh hS he2
  intro x3 u8 t8 H locs ht _ ex3 hB _ _ hS
  obtain ⟨L, hP, hD, hSh⟩ := hB
  rw [ht] at hP
  clear ht
  subst ex3
  refine lv_if_ne (tgt := 26) hx hb d_Mo_free_16 (by decide) (fun h => absurd (by decide +kernel) h) (fun _ => ?_)
  refine lv_aload_n hx hb d_Mo_free_19 rfl (lv_at hl 0 rfl) ?_
  obtain ⟨hsd5, he4⟩ := zr_M0 hSh
  refine va_get (C := R_Mo) (T := T_Mo) (N := 19) (v := .ref (aw_m ad 2)) hx hb hG in_Mo hown hK hP 67 he4 rfl 2 (by decide) (hG _ gw_9_27) (fun _ h => h) rfl d_Mo_free_20 ?_
  clear he4
  refine lv_iload_n hx hb d_Mo_free_23 rfl (lv_at hl 1 rfl) ?_
  refine lv_iconst (v := nI 0) hx hb d_Mo_free_24 (by decide +kernel) ?_
  obtain ⟨hsd7, he6⟩ := zr_M2 hSh
  refine ag_ist hx hb hK hP hD hS 69 0 he6 rfl (k := j) (by omega) (by decide) d_Mo_free_25 (zw_M2 hSh j (by omega) 0 (by omega)) ?_
  clear hP hD hSh hS he6
  intro H locs L hP hD hSh hS
  obtain ⟨zM8, ezM8⟩ : ∃ z : Nat → Nat × Nat, aw_g1 zM j 0 = z := ⟨_, rfl⟩
  rw [ezM8] at hSh
  obtain ⟨zI9, ezI9⟩ : ∃ z : Nat → Nat → Int32, az_v zI 2 j (nI 0) = z := ⟨_, rfl⟩
  rw [ezI9] at hSh
  have gzM : zM8 = v_Mo_free1V_zM zM zI j := by subst ezI9 ezM8; rfl
  have gzI : zI9 = v_Mo_free1V_zI zM zI j := by subst ezI9 ezM8; rfl
  have hSh : az_Sh g ad zG zO zX zY zA zB (v_Mo_free1V_zM zM zI j) (v_Mo_free1V_zI zM zI j) zL zK zN (nI 0) zQ L := by rw [← gzM, ← gzI]; exact hSh
  exact W.vret hx hb hr (fun t ht hW => ⟨⟨(), rfl, trivial, ag_Hr ht hP hD hSh⟩, hS.F ht⟩) hS.2.2 d_Mo_free_26
abbrev ws_Mo_freeXcV : List Cond := Cond.code y_Mo_free b_Mo_free 2 none :: aw_G
abbrev rm_Mo_freeXcV : Room := { frames := 1, cells := 0, slots := 0, locals := 21 }
set_option maxHeartbeats 4000000 in
set_option maxRecDepth 100000 in
theorem k_Mo_freeXcV (l : Launch) (D : va_G) (g : Nat → ClassId) (ad : Nat → Nat) (N0 : Nat) (zG : Nat → Nat × Nat) (zO : Nat → Nat) (zX : Nat → Nat → Int64) (zY : Nat → Nat → Int32) (zA : Nat → Nat → Nat → Int32) (zB : Nat → Int32) (zM : Nat → Nat × Nat) (zI : Nat → Nat → Int32) (zL : Nat → Nat → Int64) (zK : Int32) (zN : Nat) (zF : Int32) (zQ : Int64) (c0 : Int32) (hc : c0 < 0 ∨ (¬ c0 < 0 ∧ ¬ c0 < nI 4)) : Met l y_Mo_free ws_Mo_freeXcV rm_Mo_freeXcV (va_Pc ([.ref (aw_m ad 0), .int c0] : List Value) (ag_B D g N0 (az_Sh g ad zG zO zX zY zA zB zM zI zL zK zN zF zQ))) (va_Qv (fun (_ : Unit) => True) (fun (_ : Unit) t => ag_H D N0 (az_Sh g ad zG zO zX zY zA zB zM zI zL zK zN (nI 1) zQ) t.heap) (aw_Z N0)) 0 0 (aw_Z N0) := by
  refine Met.ofW (cc := b_Mo_free) (maxL := 2) (ret := none) (by decide) rfl ?_
  intro p e s m args below meth c s₁ B hml hv
  obtain ⟨rfl, ⟨L, hP, hD, hSh⟩, hU⟩ := hv
  have hx := B.exec
  have hb := B.bytes
  have hr := B.returns
  have hG : ∀ w ∈ aw_G, w.before _ s = true := fun w h => atoms_spec (ws := ws_Mo_freeXcV) B.pre w (List.mem_cons_of_mem _ h)
  have hown : s.vm.findClass "RuleCiphersModel" = some m.cls := findClass_of_methodNamed B.named
  have hlocks := B.notSynchronized
  have hE := hU.1
  have hK := hE.1
  have hN := hE.2.1
  have hS : va_S (aw_Z N0) s.heap s.heap [] := va_S.rf
  have hl := lv_entry ([.ref (aw_m ad 0), .int c0] : List Value) (n := 2) (Nat.le_of_ble_eq_true rfl)
  rw [lg_entry_eq]
  generalize (lg_sl ([.ref (aw_m ad 0), .int c0] : List Value) ++ List.replicate (2 - (lg_sl ([.ref (aw_m ad 0), .int c0] : List Value)).length) Slot.unset).toArray = ls at hl ⊢
  have hl : lv_has ls 2 [(0, .ref (aw_m ad 0)), (1, .int c0)] := hl
  refine lv_aload_n hx hb d_Mo_free_0 rfl (lv_at hl 0 rfl) ?_
  refine lv_iload_n hx hb d_Mo_free_1 rfl (lv_at hl 1 rfl) ?_
  refine aw_ci ((va_runS (As := [.int c0]) (rest := [.ref (aw_m ad 0)]) ⟨hx, hb, hml, hown, hG⟩ (k_Mo_isContext0 l c0 hc) (aw_wS 1 hG gw_10_34 gw_10_32 gw_0_10 gw_10_33 rfl rfl hd_Mo_isContext ⟨Nat.le_of_ble_eq_true rfl, Nat.le_of_ble_eq_true rfl⟩) aw_p0 rfl rfl hl.1 rfl (lv_room (Nat.le_of_ble_eq_true rfl)) d_Mo_free_2 ⟨Nat.le_of_ble_eq_true rfl, Nat.le_of_ble_eq_true rfl⟩).run) (fun x1 hx1 => ?_)
  subst hx1
  refine lv_if_eq (tgt := 12) hx hb d_Mo_free_5 (by decide) (fun _ => ?_) (fun h => absurd (by decide +kernel) h)
  refine lv_iconst (v := nI 1) hx hb d_Mo_free_12 (by decide +kernel) ?_
  obtain ⟨_, he2⟩ := zr_M0 hSh
  refine va_calli (va_runV (As := [.int (nI 1)]) (rest := []) ⟨hx, hb, hml, hown, hG⟩ (k_Mo_refused1V l D g ad N0 zG zO zX zY zA zB zM zI zL zK zN zF zQ 1 (by omega)) (aw_wV 1 hG gw_10_37 gw_10_35 gw_0_10 gw_10_36 gw_p_9 rfl rfl hd_Mo_refused ⟨Nat.le_of_ble_eq_true rfl, Nat.le_of_ble_eq_true rfl⟩) (ag_qV (va_recv hK hP rfl he2) hP hD hSh hU hS) rfl rfl hl.1 rfl (lv_room (Nat.le_of_ble_eq_true rfl)) d_Mo_free_13 ⟨Nat.le_of_ble_eq_true rfl, Nat.le_of_ble_eq_true rfl⟩) hS (fun _ _ h => h) (fun _ h => h) ?_
  clear hP hD hSh hS he2
  intro x3 u8 t8 H locs ht _ ex3 hB _ _ hS
  obtain ⟨L, hP, hD, hSh⟩ := hB
  rw [ht] at hP
  clear ht
  subst ex3
  refine lv_if_ne (tgt := 26) hx hb d_Mo_free_16 (by decide) (fun _ => ?_) (fun h => absurd h (by decide +kernel))
  exact W.vret hx hb hr (fun t ht hW => ⟨⟨(), rfl, trivial, ag_Hr ht hP hD hSh⟩, hS.F ht⟩) hS.2.2 d_Mo_free_26
noncomputable def v_Mo_stage1V (zM : Nat → Nat × Nat) (j : Nat) : Int32 := nI (zM j).1
abbrev ws_Mo_stage1V : List Cond := Cond.code y_Mo_stage b_Mo_stage 2 (some .int) :: aw_G
abbrev rm_Mo_stage1V : Room := { frames := 1, cells := 0, slots := 0, locals := 21 }
set_option maxHeartbeats 4000000 in
set_option maxRecDepth 100000 in
theorem k_Mo_stage1V (l : Launch) (D : va_G) (g : Nat → ClassId) (ad : Nat → Nat) (N0 : Nat) (zG : Nat → Nat × Nat) (zO : Nat → Nat) (zX : Nat → Nat → Int64) (zY : Nat → Nat → Int32) (zA : Nat → Nat → Nat → Int32) (zB : Nat → Int32) (zM : Nat → Nat × Nat) (zI : Nat → Nat → Int32) (zL : Nat → Nat → Int64) (zK : Int32) (zN : Nat) (zF : Int32) (zQ : Int64) (j : Nat) (hj : j < 4) : Met l y_Mo_stage ws_Mo_stage1V rm_Mo_stage1V (va_Pc ([.ref (aw_m ad 0), .int (nI j)] : List Value) (ag_B D g N0 (az_Sh g ad zG zO zX zY zA zB zM zI zL zK zN zF zQ))) (va_Qi (fun r (_ : Unit) => r = v_Mo_stage1V zM j) (fun (_ : Unit) t => ag_H D N0 (az_Sh g ad zG zO zX zY zA zB zM zI zL zK zN (nI 0) zQ) t.heap) (aw_Z N0)) 0 0 (aw_Z N0) := by
  refine Met.ofW (cc := b_Mo_stage) (maxL := 2) (ret := (some .int)) (by decide) rfl ?_
  intro p e s m args below meth c s₁ B hml hv
  obtain ⟨rfl, ⟨L, hP, hD, hSh⟩, hU⟩ := hv
  have hx := B.exec
  have hb := B.bytes
  have hr := B.returns
  have hG : ∀ w ∈ aw_G, w.before _ s = true := fun w h => atoms_spec (ws := ws_Mo_stage1V) B.pre w (List.mem_cons_of_mem _ h)
  have hown : s.vm.findClass "RuleCiphersModel" = some m.cls := findClass_of_methodNamed B.named
  have hlocks := B.notSynchronized
  have hE := hU.1
  have hK := hE.1
  have hN := hE.2.1
  have hS : va_S (aw_Z N0) s.heap s.heap [] := va_S.rf
  have hl := lv_entry ([.ref (aw_m ad 0), .int (nI j)] : List Value) (n := 2) (Nat.le_of_ble_eq_true rfl)
  rw [lg_entry_eq]
  generalize (lg_sl ([.ref (aw_m ad 0), .int (nI j)] : List Value) ++ List.replicate (2 - (lg_sl ([.ref (aw_m ad 0), .int (nI j)] : List Value)).length) Slot.unset).toArray = ls at hl ⊢
  have hl : lv_has ls 2 [(0, .ref (aw_m ad 0)), (1, .int (nI j))] := hl
  refine lv_aload_n hx hb d_Mo_stage_0 rfl (lv_at hl 0 rfl) ?_
  refine lv_iload_n hx hb d_Mo_stage_1 rfl (lv_at hl 1 rfl) ?_
  refine aw_ci ((va_runS (As := [.int (nI j)]) (rest := [.ref (aw_m ad 0)]) ⟨hx, hb, hml, hown, hG⟩ (k_Mo_isContext1 l j hj) (aw_wS 1 hG gw_10_34 gw_10_32 gw_0_10 gw_10_33 rfl rfl hd_Mo_isContext ⟨Nat.le_of_ble_eq_true rfl, Nat.le_of_ble_eq_true rfl⟩) aw_p0 rfl rfl hl.1 rfl (lv_room (Nat.le_of_ble_eq_true rfl)) d_Mo_stage_2 ⟨Nat.le_of_ble_eq_true rfl, Nat.le_of_ble_eq_true rfl⟩).run) (fun x1 hx1 => ?_)
  subst hx1
  refine lv_if_eq (tgt := 12) hx hb d_Mo_stage_5 (by decide) (fun h => absurd h (by decide +kernel)) (fun _ => ?_)
  refine lv_iconst (v := nI 0) hx hb d_Mo_stage_8 (by decide +kernel) ?_
  refine lv_goto (tgt := 13) hx hb d_Mo_stage_9 (by decide) ?_
  obtain ⟨_, he2⟩ := zr_M0 hSh
  refine va_calli (va_runV (As := [.int (nI 0)]) (rest := []) ⟨hx, hb, hml, hown, hG⟩ (k_Mo_refused0V l D g ad N0 zG zO zX zY zA zB zM zI zL zK zN zF zQ) (aw_wV 1 hG gw_10_37 gw_10_35 gw_0_10 gw_10_36 gw_p_9 rfl rfl hd_Mo_refused ⟨Nat.le_of_ble_eq_true rfl, Nat.le_of_ble_eq_true rfl⟩) (ag_qV (va_recv hK hP rfl he2) hP hD hSh hU hS) rfl rfl hl.1 rfl (lv_room (Nat.le_of_ble_eq_true rfl)) d_Mo_stage_13 ⟨Nat.le_of_ble_eq_true rfl, Nat.le_of_ble_eq_true rfl⟩) hS (fun _ _ h => h) (fun _ h => h) ?_
  clear hP hD hSh hS he2
  intro x3 u8 t8 H locs ht _ ex3 hB _ _ hS
  obtain ⟨L, hP, hD, hSh⟩ := hB
  rw [ht] at hP
  clear ht
  subst ex3
  refine lv_if_eq (tgt := 23) hx hb d_Mo_stage_16 (by decide) (fun _ => ?_) (fun h => absurd (by decide +kernel) h)
  refine lv_aload_n hx hb d_Mo_stage_23 rfl (lv_at hl 0 rfl) ?_
  obtain ⟨hsd5, he4⟩ := zr_M0 hSh
  refine va_get (C := R_Mo) (T := T_Mo) (N := 19) (v := .ref (aw_m ad 2)) hx hb hG in_Mo hown hK hP 67 he4 rfl 2 (by decide) (hG _ gw_9_27) (fun _ h => h) rfl d_Mo_stage_24 ?_
  clear he4
  refine lv_iload_n hx hb d_Mo_stage_27 rfl (lv_at hl 1 rfl) ?_
  obtain ⟨hsd7, he6⟩ := zr_M2 hSh
  refine aw_ild hx hb hK hP 69 0 he6 rfl (k := j) (by omega) (by decide) d_Mo_stage_28 ?_
  clear he6
  refine aw_ti (y := nI (zM j).1) (hsd7 _ (by omega)) ?_
  have hm := hSh.2.2.2.2.2 j (by omega)
  exact W.iret hx hb hr (fun t ht hW => ⟨⟨_, (), rfl, (by rfl), ag_Hr ht hP hD hSh⟩, hS.F ht⟩) hS.2.2 d_Mo_stage_29
noncomputable def v_Mo_stageXcV  : Int32 := nI 0
abbrev ws_Mo_stageXcV : List Cond := Cond.code y_Mo_stage b_Mo_stage 2 (some .int) :: aw_G
abbrev rm_Mo_stageXcV : Room := { frames := 1, cells := 0, slots := 0, locals := 21 }
set_option maxHeartbeats 4000000 in
set_option maxRecDepth 100000 in
theorem k_Mo_stageXcV (l : Launch) (D : va_G) (g : Nat → ClassId) (ad : Nat → Nat) (N0 : Nat) (zG : Nat → Nat × Nat) (zO : Nat → Nat) (zX : Nat → Nat → Int64) (zY : Nat → Nat → Int32) (zA : Nat → Nat → Nat → Int32) (zB : Nat → Int32) (zM : Nat → Nat × Nat) (zI : Nat → Nat → Int32) (zL : Nat → Nat → Int64) (zK : Int32) (zN : Nat) (zF : Int32) (zQ : Int64) (c0 : Int32) (hc : c0 < 0 ∨ (¬ c0 < 0 ∧ ¬ c0 < nI 4)) : Met l y_Mo_stage ws_Mo_stageXcV rm_Mo_stageXcV (va_Pc ([.ref (aw_m ad 0), .int c0] : List Value) (ag_B D g N0 (az_Sh g ad zG zO zX zY zA zB zM zI zL zK zN zF zQ))) (va_Qi (fun r (_ : Unit) => r = v_Mo_stageXcV ) (fun (_ : Unit) t => ag_H D N0 (az_Sh g ad zG zO zX zY zA zB zM zI zL zK zN (nI 1) zQ) t.heap) (aw_Z N0)) 0 0 (aw_Z N0) := by
  refine Met.ofW (cc := b_Mo_stage) (maxL := 2) (ret := (some .int)) (by decide) rfl ?_
  intro p e s m args below meth c s₁ B hml hv
  obtain ⟨rfl, ⟨L, hP, hD, hSh⟩, hU⟩ := hv
  have hx := B.exec
  have hb := B.bytes
  have hr := B.returns
  have hG : ∀ w ∈ aw_G, w.before _ s = true := fun w h => atoms_spec (ws := ws_Mo_stageXcV) B.pre w (List.mem_cons_of_mem _ h)
  have hown : s.vm.findClass "RuleCiphersModel" = some m.cls := findClass_of_methodNamed B.named
  have hlocks := B.notSynchronized
  have hE := hU.1
  have hK := hE.1
  have hN := hE.2.1
  have hS : va_S (aw_Z N0) s.heap s.heap [] := va_S.rf
  have hl := lv_entry ([.ref (aw_m ad 0), .int c0] : List Value) (n := 2) (Nat.le_of_ble_eq_true rfl)
  rw [lg_entry_eq]
  generalize (lg_sl ([.ref (aw_m ad 0), .int c0] : List Value) ++ List.replicate (2 - (lg_sl ([.ref (aw_m ad 0), .int c0] : List Value)).length) Slot.unset).toArray = ls at hl ⊢
  have hl : lv_has ls 2 [(0, .ref (aw_m ad 0)), (1, .int c0)] := hl
  refine lv_aload_n hx hb d_Mo_stage_0 rfl (lv_at hl 0 rfl) ?_
  refine lv_iload_n hx hb d_Mo_stage_1 rfl (lv_at hl 1 rfl) ?_
  refine aw_ci ((va_runS (As := [.int c0]) (rest := [.ref (aw_m ad 0)]) ⟨hx, hb, hml, hown, hG⟩ (k_Mo_isContext0 l c0 hc) (aw_wS 1 hG gw_10_34 gw_10_32 gw_0_10 gw_10_33 rfl rfl hd_Mo_isContext ⟨Nat.le_of_ble_eq_true rfl, Nat.le_of_ble_eq_true rfl⟩) aw_p0 rfl rfl hl.1 rfl (lv_room (Nat.le_of_ble_eq_true rfl)) d_Mo_stage_2 ⟨Nat.le_of_ble_eq_true rfl, Nat.le_of_ble_eq_true rfl⟩).run) (fun x1 hx1 => ?_)
  subst hx1
  refine lv_if_eq (tgt := 12) hx hb d_Mo_stage_5 (by decide) (fun _ => ?_) (fun h => absurd (by decide +kernel) h)
  refine lv_iconst (v := nI 1) hx hb d_Mo_stage_12 (by decide +kernel) ?_
  obtain ⟨_, he2⟩ := zr_M0 hSh
  refine va_calli (va_runV (As := [.int (nI 1)]) (rest := []) ⟨hx, hb, hml, hown, hG⟩ (k_Mo_refused1V l D g ad N0 zG zO zX zY zA zB zM zI zL zK zN zF zQ 1 (by omega)) (aw_wV 1 hG gw_10_37 gw_10_35 gw_0_10 gw_10_36 gw_p_9 rfl rfl hd_Mo_refused ⟨Nat.le_of_ble_eq_true rfl, Nat.le_of_ble_eq_true rfl⟩) (ag_qV (va_recv hK hP rfl he2) hP hD hSh hU hS) rfl rfl hl.1 rfl (lv_room (Nat.le_of_ble_eq_true rfl)) d_Mo_stage_13 ⟨Nat.le_of_ble_eq_true rfl, Nat.le_of_ble_eq_true rfl⟩) hS (fun _ _ h => h) (fun _ h => h) ?_
  clear hP hD hSh hS he2
  intro x3 u8 t8 H locs ht _ ex3 hB _ _ hS
  obtain ⟨L, hP, hD, hSh⟩ := hB
  rw [ht] at hP
  clear ht
  subst ex3
  refine lv_if_eq (tgt := 23) hx hb d_Mo_stage_16 (by decide) (fun h => absurd h (by decide +kernel)) (fun _ => ?_)
  refine lv_iconst (v := nI 0) hx hb d_Mo_stage_19 (by decide +kernel) ?_
  refine lv_goto (tgt := 29) hx hb d_Mo_stage_20 (by decide) ?_
  exact W.iret hx hb hr (fun t ht hW => ⟨⟨_, (), rfl, (by rfl), ag_Hr ht hP hD hSh⟩, hS.F ht⟩) hS.2.2 d_Mo_stage_29
noncomputable def v_Mo_block1V (zI : Nat → Nat → Int32) (zL : Nat → Nat → Int64) (j : Nat) (kc : Nat) (bk : Int32) (b : Int64) : Int64 := (if bk = 0 then v_Mo_onJV (v_Mo_prepareJV_zI zI zL j kc) kc b else v_Mo_offJV (v_Mo_prepareJV_zI zI zL j kc) kc b)
noncomputable def v_Mo_block1V_zI (zI : Nat → Nat → Int32) (zL : Nat → Nat → Int64) (j : Nat) (kc : Nat) (bk : Int32) (b : Int64) : Nat → Nat → Int32 := (if bk = 0 then v_Mo_prepareJV_zI zI zL j kc else v_Mo_prepareJV_zI zI zL j kc)
abbrev ws_Mo_block1V : List Cond := Cond.code y_Mo_block b_Mo_block 5 (some .long) :: aw_G
abbrev rm_Mo_block1V : Room := { frames := 4, cells := 0, slots := 0, locals := 105 }
set_option maxHeartbeats 4000000 in
set_option maxRecDepth 100000 in
theorem k_Mo_block1V (l : Launch) (D : va_G) (g : Nat → ClassId) (ad : Nat → Nat) (N0 : Nat) (zG : Nat → Nat × Nat) (zO : Nat → Nat) (zX : Nat → Nat → Int64) (zY : Nat → Nat → Int32) (zA : Nat → Nat → Nat → Int32) (zB : Nat → Int32) (zM : Nat → Nat × Nat) (zI : Nat → Nat → Int32) (zL : Nat → Nat → Int64) (zK : Int32) (zN : Nat) (zF : Int32) (zQ : Int64) (j : Nat) (kc : Nat) (bk : Int32) (b : Int64) (hj : j < 4) (hs : 2 ≤ (zM j).1) (hkc : kc < 5) (hci : zI 3 j = nI kc) : Met l y_Mo_block ws_Mo_block1V rm_Mo_block1V (va_Pc ([.ref (aw_m ad 0), .int (nI j), .int bk, .long b] : List Value) (ag_B D g N0 (az_Sh g ad zG zO zX zY zA zB zM zI zL zK zN zF zQ))) (va_Ql (fun r (_ : Unit) => r = v_Mo_block1V zI zL j kc bk b) (fun (_ : Unit) t => ag_H D N0 (az_Sh g ad zG zO zX zY zA zB zM (v_Mo_block1V_zI zI zL j kc bk b) zL (nI kc) (az_wn kc) (nI 0) zQ) t.heap) (aw_Z N0)) 0 0 (aw_Z N0) := by
  refine Met.ofW (cc := b_Mo_block) (maxL := 5) (ret := (some .long)) (by decide) rfl ?_
  intro p e s m args below meth c s₁ B hml hv
  obtain ⟨rfl, ⟨L, hP, hD, hSh⟩, hU⟩ := hv
  have hx := B.exec
  have hb := B.bytes
  have hr := B.returns
  have hG : ∀ w ∈ aw_G, w.before _ s = true := fun w h => atoms_spec (ws := ws_Mo_block1V) B.pre w (List.mem_cons_of_mem _ h)
  have hown : s.vm.findClass "RuleCiphersModel" = some m.cls := findClass_of_methodNamed B.named
  have hlocks := B.notSynchronized
  have hE := hU.1
  have hK := hE.1
  have hN := hE.2.1
  have hS : va_S (aw_Z N0) s.heap s.heap [] := va_S.rf
  have hl := lv_entry ([.ref (aw_m ad 0), .int (nI j), .int bk, .long b] : List Value) (n := 5) (Nat.le_of_ble_eq_true rfl)
  rw [lg_entry_eq]
  generalize (lg_sl ([.ref (aw_m ad 0), .int (nI j), .int bk, .long b] : List Value) ++ List.replicate (5 - (lg_sl ([.ref (aw_m ad 0), .int (nI j), .int bk, .long b] : List Value)).length) Slot.unset).toArray = ls at hl ⊢
  have hl : lv_has ls 5 [(0, .ref (aw_m ad 0)), (1, .int (nI j)), (2, .int bk), (3, .long b)] := hl
  refine lv_aload_n hx hb d_Mo_block_0 rfl (lv_at hl 0 rfl) ?_
  refine lv_iload_n hx hb d_Mo_block_1 rfl (lv_at hl 1 rfl) ?_
  refine aw_ci ((va_runS (As := [.int (nI j)]) (rest := [.ref (aw_m ad 0)]) ⟨hx, hb, hml, hown, hG⟩ (k_Mo_isContext1 l j hj) (aw_wS 1 hG gw_10_34 gw_10_32 gw_0_10 gw_10_33 rfl rfl hd_Mo_isContext ⟨Nat.le_of_ble_eq_true rfl, Nat.le_of_ble_eq_true rfl⟩) aw_p0 rfl rfl hl.1 rfl (lv_room (Nat.le_of_ble_eq_true rfl)) d_Mo_block_2 ⟨Nat.le_of_ble_eq_true rfl, Nat.le_of_ble_eq_true rfl⟩).run) (fun x1 hx1 => ?_)
  subst hx1
  refine lv_if_ne (tgt := 12) hx hb d_Mo_block_5 (by decide) (fun _ => ?_) (fun h => absurd h (by decide +kernel))
  refine lv_aload_n hx hb d_Mo_block_12 rfl (lv_at hl 0 rfl) ?_
  refine lv_iload_n hx hb d_Mo_block_13 rfl (lv_at hl 1 rfl) ?_
  obtain ⟨_, he2⟩ := zr_M0 hSh
  refine va_calli (va_runV (As := [.int (nI j)]) (rest := [.ref (aw_m ad 0)]) ⟨hx, hb, hml, hown, hG⟩ (k_Mo_isKeyed1V l D g ad N0 zG zO zX zY zA zB zM zI zL zK zN zF zQ j hj hs) (aw_wV 1 hG gw_10_48 gw_10_46 gw_0_10 gw_10_47 gw_p_10 rfl rfl hd_Mo_isKeyed ⟨Nat.le_of_ble_eq_true rfl, Nat.le_of_ble_eq_true rfl⟩) (ag_qV (va_recv hK hP rfl he2) hP hD hSh hU hS) rfl rfl hl.1 rfl (lv_room (Nat.le_of_ble_eq_true rfl)) d_Mo_block_14 ⟨Nat.le_of_ble_eq_true rfl, Nat.le_of_ble_eq_true rfl⟩) hS (fun _ _ h => h) (fun _ h => h) ?_
  clear hP hD hSh hS he2
  intro x3 u8 t8 H locs ht _ ex3 hB _ _ hS
  obtain ⟨L, hP, hD, hSh⟩ := hB
  rw [ht] at hP
  clear ht
  subst ex3
  refine lv_if_ne (tgt := 24) hx hb d_Mo_block_17 (by decide) (fun _ => ?_) (fun h => absurd h (by decide +kernel))
  refine lv_iconst (v := nI 0) hx hb d_Mo_block_24 (by decide +kernel) ?_
  obtain ⟨_, he4⟩ := zr_M0 hSh
  refine va_calli (va_runV (As := [.int (nI 0)]) (rest := []) ⟨hx, hb, hml, hown, hG⟩ (k_Mo_refused0V l D g ad N0 zG zO zX zY zA zB zM zI zL zK zN zF zQ) (aw_wV 1 hG gw_10_37 gw_10_35 gw_0_10 gw_10_36 gw_p_9 rfl rfl hd_Mo_refused ⟨Nat.le_of_ble_eq_true rfl, Nat.le_of_ble_eq_true rfl⟩) (ag_qV (va_recv hK hP rfl he4) hP hD hSh hU hS) rfl rfl hl.1 rfl (lv_room (Nat.le_of_ble_eq_true rfl)) d_Mo_block_25 ⟨Nat.le_of_ble_eq_true rfl, Nat.le_of_ble_eq_true rfl⟩) hS (fun _ _ h => h) (fun _ h => h) ?_
  clear hP hD hSh hS he4
  intro x5 u8 t8 H locs ht _ ex5 hB _ _ hS
  obtain ⟨L, hP, hD, hSh⟩ := hB
  rw [ht] at hP
  clear ht
  subst ex5
  refine lv_if_eq (tgt := 33) hx hb d_Mo_block_28 (by decide) (fun _ => ?_) (fun h => absurd (by decide +kernel) h)
  refine lv_aload_n hx hb d_Mo_block_33 rfl (lv_at hl 0 rfl) ?_
  refine lv_iload_n hx hb d_Mo_block_34 rfl (lv_at hl 1 rfl) ?_
  obtain ⟨_, he6⟩ := zr_M0 hSh
  refine va_callv (va_runV (As := [.int (nI j)]) (rest := []) ⟨hx, hb, hml, hown, hG⟩ (k_Mo_prepareJV l D g ad N0 zG zO zX zY zA zB zM zI zL zK zN (nI 0) zQ j kc hj hkc hci) (aw_wV 1 hG gw_11_6 gw_11_4 gw_0_10 gw_11_5 gw_p_12 rfl rfl hd_Mo_prepare ⟨Nat.le_of_ble_eq_true rfl, Nat.le_of_ble_eq_true rfl⟩) (ag_qV (va_recv hK hP rfl he6) hP hD hSh hU hS) rfl rfl hl.1 rfl (lv_room (Nat.le_of_ble_eq_true rfl)) d_Mo_block_35 ⟨Nat.le_of_ble_eq_true rfl, Nat.le_of_ble_eq_true rfl⟩) hS (fun _ _ h => h) (fun _ h => h) ?_
  clear hP hD hSh hS he6
  intro u8 t8 H locs ht _ _ hB _ _ hS
  obtain ⟨L, hP, hD, hSh⟩ := hB
  rw [ht] at hP
  clear ht
  obtain ⟨zI7, ezI7⟩ : ∃ z : Nat → Nat → Int32, v_Mo_prepareJV_zI zI zL j kc = z := ⟨_, rfl⟩
  rw [ezI7] at hSh
  refine lv_iload_n hx hb d_Mo_block_38 rfl (lv_at hl 2 rfl) ?_
  refine lv_if_eq (tgt := 50) hx hb d_Mo_block_39 (by decide) (fun hb8 => ?_) (fun hb8 => ?_)
  · refine lv_aload_n hx hb d_Mo_block_50 rfl (lv_at hl 0 rfl) ?_
    refine lv_lload_n hx hb d_Mo_block_51 rfl (lv_at hl 3 rfl) ?_
    obtain ⟨_, he9⟩ := zr_M0 hSh
    refine va_calll (va_runV (As := [.long b]) (rest := []) ⟨hx, hb, hml, hown, hG⟩ (k_Mo_onJV l D g ad N0 zG zO zX zY zA zB zM zI7 zL (az_wn kc) (nI 0) zQ kc b hkc) (aw_wV 1 hG gw_12_4 gw_12_2 gw_0_10 gw_12_3 gw_p_18 rfl rfl hd_Mo_on ⟨Nat.le_of_ble_eq_true rfl, Nat.le_of_ble_eq_true rfl⟩) (ag_qV (va_recv hK hP rfl he9) hP hD hSh hU hS) rfl rfl hl.1 rfl (lv_room (Nat.le_of_ble_eq_true rfl)) d_Mo_block_52 ⟨Nat.le_of_ble_eq_true rfl, Nat.le_of_ble_eq_true rfl⟩) hS (fun _ _ h => h) (fun _ h => h) ?_
    clear hP hD hSh hS he9
    intro y10 u8 t8 H locs ht _ ey10 hB _ _ hS
    obtain ⟨L, hP, hD, hSh⟩ := hB
    rw [ht] at hP
    clear ht
    have ey10 := ey10.symm
    have gzI : zI7 = v_Mo_block1V_zI zI zL j kc bk b := by subst ey10 ezI7; unfold v_Mo_block1V_zI; rw [if_pos hb8]
    have hSh : az_Sh g ad zG zO zX zY zA zB zM (v_Mo_block1V_zI zI zL j kc bk b) zL (nI kc) (az_wn kc) (nI 0) zQ L := by rw [← gzI]; exact hSh
    exact W.lret hx hb hr (fun t ht hW => ⟨⟨_, (), rfl, (by subst ey10 ezI7; unfold v_Mo_block1V; rw [if_pos hb8]), ag_Hr ht hP hD hSh⟩, hS.F ht⟩) hS.2.2 d_Mo_block_55
  · refine lv_aload_n hx hb d_Mo_block_42 rfl (lv_at hl 0 rfl) ?_
    refine lv_lload_n hx hb d_Mo_block_43 rfl (lv_at hl 3 rfl) ?_
    obtain ⟨_, he11⟩ := zr_M0 hSh
    refine va_calll (va_runV (As := [.long b]) (rest := []) ⟨hx, hb, hml, hown, hG⟩ (k_Mo_offJV l D g ad N0 zG zO zX zY zA zB zM zI7 zL (az_wn kc) (nI 0) zQ kc b hkc) (aw_wV 1 hG gw_11_39 gw_11_37 gw_0_10 gw_11_38 gw_p_16 rfl rfl hd_Mo_off ⟨Nat.le_of_ble_eq_true rfl, Nat.le_of_ble_eq_true rfl⟩) (ag_qV (va_recv hK hP rfl he11) hP hD hSh hU hS) rfl rfl hl.1 rfl (lv_room (Nat.le_of_ble_eq_true rfl)) d_Mo_block_44 ⟨Nat.le_of_ble_eq_true rfl, Nat.le_of_ble_eq_true rfl⟩) hS (fun _ _ h => h) (fun _ h => h) ?_
    clear hP hD hSh hS he11
    intro y12 u8 t8 H locs ht _ ey12 hB _ _ hS
    obtain ⟨L, hP, hD, hSh⟩ := hB
    rw [ht] at hP
    clear ht
    have ey12 := ey12.symm
    refine lv_goto (tgt := 55) hx hb d_Mo_block_47 (by decide) ?_
    have gzI : zI7 = v_Mo_block1V_zI zI zL j kc bk b := by subst ey12 ezI7; unfold v_Mo_block1V_zI; rw [if_neg hb8]
    have hSh : az_Sh g ad zG zO zX zY zA zB zM (v_Mo_block1V_zI zI zL j kc bk b) zL (nI kc) (az_wn kc) (nI 0) zQ L := by rw [← gzI]; exact hSh
    exact W.lret hx hb hr (fun t ht hW => ⟨⟨_, (), rfl, (by subst ey12 ezI7; unfold v_Mo_block1V; rw [if_neg hb8]), ag_Hr ht hP hD hSh⟩, hS.F ht⟩) hS.2.2 d_Mo_block_55
noncomputable def v_Mo_blockXcV  : Int64 := 0
abbrev ws_Mo_blockXcV : List Cond := Cond.code y_Mo_block b_Mo_block 5 (some .long) :: aw_G
abbrev rm_Mo_blockXcV : Room := { frames := 1, cells := 0, slots := 0, locals := 21 }
set_option maxHeartbeats 4000000 in
set_option maxRecDepth 100000 in
theorem k_Mo_blockXcV (l : Launch) (D : va_G) (g : Nat → ClassId) (ad : Nat → Nat) (N0 : Nat) (zG : Nat → Nat × Nat) (zO : Nat → Nat) (zX : Nat → Nat → Int64) (zY : Nat → Nat → Int32) (zA : Nat → Nat → Nat → Int32) (zB : Nat → Int32) (zM : Nat → Nat × Nat) (zI : Nat → Nat → Int32) (zL : Nat → Nat → Int64) (zK : Int32) (zN : Nat) (zF : Int32) (zQ : Int64) (c0 : Int32) (bk : Int32) (b : Int64) (hc : c0 < 0 ∨ (¬ c0 < 0 ∧ ¬ c0 < nI 4)) : Met l y_Mo_block ws_Mo_blockXcV rm_Mo_blockXcV (va_Pc ([.ref (aw_m ad 0), .int c0, .int bk, .long b] : List Value) (ag_B D g N0 (az_Sh g ad zG zO zX zY zA zB zM zI zL zK zN zF zQ))) (va_Ql (fun r (_ : Unit) => r = v_Mo_blockXcV ) (fun (_ : Unit) t => ag_H D N0 (az_Sh g ad zG zO zX zY zA zB zM zI zL zK zN (nI 1) zQ) t.heap) (aw_Z N0)) 0 0 (aw_Z N0) := by
  refine Met.ofW (cc := b_Mo_block) (maxL := 5) (ret := (some .long)) (by decide) rfl ?_
  intro p e s m args below meth c s₁ B hml hv
  obtain ⟨rfl, ⟨L, hP, hD, hSh⟩, hU⟩ := hv
  have hx := B.exec
  have hb := B.bytes
  have hr := B.returns
  have hG : ∀ w ∈ aw_G, w.before _ s = true := fun w h => atoms_spec (ws := ws_Mo_blockXcV) B.pre w (List.mem_cons_of_mem _ h)
  have hown : s.vm.findClass "RuleCiphersModel" = some m.cls := findClass_of_methodNamed B.named
  have hlocks := B.notSynchronized
  have hE := hU.1
  have hK := hE.1
  have hN := hE.2.1
  have hS : va_S (aw_Z N0) s.heap s.heap [] := va_S.rf
  have hl := lv_entry ([.ref (aw_m ad 0), .int c0, .int bk, .long b] : List Value) (n := 5) (Nat.le_of_ble_eq_true rfl)
  rw [lg_entry_eq]
  generalize (lg_sl ([.ref (aw_m ad 0), .int c0, .int bk, .long b] : List Value) ++ List.replicate (5 - (lg_sl ([.ref (aw_m ad 0), .int c0, .int bk, .long b] : List Value)).length) Slot.unset).toArray = ls at hl ⊢
  have hl : lv_has ls 5 [(0, .ref (aw_m ad 0)), (1, .int c0), (2, .int bk), (3, .long b)] := hl
  refine lv_aload_n hx hb d_Mo_block_0 rfl (lv_at hl 0 rfl) ?_
  refine lv_iload_n hx hb d_Mo_block_1 rfl (lv_at hl 1 rfl) ?_
  refine aw_ci ((va_runS (As := [.int c0]) (rest := [.ref (aw_m ad 0)]) ⟨hx, hb, hml, hown, hG⟩ (k_Mo_isContext0 l c0 hc) (aw_wS 1 hG gw_10_34 gw_10_32 gw_0_10 gw_10_33 rfl rfl hd_Mo_isContext ⟨Nat.le_of_ble_eq_true rfl, Nat.le_of_ble_eq_true rfl⟩) aw_p0 rfl rfl hl.1 rfl (lv_room (Nat.le_of_ble_eq_true rfl)) d_Mo_block_2 ⟨Nat.le_of_ble_eq_true rfl, Nat.le_of_ble_eq_true rfl⟩).run) (fun x1 hx1 => ?_)
  subst hx1
  refine lv_if_ne (tgt := 12) hx hb d_Mo_block_5 (by decide) (fun h => absurd (by decide +kernel) h) (fun _ => ?_)
  refine lv_iconst (v := nI 1) hx hb d_Mo_block_8 (by decide +kernel) ?_
  refine lv_goto (tgt := 25) hx hb d_Mo_block_9 (by decide) ?_
  obtain ⟨_, he2⟩ := zr_M0 hSh
  refine va_calli (va_runV (As := [.int (nI 1)]) (rest := []) ⟨hx, hb, hml, hown, hG⟩ (k_Mo_refused1V l D g ad N0 zG zO zX zY zA zB zM zI zL zK zN zF zQ 1 (by omega)) (aw_wV 1 hG gw_10_37 gw_10_35 gw_0_10 gw_10_36 gw_p_9 rfl rfl hd_Mo_refused ⟨Nat.le_of_ble_eq_true rfl, Nat.le_of_ble_eq_true rfl⟩) (ag_qV (va_recv hK hP rfl he2) hP hD hSh hU hS) rfl rfl hl.1 rfl (lv_room (Nat.le_of_ble_eq_true rfl)) d_Mo_block_25 ⟨Nat.le_of_ble_eq_true rfl, Nat.le_of_ble_eq_true rfl⟩) hS (fun _ _ h => h) (fun _ h => h) ?_
  clear hP hD hSh hS he2
  intro x3 u8 t8 H locs ht _ ex3 hB _ _ hS
  obtain ⟨L, hP, hD, hSh⟩ := hB
  rw [ht] at hP
  clear ht
  subst ex3
  refine lv_if_eq (tgt := 33) hx hb d_Mo_block_28 (by decide) (fun h => absurd h (by decide +kernel)) (fun _ => ?_)
  refine lv_lconst (v := 0) hx hb d_Mo_block_31 (by decide +kernel) ?_
  exact W.lret hx hb hr (fun t ht hW => ⟨⟨_, (), rfl, (by rfl), ag_Hr ht hP hD hSh⟩, hS.F ht⟩) hS.2.2 d_Mo_block_32
noncomputable def v_Mo_blockXsV  : Int64 := 0
abbrev ws_Mo_blockXsV : List Cond := Cond.code y_Mo_block b_Mo_block 5 (some .long) :: aw_G
abbrev rm_Mo_blockXsV : Room := { frames := 1, cells := 0, slots := 0, locals := 21 }
set_option maxHeartbeats 4000000 in
set_option maxRecDepth 100000 in
theorem k_Mo_blockXsV (l : Launch) (D : va_G) (g : Nat → ClassId) (ad : Nat → Nat) (N0 : Nat) (zG : Nat → Nat × Nat) (zO : Nat → Nat) (zX : Nat → Nat → Int64) (zY : Nat → Nat → Int32) (zA : Nat → Nat → Nat → Int32) (zB : Nat → Int32) (zM : Nat → Nat × Nat) (zI : Nat → Nat → Int32) (zL : Nat → Nat → Int64) (zK : Int32) (zN : Nat) (zF : Int32) (zQ : Int64) (j : Nat) (bk : Int32) (b : Int64) (hj : j < 4) (hs : (zM j).1 ≤ 1) : Met l y_Mo_block ws_Mo_blockXsV rm_Mo_blockXsV (va_Pc ([.ref (aw_m ad 0), .int (nI j), .int bk, .long b] : List Value) (ag_B D g N0 (az_Sh g ad zG zO zX zY zA zB zM zI zL zK zN zF zQ))) (va_Ql (fun r (_ : Unit) => r = v_Mo_blockXsV ) (fun (_ : Unit) t => ag_H D N0 (az_Sh g ad zG zO zX zY zA zB zM zI zL zK zN (nI 2) zQ) t.heap) (aw_Z N0)) 0 0 (aw_Z N0) := by
  refine Met.ofW (cc := b_Mo_block) (maxL := 5) (ret := (some .long)) (by decide) rfl ?_
  intro p e s m args below meth c s₁ B hml hv
  obtain ⟨rfl, ⟨L, hP, hD, hSh⟩, hU⟩ := hv
  have hx := B.exec
  have hb := B.bytes
  have hr := B.returns
  have hG : ∀ w ∈ aw_G, w.before _ s = true := fun w h => atoms_spec (ws := ws_Mo_blockXsV) B.pre w (List.mem_cons_of_mem _ h)
  have hown : s.vm.findClass "RuleCiphersModel" = some m.cls := findClass_of_methodNamed B.named
  have hlocks := B.notSynchronized
  have hE := hU.1
  have hK := hE.1
  have hN := hE.2.1
  have hS : va_S (aw_Z N0) s.heap s.heap [] := va_S.rf
  have hl := lv_entry ([.ref (aw_m ad 0), .int (nI j), .int bk, .long b] : List Value) (n := 5) (Nat.le_of_ble_eq_true rfl)
  rw [lg_entry_eq]
  generalize (lg_sl ([.ref (aw_m ad 0), .int (nI j), .int bk, .long b] : List Value) ++ List.replicate (5 - (lg_sl ([.ref (aw_m ad 0), .int (nI j), .int bk, .long b] : List Value)).length) Slot.unset).toArray = ls at hl ⊢
  have hl : lv_has ls 5 [(0, .ref (aw_m ad 0)), (1, .int (nI j)), (2, .int bk), (3, .long b)] := hl
  refine lv_aload_n hx hb d_Mo_block_0 rfl (lv_at hl 0 rfl) ?_
  refine lv_iload_n hx hb d_Mo_block_1 rfl (lv_at hl 1 rfl) ?_
  refine aw_ci ((va_runS (As := [.int (nI j)]) (rest := [.ref (aw_m ad 0)]) ⟨hx, hb, hml, hown, hG⟩ (k_Mo_isContext1 l j hj) (aw_wS 1 hG gw_10_34 gw_10_32 gw_0_10 gw_10_33 rfl rfl hd_Mo_isContext ⟨Nat.le_of_ble_eq_true rfl, Nat.le_of_ble_eq_true rfl⟩) aw_p0 rfl rfl hl.1 rfl (lv_room (Nat.le_of_ble_eq_true rfl)) d_Mo_block_2 ⟨Nat.le_of_ble_eq_true rfl, Nat.le_of_ble_eq_true rfl⟩).run) (fun x1 hx1 => ?_)
  subst hx1
  refine lv_if_ne (tgt := 12) hx hb d_Mo_block_5 (by decide) (fun _ => ?_) (fun h => absurd h (by decide +kernel))
  refine lv_aload_n hx hb d_Mo_block_12 rfl (lv_at hl 0 rfl) ?_
  refine lv_iload_n hx hb d_Mo_block_13 rfl (lv_at hl 1 rfl) ?_
  obtain ⟨_, he2⟩ := zr_M0 hSh
  refine va_calli (va_runV (As := [.int (nI j)]) (rest := [.ref (aw_m ad 0)]) ⟨hx, hb, hml, hown, hG⟩ (k_Mo_isKeyed0V l D g ad N0 zG zO zX zY zA zB zM zI zL zK zN zF zQ j hj hs) (aw_wV 1 hG gw_10_48 gw_10_46 gw_0_10 gw_10_47 gw_p_10 rfl rfl hd_Mo_isKeyed ⟨Nat.le_of_ble_eq_true rfl, Nat.le_of_ble_eq_true rfl⟩) (ag_qV (va_recv hK hP rfl he2) hP hD hSh hU hS) rfl rfl hl.1 rfl (lv_room (Nat.le_of_ble_eq_true rfl)) d_Mo_block_14 ⟨Nat.le_of_ble_eq_true rfl, Nat.le_of_ble_eq_true rfl⟩) hS (fun _ _ h => h) (fun _ h => h) ?_
  clear hP hD hSh hS he2
  intro x3 u8 t8 H locs ht _ ex3 hB _ _ hS
  obtain ⟨L, hP, hD, hSh⟩ := hB
  rw [ht] at hP
  clear ht
  subst ex3
  refine lv_if_ne (tgt := 24) hx hb d_Mo_block_17 (by decide) (fun h => absurd (by decide +kernel) h) (fun _ => ?_)
  refine lv_iconst (v := nI 2) hx hb d_Mo_block_20 (by decide +kernel) ?_
  refine lv_goto (tgt := 25) hx hb d_Mo_block_21 (by decide) ?_
  obtain ⟨_, he4⟩ := zr_M0 hSh
  refine va_calli (va_runV (As := [.int (nI 2)]) (rest := []) ⟨hx, hb, hml, hown, hG⟩ (k_Mo_refused1V l D g ad N0 zG zO zX zY zA zB zM zI zL zK zN zF zQ 2 (by omega)) (aw_wV 1 hG gw_10_37 gw_10_35 gw_0_10 gw_10_36 gw_p_9 rfl rfl hd_Mo_refused ⟨Nat.le_of_ble_eq_true rfl, Nat.le_of_ble_eq_true rfl⟩) (ag_qV (va_recv hK hP rfl he4) hP hD hSh hU hS) rfl rfl hl.1 rfl (lv_room (Nat.le_of_ble_eq_true rfl)) d_Mo_block_25 ⟨Nat.le_of_ble_eq_true rfl, Nat.le_of_ble_eq_true rfl⟩) hS (fun _ _ h => h) (fun _ h => h) ?_
  clear hP hD hSh hS he4
  intro x5 u8 t8 H locs ht _ ex5 hB _ _ hS
  obtain ⟨L, hP, hD, hSh⟩ := hB
  rw [ht] at hP
  clear ht
  subst ex5
  refine lv_if_eq (tgt := 33) hx hb d_Mo_block_28 (by decide) (fun h => absurd h (by decide +kernel)) (fun _ => ?_)
  refine lv_lconst (v := 0) hx hb d_Mo_block_31 (by decide +kernel) ?_
  exact W.lret hx hb hr (fun t ht hW => ⟨⟨_, (), rfl, (by rfl), ag_Hr ht hP hD hSh⟩, hS.F ht⟩) hS.2.2 d_Mo_block_32
noncomputable def v_Mo_word1V (zI : Nat → Nat → Int32) (zL : Nat → Nat → Int64) (j : Nat) (kc : Nat) (i : Int32) : Int32 := (if i < 0 then (-1) else (if i < (nI (az_wn kc)) then (v_Mo_prepareJV_zI zI zL j kc) 15 ((i).toNatClampNeg) else (-1)))
noncomputable def v_Mo_word1V_zI (zI : Nat → Nat → Int32) (zL : Nat → Nat → Int64) (j : Nat) (kc : Nat) (i : Int32) : Nat → Nat → Int32 := (if i < 0 then v_Mo_prepareJV_zI zI zL j kc else (if i < (nI (az_wn kc)) then v_Mo_prepareJV_zI zI zL j kc else v_Mo_prepareJV_zI zI zL j kc))
abbrev ws_Mo_word1V : List Cond := Cond.code y_Mo_word b_Mo_word 3 (some .int) :: aw_G
abbrev rm_Mo_word1V : Room := { frames := 4, cells := 0, slots := 0, locals := 94 }
set_option maxHeartbeats 4000000 in
set_option maxRecDepth 100000 in
theorem k_Mo_word1V (l : Launch) (D : va_G) (g : Nat → ClassId) (ad : Nat → Nat) (N0 : Nat) (zG : Nat → Nat × Nat) (zO : Nat → Nat) (zX : Nat → Nat → Int64) (zY : Nat → Nat → Int32) (zA : Nat → Nat → Nat → Int32) (zB : Nat → Int32) (zM : Nat → Nat × Nat) (zI : Nat → Nat → Int32) (zL : Nat → Nat → Int64) (zK : Int32) (zN : Nat) (zF : Int32) (zQ : Int64) (j : Nat) (kc : Nat) (i : Int32) (hj : j < 4) (hs : 2 ≤ (zM j).1) (hkc : kc < 5) (hci : zI 3 j = nI kc) : Met l y_Mo_word ws_Mo_word1V rm_Mo_word1V (va_Pc ([.ref (aw_m ad 0), .int (nI j), .int i] : List Value) (ag_B D g N0 (az_Sh g ad zG zO zX zY zA zB zM zI zL zK zN zF zQ))) (va_Qi (fun r (_ : Unit) => r = v_Mo_word1V zI zL j kc i) (fun (_ : Unit) t => ag_H D N0 (az_Sh g ad zG zO zX zY zA zB zM (v_Mo_word1V_zI zI zL j kc i) zL (nI kc) (az_wn kc) (nI 0) zQ) t.heap) (aw_Z N0)) 0 0 (aw_Z N0) := by
  refine Met.ofW (cc := b_Mo_word) (maxL := 3) (ret := (some .int)) (by decide) rfl ?_
  intro p e s m args below meth c s₁ B hml hv
  obtain ⟨rfl, ⟨L, hP, hD, hSh⟩, hU⟩ := hv
  have hx := B.exec
  have hb := B.bytes
  have hr := B.returns
  have hG : ∀ w ∈ aw_G, w.before _ s = true := fun w h => atoms_spec (ws := ws_Mo_word1V) B.pre w (List.mem_cons_of_mem _ h)
  have hown : s.vm.findClass "RuleCiphersModel" = some m.cls := findClass_of_methodNamed B.named
  have hlocks := B.notSynchronized
  have hE := hU.1
  have hK := hE.1
  have hN := hE.2.1
  have hS : va_S (aw_Z N0) s.heap s.heap [] := va_S.rf
  have hl := lv_entry ([.ref (aw_m ad 0), .int (nI j), .int i] : List Value) (n := 3) (Nat.le_of_ble_eq_true rfl)
  rw [lg_entry_eq]
  generalize (lg_sl ([.ref (aw_m ad 0), .int (nI j), .int i] : List Value) ++ List.replicate (3 - (lg_sl ([.ref (aw_m ad 0), .int (nI j), .int i] : List Value)).length) Slot.unset).toArray = ls at hl ⊢
  have hl : lv_has ls 3 [(0, .ref (aw_m ad 0)), (1, .int (nI j)), (2, .int i)] := hl
  refine lv_aload_n hx hb d_Mo_word_0 rfl (lv_at hl 0 rfl) ?_
  refine lv_iload_n hx hb d_Mo_word_1 rfl (lv_at hl 1 rfl) ?_
  refine aw_ci ((va_runS (As := [.int (nI j)]) (rest := [.ref (aw_m ad 0)]) ⟨hx, hb, hml, hown, hG⟩ (k_Mo_isContext1 l j hj) (aw_wS 1 hG gw_10_34 gw_10_32 gw_0_10 gw_10_33 rfl rfl hd_Mo_isContext ⟨Nat.le_of_ble_eq_true rfl, Nat.le_of_ble_eq_true rfl⟩) aw_p0 rfl rfl hl.1 rfl (lv_room (Nat.le_of_ble_eq_true rfl)) d_Mo_word_2 ⟨Nat.le_of_ble_eq_true rfl, Nat.le_of_ble_eq_true rfl⟩).run) (fun x1 hx1 => ?_)
  subst hx1
  refine lv_if_ne (tgt := 12) hx hb d_Mo_word_5 (by decide) (fun _ => ?_) (fun h => absurd h (by decide +kernel))
  refine lv_aload_n hx hb d_Mo_word_12 rfl (lv_at hl 0 rfl) ?_
  refine lv_iload_n hx hb d_Mo_word_13 rfl (lv_at hl 1 rfl) ?_
  obtain ⟨_, he2⟩ := zr_M0 hSh
  refine va_calli (va_runV (As := [.int (nI j)]) (rest := [.ref (aw_m ad 0)]) ⟨hx, hb, hml, hown, hG⟩ (k_Mo_isKeyed1V l D g ad N0 zG zO zX zY zA zB zM zI zL zK zN zF zQ j hj hs) (aw_wV 1 hG gw_10_48 gw_10_46 gw_0_10 gw_10_47 gw_p_10 rfl rfl hd_Mo_isKeyed ⟨Nat.le_of_ble_eq_true rfl, Nat.le_of_ble_eq_true rfl⟩) (ag_qV (va_recv hK hP rfl he2) hP hD hSh hU hS) rfl rfl hl.1 rfl (lv_room (Nat.le_of_ble_eq_true rfl)) d_Mo_word_14 ⟨Nat.le_of_ble_eq_true rfl, Nat.le_of_ble_eq_true rfl⟩) hS (fun _ _ h => h) (fun _ h => h) ?_
  clear hP hD hSh hS he2
  intro x3 u8 t8 H locs ht _ ex3 hB _ _ hS
  obtain ⟨L, hP, hD, hSh⟩ := hB
  rw [ht] at hP
  clear ht
  subst ex3
  refine lv_if_ne (tgt := 24) hx hb d_Mo_word_17 (by decide) (fun _ => ?_) (fun h => absurd h (by decide +kernel))
  refine lv_iconst (v := nI 0) hx hb d_Mo_word_24 (by decide +kernel) ?_
  obtain ⟨_, he4⟩ := zr_M0 hSh
  refine va_calli (va_runV (As := [.int (nI 0)]) (rest := []) ⟨hx, hb, hml, hown, hG⟩ (k_Mo_refused0V l D g ad N0 zG zO zX zY zA zB zM zI zL zK zN zF zQ) (aw_wV 1 hG gw_10_37 gw_10_35 gw_0_10 gw_10_36 gw_p_9 rfl rfl hd_Mo_refused ⟨Nat.le_of_ble_eq_true rfl, Nat.le_of_ble_eq_true rfl⟩) (ag_qV (va_recv hK hP rfl he4) hP hD hSh hU hS) rfl rfl hl.1 rfl (lv_room (Nat.le_of_ble_eq_true rfl)) d_Mo_word_25 ⟨Nat.le_of_ble_eq_true rfl, Nat.le_of_ble_eq_true rfl⟩) hS (fun _ _ h => h) (fun _ h => h) ?_
  clear hP hD hSh hS he4
  intro x5 u8 t8 H locs ht _ ex5 hB _ _ hS
  obtain ⟨L, hP, hD, hSh⟩ := hB
  rw [ht] at hP
  clear ht
  subst ex5
  refine lv_if_eq (tgt := 33) hx hb d_Mo_word_28 (by decide) (fun _ => ?_) (fun h => absurd (by decide +kernel) h)
  refine lv_aload_n hx hb d_Mo_word_33 rfl (lv_at hl 0 rfl) ?_
  refine lv_iload_n hx hb d_Mo_word_34 rfl (lv_at hl 1 rfl) ?_
  obtain ⟨_, he6⟩ := zr_M0 hSh
  refine va_callv (va_runV (As := [.int (nI j)]) (rest := []) ⟨hx, hb, hml, hown, hG⟩ (k_Mo_prepareJV l D g ad N0 zG zO zX zY zA zB zM zI zL zK zN (nI 0) zQ j kc hj hkc hci) (aw_wV 1 hG gw_11_6 gw_11_4 gw_0_10 gw_11_5 gw_p_12 rfl rfl hd_Mo_prepare ⟨Nat.le_of_ble_eq_true rfl, Nat.le_of_ble_eq_true rfl⟩) (ag_qV (va_recv hK hP rfl he6) hP hD hSh hU hS) rfl rfl hl.1 rfl (lv_room (Nat.le_of_ble_eq_true rfl)) d_Mo_word_35 ⟨Nat.le_of_ble_eq_true rfl, Nat.le_of_ble_eq_true rfl⟩) hS (fun _ _ h => h) (fun _ h => h) ?_
  clear hP hD hSh hS he6
  intro u8 t8 H locs ht _ _ hB _ _ hS
  obtain ⟨L, hP, hD, hSh⟩ := hB
  rw [ht] at hP
  clear ht
  obtain ⟨zI7, ezI7⟩ : ∃ z : Nat → Nat → Int32, v_Mo_prepareJV_zI zI zL j kc = z := ⟨_, rfl⟩
  rw [ezI7] at hSh
  refine lv_iload_n hx hb d_Mo_word_38 rfl (lv_at hl 2 rfl) ?_
  refine lv_if_lt (tgt := 50) hx hb d_Mo_word_39 (by decide) (fun hb8 => ?_) (fun hb8 => ?_)
  · refine lv_iconst (v := (-1)) hx hb d_Mo_word_50 (by decide +kernel) ?_
    refine lv_goto (tgt := 60) hx hb d_Mo_word_51 (by decide) ?_
    have gzI : zI7 = v_Mo_word1V_zI zI zL j kc i := by subst ezI7; unfold v_Mo_word1V_zI; rw [if_pos hb8]
    have hSh : az_Sh g ad zG zO zX zY zA zB zM (v_Mo_word1V_zI zI zL j kc i) zL (nI kc) (az_wn kc) (nI 0) zQ L := by rw [← gzI]; exact hSh
    exact W.iret hx hb hr (fun t ht hW => ⟨⟨_, (), rfl, (by subst ezI7; unfold v_Mo_word1V; rw [if_pos hb8]), ag_Hr ht hP hD hSh⟩, hS.F ht⟩) hS.2.2 d_Mo_word_60
  · refine lv_iload_n hx hb d_Mo_word_42 rfl (lv_at hl 2 rfl) ?_
    refine lv_aload_n hx hb d_Mo_word_43 rfl (lv_at hl 0 rfl) ?_
    obtain ⟨hsd10, he9⟩ := zr_M0 hSh
    refine va_get (C := R_Mo) (T := T_Mo) (N := 19) (v := .int (nI ((az_wn kc)))) hx hb hG in_Mo hown hK hP 67 he9 rfl 16 (by decide) (hG _ gw_9_41) (fun _ h => h) rfl d_Mo_word_44 ?_
    clear he9
    refine lv_icmp_lt (tgt := 54) hx hb d_Mo_word_47 (by decide) (fun hb11 => ?_) (fun hb11 => ?_)
    · refine lv_aload_n hx hb d_Mo_word_54 rfl (lv_at hl 0 rfl) ?_
      obtain ⟨hsd13, he12⟩ := zr_M0 hSh
      refine va_get (C := R_Mo) (T := T_Mo) (N := 19) (v := .ref (aw_m ad 15)) hx hb hG in_Mo hown hK hP 67 he12 rfl 17 (by decide) (hG _ gw_9_42) (fun _ h => h) rfl d_Mo_word_55 ?_
      clear he12
      refine lv_iload_n hx hb d_Mo_word_58 rfl (lv_at hl 2 rfl) ?_
      have he14 := zr_M15 hSh
      obtain ⟨k15, hk15, ek15⟩ := aw_place (n := ((az_wn kc))) hb8 hb11 (by omega)
      refine aw_ti (y := nI k15) ek15 ?_
      have fk15 : (i).toNatClampNeg = k15 := by rw [ek15, nI_clamp (by omega)]
      refine aw_ild hx hb hK hP 82 0 he14 rfl (k := k15) (by omega) (by decide) d_Mo_word_59 ?_
      clear he14
      refine ag_topi (fun x16 ex16 => ?_)
      have gzI : zI7 = v_Mo_word1V_zI zI zL j kc i := by subst ex16 fk15 ezI7; unfold v_Mo_word1V_zI; rw [if_neg hb8, if_pos hb11]
      have hSh : az_Sh g ad zG zO zX zY zA zB zM (v_Mo_word1V_zI zI zL j kc i) zL (nI kc) (az_wn kc) (nI 0) zQ L := by rw [← gzI]; exact hSh
      exact W.iret hx hb hr (fun t ht hW => ⟨⟨_, (), rfl, (by subst ex16 fk15 ezI7; unfold v_Mo_word1V; rw [if_neg hb8, if_pos hb11]), ag_Hr ht hP hD hSh⟩, hS.F ht⟩) hS.2.2 d_Mo_word_60
    · refine lv_iconst (v := (-1)) hx hb d_Mo_word_50 (by decide +kernel) ?_
      refine lv_goto (tgt := 60) hx hb d_Mo_word_51 (by decide) ?_
      have gzI : zI7 = v_Mo_word1V_zI zI zL j kc i := by subst ezI7; unfold v_Mo_word1V_zI; rw [if_neg hb8, if_neg hb11]
      have hSh : az_Sh g ad zG zO zX zY zA zB zM (v_Mo_word1V_zI zI zL j kc i) zL (nI kc) (az_wn kc) (nI 0) zQ L := by rw [← gzI]; exact hSh
      exact W.iret hx hb hr (fun t ht hW => ⟨⟨_, (), rfl, (by subst ezI7; unfold v_Mo_word1V; rw [if_neg hb8, if_neg hb11]), ag_Hr ht hP hD hSh⟩, hS.F ht⟩) hS.2.2 d_Mo_word_60
noncomputable def v_Mo_wordXcV  : Int32 := nI 0
abbrev ws_Mo_wordXcV : List Cond := Cond.code y_Mo_word b_Mo_word 3 (some .int) :: aw_G
abbrev rm_Mo_wordXcV : Room := { frames := 1, cells := 0, slots := 0, locals := 21 }
set_option maxHeartbeats 4000000 in
set_option maxRecDepth 100000 in
theorem k_Mo_wordXcV (l : Launch) (D : va_G) (g : Nat → ClassId) (ad : Nat → Nat) (N0 : Nat) (zG : Nat → Nat × Nat) (zO : Nat → Nat) (zX : Nat → Nat → Int64) (zY : Nat → Nat → Int32) (zA : Nat → Nat → Nat → Int32) (zB : Nat → Int32) (zM : Nat → Nat × Nat) (zI : Nat → Nat → Int32) (zL : Nat → Nat → Int64) (zK : Int32) (zN : Nat) (zF : Int32) (zQ : Int64) (c0 : Int32) (i : Int32) (hc : c0 < 0 ∨ (¬ c0 < 0 ∧ ¬ c0 < nI 4)) : Met l y_Mo_word ws_Mo_wordXcV rm_Mo_wordXcV (va_Pc ([.ref (aw_m ad 0), .int c0, .int i] : List Value) (ag_B D g N0 (az_Sh g ad zG zO zX zY zA zB zM zI zL zK zN zF zQ))) (va_Qi (fun r (_ : Unit) => r = v_Mo_wordXcV ) (fun (_ : Unit) t => ag_H D N0 (az_Sh g ad zG zO zX zY zA zB zM zI zL zK zN (nI 1) zQ) t.heap) (aw_Z N0)) 0 0 (aw_Z N0) := by
  refine Met.ofW (cc := b_Mo_word) (maxL := 3) (ret := (some .int)) (by decide) rfl ?_
  intro p e s m args below meth c s₁ B hml hv
  obtain ⟨rfl, ⟨L, hP, hD, hSh⟩, hU⟩ := hv
  have hx := B.exec
  have hb := B.bytes
  have hr := B.returns
  have hG : ∀ w ∈ aw_G, w.before _ s = true := fun w h => atoms_spec (ws := ws_Mo_wordXcV) B.pre w (List.mem_cons_of_mem _ h)
  have hown : s.vm.findClass "RuleCiphersModel" = some m.cls := findClass_of_methodNamed B.named
  have hlocks := B.notSynchronized
  have hE := hU.1
  have hK := hE.1
  have hN := hE.2.1
  have hS : va_S (aw_Z N0) s.heap s.heap [] := va_S.rf
  have hl := lv_entry ([.ref (aw_m ad 0), .int c0, .int i] : List Value) (n := 3) (Nat.le_of_ble_eq_true rfl)
  rw [lg_entry_eq]
  generalize (lg_sl ([.ref (aw_m ad 0), .int c0, .int i] : List Value) ++ List.replicate (3 - (lg_sl ([.ref (aw_m ad 0), .int c0, .int i] : List Value)).length) Slot.unset).toArray = ls at hl ⊢
  have hl : lv_has ls 3 [(0, .ref (aw_m ad 0)), (1, .int c0), (2, .int i)] := hl
  refine lv_aload_n hx hb d_Mo_word_0 rfl (lv_at hl 0 rfl) ?_
  refine lv_iload_n hx hb d_Mo_word_1 rfl (lv_at hl 1 rfl) ?_
  refine aw_ci ((va_runS (As := [.int c0]) (rest := [.ref (aw_m ad 0)]) ⟨hx, hb, hml, hown, hG⟩ (k_Mo_isContext0 l c0 hc) (aw_wS 1 hG gw_10_34 gw_10_32 gw_0_10 gw_10_33 rfl rfl hd_Mo_isContext ⟨Nat.le_of_ble_eq_true rfl, Nat.le_of_ble_eq_true rfl⟩) aw_p0 rfl rfl hl.1 rfl (lv_room (Nat.le_of_ble_eq_true rfl)) d_Mo_word_2 ⟨Nat.le_of_ble_eq_true rfl, Nat.le_of_ble_eq_true rfl⟩).run) (fun x1 hx1 => ?_)
  subst hx1
  refine lv_if_ne (tgt := 12) hx hb d_Mo_word_5 (by decide) (fun h => absurd (by decide +kernel) h) (fun _ => ?_)
  refine lv_iconst (v := nI 1) hx hb d_Mo_word_8 (by decide +kernel) ?_
  refine lv_goto (tgt := 25) hx hb d_Mo_word_9 (by decide) ?_
  obtain ⟨_, he2⟩ := zr_M0 hSh
  refine va_calli (va_runV (As := [.int (nI 1)]) (rest := []) ⟨hx, hb, hml, hown, hG⟩ (k_Mo_refused1V l D g ad N0 zG zO zX zY zA zB zM zI zL zK zN zF zQ 1 (by omega)) (aw_wV 1 hG gw_10_37 gw_10_35 gw_0_10 gw_10_36 gw_p_9 rfl rfl hd_Mo_refused ⟨Nat.le_of_ble_eq_true rfl, Nat.le_of_ble_eq_true rfl⟩) (ag_qV (va_recv hK hP rfl he2) hP hD hSh hU hS) rfl rfl hl.1 rfl (lv_room (Nat.le_of_ble_eq_true rfl)) d_Mo_word_25 ⟨Nat.le_of_ble_eq_true rfl, Nat.le_of_ble_eq_true rfl⟩) hS (fun _ _ h => h) (fun _ h => h) ?_
  clear hP hD hSh hS he2
  intro x3 u8 t8 H locs ht _ ex3 hB _ _ hS
  obtain ⟨L, hP, hD, hSh⟩ := hB
  rw [ht] at hP
  clear ht
  subst ex3
  refine lv_if_eq (tgt := 33) hx hb d_Mo_word_28 (by decide) (fun h => absurd h (by decide +kernel)) (fun _ => ?_)
  refine lv_iconst (v := nI 0) hx hb d_Mo_word_31 (by decide +kernel) ?_
  exact W.iret hx hb hr (fun t ht hW => ⟨⟨_, (), rfl, (by rfl), ag_Hr ht hP hD hSh⟩, hS.F ht⟩) hS.2.2 d_Mo_word_32
noncomputable def v_Mo_wordXsV  : Int32 := nI 0
abbrev ws_Mo_wordXsV : List Cond := Cond.code y_Mo_word b_Mo_word 3 (some .int) :: aw_G
abbrev rm_Mo_wordXsV : Room := { frames := 1, cells := 0, slots := 0, locals := 21 }
set_option maxHeartbeats 4000000 in
set_option maxRecDepth 100000 in
theorem k_Mo_wordXsV (l : Launch) (D : va_G) (g : Nat → ClassId) (ad : Nat → Nat) (N0 : Nat) (zG : Nat → Nat × Nat) (zO : Nat → Nat) (zX : Nat → Nat → Int64) (zY : Nat → Nat → Int32) (zA : Nat → Nat → Nat → Int32) (zB : Nat → Int32) (zM : Nat → Nat × Nat) (zI : Nat → Nat → Int32) (zL : Nat → Nat → Int64) (zK : Int32) (zN : Nat) (zF : Int32) (zQ : Int64) (j : Nat) (i : Int32) (hj : j < 4) (hs : (zM j).1 ≤ 1) : Met l y_Mo_word ws_Mo_wordXsV rm_Mo_wordXsV (va_Pc ([.ref (aw_m ad 0), .int (nI j), .int i] : List Value) (ag_B D g N0 (az_Sh g ad zG zO zX zY zA zB zM zI zL zK zN zF zQ))) (va_Qi (fun r (_ : Unit) => r = v_Mo_wordXsV ) (fun (_ : Unit) t => ag_H D N0 (az_Sh g ad zG zO zX zY zA zB zM zI zL zK zN (nI 2) zQ) t.heap) (aw_Z N0)) 0 0 (aw_Z N0) := by
  refine Met.ofW (cc := b_Mo_word) (maxL := 3) (ret := (some .int)) (by decide) rfl ?_
  intro p e s m args below meth c s₁ B hml hv
  obtain ⟨rfl, ⟨L, hP, hD, hSh⟩, hU⟩ := hv
  have hx := B.exec
  have hb := B.bytes
  have hr := B.returns
  have hG : ∀ w ∈ aw_G, w.before _ s = true := fun w h => atoms_spec (ws := ws_Mo_wordXsV) B.pre w (List.mem_cons_of_mem _ h)
  have hown : s.vm.findClass "RuleCiphersModel" = some m.cls := findClass_of_methodNamed B.named
  have hlocks := B.notSynchronized
  have hE := hU.1
  have hK := hE.1
  have hN := hE.2.1
  have hS : va_S (aw_Z N0) s.heap s.heap [] := va_S.rf
  have hl := lv_entry ([.ref (aw_m ad 0), .int (nI j), .int i] : List Value) (n := 3) (Nat.le_of_ble_eq_true rfl)
  rw [lg_entry_eq]
  generalize (lg_sl ([.ref (aw_m ad 0), .int (nI j), .int i] : List Value) ++ List.replicate (3 - (lg_sl ([.ref (aw_m ad 0), .int (nI j), .int i] : List Value)).length) Slot.unset).toArray = ls at hl ⊢
  have hl : lv_has ls 3 [(0, .ref (aw_m ad 0)), (1, .int (nI j)), (2, .int i)] := hl
  refine lv_aload_n hx hb d_Mo_word_0 rfl (lv_at hl 0 rfl) ?_
  refine lv_iload_n hx hb d_Mo_word_1 rfl (lv_at hl 1 rfl) ?_
  refine aw_ci ((va_runS (As := [.int (nI j)]) (rest := [.ref (aw_m ad 0)]) ⟨hx, hb, hml, hown, hG⟩ (k_Mo_isContext1 l j hj) (aw_wS 1 hG gw_10_34 gw_10_32 gw_0_10 gw_10_33 rfl rfl hd_Mo_isContext ⟨Nat.le_of_ble_eq_true rfl, Nat.le_of_ble_eq_true rfl⟩) aw_p0 rfl rfl hl.1 rfl (lv_room (Nat.le_of_ble_eq_true rfl)) d_Mo_word_2 ⟨Nat.le_of_ble_eq_true rfl, Nat.le_of_ble_eq_true rfl⟩).run) (fun x1 hx1 => ?_)
  subst hx1
  refine lv_if_ne (tgt := 12) hx hb d_Mo_word_5 (by decide) (fun _ => ?_) (fun h => absurd h (by decide +kernel))
  refine lv_aload_n hx hb d_Mo_word_12 rfl (lv_at hl 0 rfl) ?_
  refine lv_iload_n hx hb d_Mo_word_13 rfl (lv_at hl 1 rfl) ?_
  obtain ⟨_, he2⟩ := zr_M0 hSh
  refine va_calli (va_runV (As := [.int (nI j)]) (rest := [.ref (aw_m ad 0)]) ⟨hx, hb, hml, hown, hG⟩ (k_Mo_isKeyed0V l D g ad N0 zG zO zX zY zA zB zM zI zL zK zN zF zQ j hj hs) (aw_wV 1 hG gw_10_48 gw_10_46 gw_0_10 gw_10_47 gw_p_10 rfl rfl hd_Mo_isKeyed ⟨Nat.le_of_ble_eq_true rfl, Nat.le_of_ble_eq_true rfl⟩) (ag_qV (va_recv hK hP rfl he2) hP hD hSh hU hS) rfl rfl hl.1 rfl (lv_room (Nat.le_of_ble_eq_true rfl)) d_Mo_word_14 ⟨Nat.le_of_ble_eq_true rfl, Nat.le_of_ble_eq_true rfl⟩) hS (fun _ _ h => h) (fun _ h => h) ?_
  clear hP hD hSh hS he2
  intro x3 u8 t8 H locs ht _ ex3 hB _ _ hS
  obtain ⟨L, hP, hD, hSh⟩ := hB
  rw [ht] at hP
  clear ht
  subst ex3
  refine lv_if_ne (tgt := 24) hx hb d_Mo_word_17 (by decide) (fun h => absurd (by decide +kernel) h) (fun _ => ?_)
  refine lv_iconst (v := nI 2) hx hb d_Mo_word_20 (by decide +kernel) ?_
  refine lv_goto (tgt := 25) hx hb d_Mo_word_21 (by decide) ?_
  obtain ⟨_, he4⟩ := zr_M0 hSh
  refine va_calli (va_runV (As := [.int (nI 2)]) (rest := []) ⟨hx, hb, hml, hown, hG⟩ (k_Mo_refused1V l D g ad N0 zG zO zX zY zA zB zM zI zL zK zN zF zQ 2 (by omega)) (aw_wV 1 hG gw_10_37 gw_10_35 gw_0_10 gw_10_36 gw_p_9 rfl rfl hd_Mo_refused ⟨Nat.le_of_ble_eq_true rfl, Nat.le_of_ble_eq_true rfl⟩) (ag_qV (va_recv hK hP rfl he4) hP hD hSh hU hS) rfl rfl hl.1 rfl (lv_room (Nat.le_of_ble_eq_true rfl)) d_Mo_word_25 ⟨Nat.le_of_ble_eq_true rfl, Nat.le_of_ble_eq_true rfl⟩) hS (fun _ _ h => h) (fun _ h => h) ?_
  clear hP hD hSh hS he4
  intro x5 u8 t8 H locs ht _ ex5 hB _ _ hS
  obtain ⟨L, hP, hD, hSh⟩ := hB
  rw [ht] at hP
  clear ht
  subst ex5
  refine lv_if_eq (tgt := 33) hx hb d_Mo_word_28 (by decide) (fun h => absurd h (by decide +kernel)) (fun _ => ?_)
  refine lv_iconst (v := nI 0) hx hb d_Mo_word_31 (by decide +kernel) ?_
  exact W.iret hx hb hr (fun t ht hW => ⟨⟨_, (), rfl, (by rfl), ag_Hr ht hP hD hSh⟩, hS.F ht⟩) hS.2.2 d_Mo_word_32
noncomputable def v_Mo_put1V_zI (zI : Nat → Nat → Int32) (k : Nat) (b : Int32) : Nat → Nat → Int32 := az_v zI 1 k (b &&& (nI 255))
abbrev ws_Mo_put1V : List Cond := Cond.code y_Mo_put b_Mo_put 3 none :: aw_G
abbrev rm_Mo_put1V : Room := { frames := 1, cells := 0, slots := 0, locals := 21 }
set_option maxHeartbeats 4000000 in
set_option maxRecDepth 100000 in
theorem k_Mo_put1V (l : Launch) (D : va_G) (g : Nat → ClassId) (ad : Nat → Nat) (N0 : Nat) (zG : Nat → Nat × Nat) (zO : Nat → Nat) (zX : Nat → Nat → Int64) (zY : Nat → Nat → Int32) (zA : Nat → Nat → Nat → Int32) (zB : Nat → Int32) (zM : Nat → Nat × Nat) (zI : Nat → Nat → Int32) (zL : Nat → Nat → Int64) (zK : Int32) (zN : Nat) (zF : Int32) (zQ : Int64) (k : Nat) (b : Int32) (hk : k < 64) : Met l y_Mo_put ws_Mo_put1V rm_Mo_put1V (va_Pc ([.ref (aw_m ad 0), .int (nI k), .int b] : List Value) (ag_B D g N0 (az_Sh g ad zG zO zX zY zA zB zM zI zL zK zN zF zQ))) (va_Qv (fun (_ : Unit) => True) (fun (_ : Unit) t => ag_H D N0 (az_Sh g ad zG zO zX zY zA zB zM (v_Mo_put1V_zI zI k b) zL zK zN (nI 0) zQ) t.heap) (aw_Z N0)) 0 0 (aw_Z N0) := by
  refine Met.ofW (cc := b_Mo_put) (maxL := 3) (ret := none) (by decide) rfl ?_
  intro p e s m args below meth c s₁ B hml hv
  obtain ⟨rfl, ⟨L, hP, hD, hSh⟩, hU⟩ := hv
  have hx := B.exec
  have hb := B.bytes
  have hr := B.returns
  have hG : ∀ w ∈ aw_G, w.before _ s = true := fun w h => atoms_spec (ws := ws_Mo_put1V) B.pre w (List.mem_cons_of_mem _ h)
  have hown : s.vm.findClass "RuleCiphersModel" = some m.cls := findClass_of_methodNamed B.named
  have hlocks := B.notSynchronized
  have hE := hU.1
  have hK := hE.1
  have hN := hE.2.1
  have hS : va_S (aw_Z N0) s.heap s.heap [] := va_S.rf
  have hl := lv_entry ([.ref (aw_m ad 0), .int (nI k), .int b] : List Value) (n := 3) (Nat.le_of_ble_eq_true rfl)
  rw [lg_entry_eq]
  generalize (lg_sl ([.ref (aw_m ad 0), .int (nI k), .int b] : List Value) ++ List.replicate (3 - (lg_sl ([.ref (aw_m ad 0), .int (nI k), .int b] : List Value)).length) Slot.unset).toArray = ls at hl ⊢
  have hl : lv_has ls 3 [(0, .ref (aw_m ad 0)), (1, .int (nI k)), (2, .int b)] := hl
  refine lv_aload_n hx hb d_Mo_put_0 rfl (lv_at hl 0 rfl) ?_
  refine lv_iload_n hx hb d_Mo_put_1 rfl (lv_at hl 1 rfl) ?_
  refine lv_if_lt (tgt := 11) hx hb d_Mo_put_2 (by decide) (fun h => absurd h (show ¬ nI k < nI 0 from fun h9 => absurd ((nI_ltI (by omega) (by omega)).mp h9) (by omega))) (fun _ => ?_)
  refine lv_iload_n hx hb d_Mo_put_5 rfl (lv_at hl 1 rfl) ?_
  refine lv_bipush (v := nI 63) hx hb d_Mo_put_6 (by decide +kernel) ?_
  refine lv_icmp_le (tgt := 15) hx hb d_Mo_put_8 (by decide) (fun _ => ?_) (fun h => absurd (show nI k ≤ nI 63 from (nI_leI (by omega) (by omega)).mpr (by omega)) h)
  refine lv_iconst (v := nI 0) hx hb d_Mo_put_15 (by decide +kernel) ?_
  obtain ⟨_, he1⟩ := zr_M0 hSh
  refine va_calli (va_runV (As := [.int (nI 0)]) (rest := []) ⟨hx, hb, hml, hown, hG⟩ (k_Mo_refused0V l D g ad N0 zG zO zX zY zA zB zM zI zL zK zN zF zQ) (aw_wV 1 hG gw_10_37 gw_10_35 gw_0_10 gw_10_36 gw_p_9 rfl rfl hd_Mo_refused ⟨Nat.le_of_ble_eq_true rfl, Nat.le_of_ble_eq_true rfl⟩) (ag_qV (va_recv hK hP rfl he1) hP hD hSh hU hS) rfl rfl hl.1 rfl (lv_room (Nat.le_of_ble_eq_true rfl)) d_Mo_put_16 ⟨Nat.le_of_ble_eq_true rfl, Nat.le_of_ble_eq_true rfl⟩) hS (fun _ _ h => h) (fun _ h => h) ?_
  clear hP hD hSh hS he1
  intro x2 u8 t8 H locs ht _ ex2 hB _ _ hS
  obtain ⟨L, hP, hD, hSh⟩ := hB
  rw [ht] at hP
  clear ht
  subst ex2
  refine lv_if_ne (tgt := 33) hx hb d_Mo_put_19 (by decide) (fun h => absurd (by decide +kernel) h) (fun _ => ?_)
  refine lv_aload_n hx hb d_Mo_put_22 rfl (lv_at hl 0 rfl) ?_
  obtain ⟨hsd4, he3⟩ := zr_M0 hSh
  refine va_get (C := R_Mo) (T := T_Mo) (N := 19) (v := .ref (aw_m ad 1)) hx hb hG in_Mo hown hK hP 67 he3 rfl 1 (by decide) (hG _ gw_9_26) (fun _ h => h) rfl d_Mo_put_23 ?_
  clear he3
  refine lv_iload_n hx hb d_Mo_put_26 rfl (lv_at hl 1 rfl) ?_
  refine lv_iload_n hx hb d_Mo_put_27 rfl (lv_at hl 2 rfl) ?_
  refine lv_sipush (v := nI 255) hx hb d_Mo_put_28 (by decide +kernel) ?_
  refine lv_iand hx hb d_Mo_put_31 ?_
  refine ag_topi (fun x5 ex5 => ?_)
  have he6 := zr_M1 hSh
  refine ag_ist hx hb hK hP hD hS 68 0 he6 rfl (k := k) (by omega) (by decide) d_Mo_put_32 (zw_I1w hSh k x5) ?_
  clear hP hD hSh hS he6
  intro H locs L hP hD hSh hS
  obtain ⟨zI7, ezI7⟩ : ∃ z : Nat → Nat → Int32, az_v zI 1 k x5 = z := ⟨_, rfl⟩
  rw [ezI7] at hSh
  have gzI : zI7 = v_Mo_put1V_zI zI k b := by subst ezI7 ex5; rfl
  have hSh : az_Sh g ad zG zO zX zY zA zB zM (v_Mo_put1V_zI zI k b) zL zK zN (nI 0) zQ L := by rw [← gzI]; exact hSh
  exact W.vret hx hb hr (fun t ht hW => ⟨⟨(), rfl, trivial, ag_Hr ht hP hD hSh⟩, hS.F ht⟩) hS.2.2 d_Mo_put_33
abbrev ws_Mo_putXV : List Cond := Cond.code y_Mo_put b_Mo_put 3 none :: aw_G
abbrev rm_Mo_putXV : Room := { frames := 1, cells := 0, slots := 0, locals := 21 }
set_option maxHeartbeats 4000000 in
set_option maxRecDepth 100000 in
theorem k_Mo_putXV (l : Launch) (D : va_G) (g : Nat → ClassId) (ad : Nat → Nat) (N0 : Nat) (zG : Nat → Nat × Nat) (zO : Nat → Nat) (zX : Nat → Nat → Int64) (zY : Nat → Nat → Int32) (zA : Nat → Nat → Nat → Int32) (zB : Nat → Int32) (zM : Nat → Nat × Nat) (zI : Nat → Nat → Int32) (zL : Nat → Nat → Int64) (zK : Int32) (zN : Nat) (zF : Int32) (zQ : Int64) (p0 : Int32) (b : Int32) (hc : p0 < 0 ∨ (¬ p0 < 0 ∧ nI 63 < p0)) : Met l y_Mo_put ws_Mo_putXV rm_Mo_putXV (va_Pc ([.ref (aw_m ad 0), .int p0, .int b] : List Value) (ag_B D g N0 (az_Sh g ad zG zO zX zY zA zB zM zI zL zK zN zF zQ))) (va_Qv (fun (_ : Unit) => True) (fun (_ : Unit) t => ag_H D N0 (az_Sh g ad zG zO zX zY zA zB zM zI zL zK zN (nI 1) zQ) t.heap) (aw_Z N0)) 0 0 (aw_Z N0) := by
  refine Met.ofW (cc := b_Mo_put) (maxL := 3) (ret := none) (by decide) rfl ?_
  intro p e s m args below meth c s₁ B hml hv
  obtain ⟨rfl, ⟨L, hP, hD, hSh⟩, hU⟩ := hv
  have hx := B.exec
  have hb := B.bytes
  have hr := B.returns
  have hG : ∀ w ∈ aw_G, w.before _ s = true := fun w h => atoms_spec (ws := ws_Mo_putXV) B.pre w (List.mem_cons_of_mem _ h)
  have hown : s.vm.findClass "RuleCiphersModel" = some m.cls := findClass_of_methodNamed B.named
  have hlocks := B.notSynchronized
  have hE := hU.1
  have hK := hE.1
  have hN := hE.2.1
  have hS : va_S (aw_Z N0) s.heap s.heap [] := va_S.rf
  have hl := lv_entry ([.ref (aw_m ad 0), .int p0, .int b] : List Value) (n := 3) (Nat.le_of_ble_eq_true rfl)
  rw [lg_entry_eq]
  generalize (lg_sl ([.ref (aw_m ad 0), .int p0, .int b] : List Value) ++ List.replicate (3 - (lg_sl ([.ref (aw_m ad 0), .int p0, .int b] : List Value)).length) Slot.unset).toArray = ls at hl ⊢
  have hl : lv_has ls 3 [(0, .ref (aw_m ad 0)), (1, .int p0), (2, .int b)] := hl
  rcases hc with hc | hc
  · refine lv_aload_n hx hb d_Mo_put_0 rfl (lv_at hl 0 rfl) ?_
    refine lv_iload_n hx hb d_Mo_put_1 rfl (lv_at hl 1 rfl) ?_
    refine lv_if_lt (tgt := 11) hx hb d_Mo_put_2 (by decide) (fun _ => ?_) (fun h => absurd hc h)
    refine lv_iconst (v := nI 1) hx hb d_Mo_put_11 (by decide +kernel) ?_
    refine lv_goto (tgt := 16) hx hb d_Mo_put_12 (by decide) ?_
    obtain ⟨_, he1⟩ := zr_M0 hSh
    refine va_calli (va_runV (As := [.int (nI 1)]) (rest := []) ⟨hx, hb, hml, hown, hG⟩ (k_Mo_refused1V l D g ad N0 zG zO zX zY zA zB zM zI zL zK zN zF zQ 1 (by omega)) (aw_wV 1 hG gw_10_37 gw_10_35 gw_0_10 gw_10_36 gw_p_9 rfl rfl hd_Mo_refused ⟨Nat.le_of_ble_eq_true rfl, Nat.le_of_ble_eq_true rfl⟩) (ag_qV (va_recv hK hP rfl he1) hP hD hSh hU hS) rfl rfl hl.1 rfl (lv_room (Nat.le_of_ble_eq_true rfl)) d_Mo_put_16 ⟨Nat.le_of_ble_eq_true rfl, Nat.le_of_ble_eq_true rfl⟩) hS (fun _ _ h => h) (fun _ h => h) ?_
    clear hP hD hSh hS he1
    intro x2 u8 t8 H locs ht _ ex2 hB _ _ hS
    obtain ⟨L, hP, hD, hSh⟩ := hB
    rw [ht] at hP
    clear ht
    subst ex2
    refine lv_if_ne (tgt := 33) hx hb d_Mo_put_19 (by decide) (fun _ => ?_) (fun h => absurd h (by decide +kernel))
    exact W.vret hx hb hr (fun t ht hW => ⟨⟨(), rfl, trivial, ag_Hr ht hP hD hSh⟩, hS.F ht⟩) hS.2.2 d_Mo_put_33
  · refine lv_aload_n hx hb d_Mo_put_0 rfl (lv_at hl 0 rfl) ?_
    refine lv_iload_n hx hb d_Mo_put_1 rfl (lv_at hl 1 rfl) ?_
    refine lv_if_lt (tgt := 11) hx hb d_Mo_put_2 (by decide) (fun h => absurd h hc.1) (fun _ => ?_)
    refine lv_iload_n hx hb d_Mo_put_5 rfl (lv_at hl 1 rfl) ?_
    refine lv_bipush (v := nI 63) hx hb d_Mo_put_6 (by decide +kernel) ?_
    refine lv_icmp_le (tgt := 15) hx hb d_Mo_put_8 (by decide) (fun h => absurd h (fun h9 => absurd hc.2 (Int32.not_lt.mpr h9))) (fun _ => ?_)
    refine lv_iconst (v := nI 1) hx hb d_Mo_put_11 (by decide +kernel) ?_
    refine lv_goto (tgt := 16) hx hb d_Mo_put_12 (by decide) ?_
    obtain ⟨_, he3⟩ := zr_M0 hSh
    refine va_calli (va_runV (As := [.int (nI 1)]) (rest := []) ⟨hx, hb, hml, hown, hG⟩ (k_Mo_refused1V l D g ad N0 zG zO zX zY zA zB zM zI zL zK zN zF zQ 1 (by omega)) (aw_wV 1 hG gw_10_37 gw_10_35 gw_0_10 gw_10_36 gw_p_9 rfl rfl hd_Mo_refused ⟨Nat.le_of_ble_eq_true rfl, Nat.le_of_ble_eq_true rfl⟩) (ag_qV (va_recv hK hP rfl he3) hP hD hSh hU hS) rfl rfl hl.1 rfl (lv_room (Nat.le_of_ble_eq_true rfl)) d_Mo_put_16 ⟨Nat.le_of_ble_eq_true rfl, Nat.le_of_ble_eq_true rfl⟩) hS (fun _ _ h => h) (fun _ h => h) ?_
    clear hP hD hSh hS he3
    intro x4 u8 t8 H locs ht _ ex4 hB _ _ hS
    obtain ⟨L, hP, hD, hSh⟩ := hB
    rw [ht] at hP
    clear ht
    subst ex4
    refine lv_if_ne (tgt := 33) hx hb d_Mo_put_19 (by decide) (fun _ => ?_) (fun h => absurd h (by decide +kernel))
    exact W.vret hx hb hr (fun t ht hW => ⟨⟨(), rfl, trivial, ag_Hr ht hP hD hSh⟩, hS.F ht⟩) hS.2.2 d_Mo_put_33
noncomputable def v_Mo_get1V (zI : Nat → Nat → Int32) (k : Nat) : Int32 := zI 1 k
abbrev ws_Mo_get1V : List Cond := Cond.code y_Mo_get b_Mo_get 2 (some .int) :: aw_G
abbrev rm_Mo_get1V : Room := { frames := 1, cells := 0, slots := 0, locals := 21 }
set_option maxHeartbeats 4000000 in
set_option maxRecDepth 100000 in
theorem k_Mo_get1V (l : Launch) (D : va_G) (g : Nat → ClassId) (ad : Nat → Nat) (N0 : Nat) (zG : Nat → Nat × Nat) (zO : Nat → Nat) (zX : Nat → Nat → Int64) (zY : Nat → Nat → Int32) (zA : Nat → Nat → Nat → Int32) (zB : Nat → Int32) (zM : Nat → Nat × Nat) (zI : Nat → Nat → Int32) (zL : Nat → Nat → Int64) (zK : Int32) (zN : Nat) (zF : Int32) (zQ : Int64) (k : Nat) (hk : k < 64) : Met l y_Mo_get ws_Mo_get1V rm_Mo_get1V (va_Pc ([.ref (aw_m ad 0), .int (nI k)] : List Value) (ag_B D g N0 (az_Sh g ad zG zO zX zY zA zB zM zI zL zK zN zF zQ))) (va_Qi (fun r (_ : Unit) => r = v_Mo_get1V zI k) (fun (_ : Unit) t => ag_H D N0 (az_Sh g ad zG zO zX zY zA zB zM zI zL zK zN (nI 0) zQ) t.heap) (aw_Z N0)) 0 0 (aw_Z N0) := by
  refine Met.ofW (cc := b_Mo_get) (maxL := 2) (ret := (some .int)) (by decide) rfl ?_
  intro p e s m args below meth c s₁ B hml hv
  obtain ⟨rfl, ⟨L, hP, hD, hSh⟩, hU⟩ := hv
  have hx := B.exec
  have hb := B.bytes
  have hr := B.returns
  have hG : ∀ w ∈ aw_G, w.before _ s = true := fun w h => atoms_spec (ws := ws_Mo_get1V) B.pre w (List.mem_cons_of_mem _ h)
  have hown : s.vm.findClass "RuleCiphersModel" = some m.cls := findClass_of_methodNamed B.named
  have hlocks := B.notSynchronized
  have hE := hU.1
  have hK := hE.1
  have hN := hE.2.1
  have hS : va_S (aw_Z N0) s.heap s.heap [] := va_S.rf
  have hl := lv_entry ([.ref (aw_m ad 0), .int (nI k)] : List Value) (n := 2) (Nat.le_of_ble_eq_true rfl)
  rw [lg_entry_eq]
  generalize (lg_sl ([.ref (aw_m ad 0), .int (nI k)] : List Value) ++ List.replicate (2 - (lg_sl ([.ref (aw_m ad 0), .int (nI k)] : List Value)).length) Slot.unset).toArray = ls at hl ⊢
  have hl : lv_has ls 2 [(0, .ref (aw_m ad 0)), (1, .int (nI k))] := hl
  refine lv_aload_n hx hb d_Mo_get_0 rfl (lv_at hl 0 rfl) ?_
  refine lv_iload_n hx hb d_Mo_get_1 rfl (lv_at hl 1 rfl) ?_
  refine lv_if_lt (tgt := 11) hx hb d_Mo_get_2 (by decide) (fun h => absurd h (show ¬ nI k < nI 0 from fun h9 => absurd ((nI_ltI (by omega) (by omega)).mp h9) (by omega))) (fun _ => ?_)
  refine lv_iload_n hx hb d_Mo_get_5 rfl (lv_at hl 1 rfl) ?_
  refine lv_bipush (v := nI 63) hx hb d_Mo_get_6 (by decide +kernel) ?_
  refine lv_icmp_le (tgt := 15) hx hb d_Mo_get_8 (by decide) (fun _ => ?_) (fun h => absurd (show nI k ≤ nI 63 from (nI_leI (by omega) (by omega)).mpr (by omega)) h)
  refine lv_iconst (v := nI 0) hx hb d_Mo_get_15 (by decide +kernel) ?_
  obtain ⟨_, he1⟩ := zr_M0 hSh
  refine va_calli (va_runV (As := [.int (nI 0)]) (rest := []) ⟨hx, hb, hml, hown, hG⟩ (k_Mo_refused0V l D g ad N0 zG zO zX zY zA zB zM zI zL zK zN zF zQ) (aw_wV 1 hG gw_10_37 gw_10_35 gw_0_10 gw_10_36 gw_p_9 rfl rfl hd_Mo_refused ⟨Nat.le_of_ble_eq_true rfl, Nat.le_of_ble_eq_true rfl⟩) (ag_qV (va_recv hK hP rfl he1) hP hD hSh hU hS) rfl rfl hl.1 rfl (lv_room (Nat.le_of_ble_eq_true rfl)) d_Mo_get_16 ⟨Nat.le_of_ble_eq_true rfl, Nat.le_of_ble_eq_true rfl⟩) hS (fun _ _ h => h) (fun _ h => h) ?_
  clear hP hD hSh hS he1
  intro x2 u8 t8 H locs ht _ ex2 hB _ _ hS
  obtain ⟨L, hP, hD, hSh⟩ := hB
  rw [ht] at hP
  clear ht
  subst ex2
  refine lv_if_eq (tgt := 26) hx hb d_Mo_get_19 (by decide) (fun _ => ?_) (fun h => absurd (by decide +kernel) h)
  refine lv_aload_n hx hb d_Mo_get_26 rfl (lv_at hl 0 rfl) ?_
  obtain ⟨hsd4, he3⟩ := zr_M0 hSh
  refine va_get (C := R_Mo) (T := T_Mo) (N := 19) (v := .ref (aw_m ad 1)) hx hb hG in_Mo hown hK hP 67 he3 rfl 1 (by decide) (hG _ gw_9_26) (fun _ h => h) rfl d_Mo_get_27 ?_
  clear he3
  refine lv_iload_n hx hb d_Mo_get_30 rfl (lv_at hl 1 rfl) ?_
  have he5 := zr_M1 hSh
  refine aw_ild hx hb hK hP 68 0 he5 rfl (k := k) (by omega) (by decide) d_Mo_get_31 ?_
  clear he5
  refine ag_topi (fun x6 ex6 => ?_)
  exact W.iret hx hb hr (fun t ht hW => ⟨⟨_, (), rfl, (by subst ex6; rfl), ag_Hr ht hP hD hSh⟩, hS.F ht⟩) hS.2.2 d_Mo_get_32
noncomputable def v_Mo_getXV  : Int32 := nI 0
abbrev ws_Mo_getXV : List Cond := Cond.code y_Mo_get b_Mo_get 2 (some .int) :: aw_G
abbrev rm_Mo_getXV : Room := { frames := 1, cells := 0, slots := 0, locals := 21 }
set_option maxHeartbeats 4000000 in
set_option maxRecDepth 100000 in
theorem k_Mo_getXV (l : Launch) (D : va_G) (g : Nat → ClassId) (ad : Nat → Nat) (N0 : Nat) (zG : Nat → Nat × Nat) (zO : Nat → Nat) (zX : Nat → Nat → Int64) (zY : Nat → Nat → Int32) (zA : Nat → Nat → Nat → Int32) (zB : Nat → Int32) (zM : Nat → Nat × Nat) (zI : Nat → Nat → Int32) (zL : Nat → Nat → Int64) (zK : Int32) (zN : Nat) (zF : Int32) (zQ : Int64) (p0 : Int32) (hc : p0 < 0 ∨ (¬ p0 < 0 ∧ nI 63 < p0)) : Met l y_Mo_get ws_Mo_getXV rm_Mo_getXV (va_Pc ([.ref (aw_m ad 0), .int p0] : List Value) (ag_B D g N0 (az_Sh g ad zG zO zX zY zA zB zM zI zL zK zN zF zQ))) (va_Qi (fun r (_ : Unit) => r = v_Mo_getXV ) (fun (_ : Unit) t => ag_H D N0 (az_Sh g ad zG zO zX zY zA zB zM zI zL zK zN (nI 1) zQ) t.heap) (aw_Z N0)) 0 0 (aw_Z N0) := by
  refine Met.ofW (cc := b_Mo_get) (maxL := 2) (ret := (some .int)) (by decide) rfl ?_
  intro p e s m args below meth c s₁ B hml hv
  obtain ⟨rfl, ⟨L, hP, hD, hSh⟩, hU⟩ := hv
  have hx := B.exec
  have hb := B.bytes
  have hr := B.returns
  have hG : ∀ w ∈ aw_G, w.before _ s = true := fun w h => atoms_spec (ws := ws_Mo_getXV) B.pre w (List.mem_cons_of_mem _ h)
  have hown : s.vm.findClass "RuleCiphersModel" = some m.cls := findClass_of_methodNamed B.named
  have hlocks := B.notSynchronized
  have hE := hU.1
  have hK := hE.1
  have hN := hE.2.1
  have hS : va_S (aw_Z N0) s.heap s.heap [] := va_S.rf
  have hl := lv_entry ([.ref (aw_m ad 0), .int p0] : List Value) (n := 2) (Nat.le_of_ble_eq_true rfl)
  rw [lg_entry_eq]
  generalize (lg_sl ([.ref (aw_m ad 0), .int p0] : List Value) ++ List.replicate (2 - (lg_sl ([.ref (aw_m ad 0), .int p0] : List Value)).length) Slot.unset).toArray = ls at hl ⊢
  have hl : lv_has ls 2 [(0, .ref (aw_m ad 0)), (1, .int p0)] := hl
  rcases hc with hc | hc
  · refine lv_aload_n hx hb d_Mo_get_0 rfl (lv_at hl 0 rfl) ?_
    refine lv_iload_n hx hb d_Mo_get_1 rfl (lv_at hl 1 rfl) ?_
    refine lv_if_lt (tgt := 11) hx hb d_Mo_get_2 (by decide) (fun _ => ?_) (fun h => absurd hc h)
    refine lv_iconst (v := nI 1) hx hb d_Mo_get_11 (by decide +kernel) ?_
    refine lv_goto (tgt := 16) hx hb d_Mo_get_12 (by decide) ?_
    obtain ⟨_, he1⟩ := zr_M0 hSh
    refine va_calli (va_runV (As := [.int (nI 1)]) (rest := []) ⟨hx, hb, hml, hown, hG⟩ (k_Mo_refused1V l D g ad N0 zG zO zX zY zA zB zM zI zL zK zN zF zQ 1 (by omega)) (aw_wV 1 hG gw_10_37 gw_10_35 gw_0_10 gw_10_36 gw_p_9 rfl rfl hd_Mo_refused ⟨Nat.le_of_ble_eq_true rfl, Nat.le_of_ble_eq_true rfl⟩) (ag_qV (va_recv hK hP rfl he1) hP hD hSh hU hS) rfl rfl hl.1 rfl (lv_room (Nat.le_of_ble_eq_true rfl)) d_Mo_get_16 ⟨Nat.le_of_ble_eq_true rfl, Nat.le_of_ble_eq_true rfl⟩) hS (fun _ _ h => h) (fun _ h => h) ?_
    clear hP hD hSh hS he1
    intro x2 u8 t8 H locs ht _ ex2 hB _ _ hS
    obtain ⟨L, hP, hD, hSh⟩ := hB
    rw [ht] at hP
    clear ht
    subst ex2
    refine lv_if_eq (tgt := 26) hx hb d_Mo_get_19 (by decide) (fun h => absurd h (by decide +kernel)) (fun _ => ?_)
    refine lv_iconst (v := nI 0) hx hb d_Mo_get_22 (by decide +kernel) ?_
    refine lv_goto (tgt := 32) hx hb d_Mo_get_23 (by decide) ?_
    exact W.iret hx hb hr (fun t ht hW => ⟨⟨_, (), rfl, (by rfl), ag_Hr ht hP hD hSh⟩, hS.F ht⟩) hS.2.2 d_Mo_get_32
  · refine lv_aload_n hx hb d_Mo_get_0 rfl (lv_at hl 0 rfl) ?_
    refine lv_iload_n hx hb d_Mo_get_1 rfl (lv_at hl 1 rfl) ?_
    refine lv_if_lt (tgt := 11) hx hb d_Mo_get_2 (by decide) (fun h => absurd h hc.1) (fun _ => ?_)
    refine lv_iload_n hx hb d_Mo_get_5 rfl (lv_at hl 1 rfl) ?_
    refine lv_bipush (v := nI 63) hx hb d_Mo_get_6 (by decide +kernel) ?_
    refine lv_icmp_le (tgt := 15) hx hb d_Mo_get_8 (by decide) (fun h => absurd h (fun h9 => absurd hc.2 (Int32.not_lt.mpr h9))) (fun _ => ?_)
    refine lv_iconst (v := nI 1) hx hb d_Mo_get_11 (by decide +kernel) ?_
    refine lv_goto (tgt := 16) hx hb d_Mo_get_12 (by decide) ?_
    obtain ⟨_, he3⟩ := zr_M0 hSh
    refine va_calli (va_runV (As := [.int (nI 1)]) (rest := []) ⟨hx, hb, hml, hown, hG⟩ (k_Mo_refused1V l D g ad N0 zG zO zX zY zA zB zM zI zL zK zN zF zQ 1 (by omega)) (aw_wV 1 hG gw_10_37 gw_10_35 gw_0_10 gw_10_36 gw_p_9 rfl rfl hd_Mo_refused ⟨Nat.le_of_ble_eq_true rfl, Nat.le_of_ble_eq_true rfl⟩) (ag_qV (va_recv hK hP rfl he3) hP hD hSh hU hS) rfl rfl hl.1 rfl (lv_room (Nat.le_of_ble_eq_true rfl)) d_Mo_get_16 ⟨Nat.le_of_ble_eq_true rfl, Nat.le_of_ble_eq_true rfl⟩) hS (fun _ _ h => h) (fun _ h => h) ?_
    clear hP hD hSh hS he3
    intro x4 u8 t8 H locs ht _ ex4 hB _ _ hS
    obtain ⟨L, hP, hD, hSh⟩ := hB
    rw [ht] at hP
    clear ht
    subst ex4
    refine lv_if_eq (tgt := 26) hx hb d_Mo_get_19 (by decide) (fun h => absurd h (by decide +kernel)) (fun _ => ?_)
    refine lv_iconst (v := nI 0) hx hb d_Mo_get_22 (by decide +kernel) ?_
    refine lv_goto (tgt := 32) hx hb d_Mo_get_23 (by decide) ?_
    exact W.iret hx hb hr (fun t ht hW => ⟨⟨_, (), rfl, (by rfl), ag_Hr ht hP hD hSh⟩, hS.F ht⟩) hS.2.2 d_Mo_get_32
noncomputable def v_Mo_seek1V_zI (zI : Nat → Nat → Int32) (zL : Nat → Nat → Int64) (j : Nat) (b : Int64) : Nat → Nat → Int32 := az_v zI 9 j (nI 0)
noncomputable def v_Mo_seek1V_zL (zI : Nat → Nat → Int32) (zL : Nat → Nat → Int64) (j : Nat) (b : Int64) : Nat → Nat → Int64 := az_vl zL 8 j ((zL 7 j) + b)
abbrev ws_Mo_seek1V : List Cond := Cond.code y_Mo_seek b_Mo_seek 4 none :: aw_G
abbrev rm_Mo_seek1V : Room := { frames := 1, cells := 0, slots := 0, locals := 21 }
set_option maxHeartbeats 4000000 in
set_option maxRecDepth 100000 in
theorem k_Mo_seek1V (l : Launch) (D : va_G) (g : Nat → ClassId) (ad : Nat → Nat) (N0 : Nat) (zG : Nat → Nat × Nat) (zO : Nat → Nat) (zX : Nat → Nat → Int64) (zY : Nat → Nat → Int32) (zA : Nat → Nat → Nat → Int32) (zB : Nat → Int32) (zM : Nat → Nat × Nat) (zI : Nat → Nat → Int32) (zL : Nat → Nat → Int64) (zK : Int32) (zN : Nat) (zF : Int32) (zQ : Int64) (j : Nat) (b : Int64) (hj : j < 4) (hs : (zM j).1 = 3 ∧ (zM j).2 = 4) : Met l y_Mo_seek ws_Mo_seek1V rm_Mo_seek1V (va_Pc ([.ref (aw_m ad 0), .int (nI j), .long b] : List Value) (ag_B D g N0 (az_Sh g ad zG zO zX zY zA zB zM zI zL zK zN zF zQ))) (va_Qv (fun (_ : Unit) => True) (fun (_ : Unit) t => ag_H D N0 (az_Sh g ad zG zO zX zY zA zB zM (v_Mo_seek1V_zI zI zL j b) (v_Mo_seek1V_zL zI zL j b) zK zN (nI 0) zQ) t.heap) (aw_Z N0)) 0 0 (aw_Z N0) := by
  refine Met.ofW (cc := b_Mo_seek) (maxL := 4) (ret := none) (by decide) rfl ?_
  intro p e s m args below meth c s₁ B hml hv
  obtain ⟨rfl, ⟨L, hP, hD, hSh⟩, hU⟩ := hv
  have hx := B.exec
  have hb := B.bytes
  have hr := B.returns
  have hG : ∀ w ∈ aw_G, w.before _ s = true := fun w h => atoms_spec (ws := ws_Mo_seek1V) B.pre w (List.mem_cons_of_mem _ h)
  have hown : s.vm.findClass "RuleCiphersModel" = some m.cls := findClass_of_methodNamed B.named
  have hlocks := B.notSynchronized
  have hE := hU.1
  have hK := hE.1
  have hN := hE.2.1
  have hS : va_S (aw_Z N0) s.heap s.heap [] := va_S.rf
  have hl := lv_entry ([.ref (aw_m ad 0), .int (nI j), .long b] : List Value) (n := 4) (Nat.le_of_ble_eq_true rfl)
  rw [lg_entry_eq]
  generalize (lg_sl ([.ref (aw_m ad 0), .int (nI j), .long b] : List Value) ++ List.replicate (4 - (lg_sl ([.ref (aw_m ad 0), .int (nI j), .long b] : List Value)).length) Slot.unset).toArray = ls at hl ⊢
  have hl : lv_has ls 4 [(0, .ref (aw_m ad 0)), (1, .int (nI j)), (2, .long b)] := hl
  refine lv_aload_n hx hb d_Mo_seek_0 rfl (lv_at hl 0 rfl) ?_
  refine lv_iload_n hx hb d_Mo_seek_1 rfl (lv_at hl 1 rfl) ?_
  refine aw_ci ((va_runS (As := [.int (nI j)]) (rest := [.ref (aw_m ad 0)]) ⟨hx, hb, hml, hown, hG⟩ (k_Mo_isContext1 l j hj) (aw_wS 1 hG gw_10_34 gw_10_32 gw_0_10 gw_10_33 rfl rfl hd_Mo_isContext ⟨Nat.le_of_ble_eq_true rfl, Nat.le_of_ble_eq_true rfl⟩) aw_p0 rfl rfl hl.1 rfl (lv_room (Nat.le_of_ble_eq_true rfl)) d_Mo_seek_2 ⟨Nat.le_of_ble_eq_true rfl, Nat.le_of_ble_eq_true rfl⟩).run) (fun x1 hx1 => ?_)
  subst hx1
  refine lv_if_ne (tgt := 12) hx hb d_Mo_seek_5 (by decide) (fun _ => ?_) (fun h => absurd h (by decide +kernel))
  refine lv_aload_n hx hb d_Mo_seek_12 rfl (lv_at hl 0 rfl) ?_
  obtain ⟨hsd3, he2⟩ := zr_M0 hSh
  refine va_get (C := R_Mo) (T := T_Mo) (N := 19) (v := .ref (aw_m ad 2)) hx hb hG in_Mo hown hK hP 67 he2 rfl 2 (by decide) (hG _ gw_9_27) (fun _ h => h) rfl d_Mo_seek_13 ?_
  clear he2
  refine lv_iload_n hx hb d_Mo_seek_16 rfl (lv_at hl 1 rfl) ?_
  obtain ⟨hsd5, he4⟩ := zr_M2 hSh
  refine aw_ild hx hb hK hP 69 0 he4 rfl (k := j) (by omega) (by decide) d_Mo_seek_17 ?_
  clear he4
  refine aw_ti (y := nI (zM j).1) (hsd5 _ (by omega)) ?_
  have hm := hSh.2.2.2.2.2 j (by omega)
  refine lv_iconst (v := nI 3) hx hb d_Mo_seek_18 (by decide +kernel) ?_
  refine lv_icmp_ne (tgt := 32) hx hb d_Mo_seek_19 (by decide) (fun h => absurd (show nI ((zM j).1) = nI 3 from (nI_eq (by omega) (by omega)).mpr (by omega)) h) (fun _ => ?_)
  refine lv_aload_n hx hb d_Mo_seek_22 rfl (lv_at hl 0 rfl) ?_
  obtain ⟨hsd7, he6⟩ := zr_M0 hSh
  refine va_get (C := R_Mo) (T := T_Mo) (N := 19) (v := .ref (aw_m ad 6)) hx hb hG in_Mo hown hK hP 67 he6 rfl 6 (by decide) (hG _ gw_9_31) (fun _ h => h) rfl d_Mo_seek_23 ?_
  clear he6
  refine lv_iload_n hx hb d_Mo_seek_26 rfl (lv_at hl 1 rfl) ?_
  obtain ⟨hsd9, he8⟩ := zr_M6 hSh
  refine aw_ild hx hb hK hP 73 0 he8 rfl (k := j) (by omega) (by decide) d_Mo_seek_27 ?_
  clear he8
  refine aw_ti (y := nI (zM j).2) (hsd9 _ (by omega)) ?_
  have hm := hSh.2.2.2.2.2 j (by omega)
  refine lv_iconst (v := nI 4) hx hb d_Mo_seek_28 (by decide +kernel) ?_
  refine lv_icmp_eq (tgt := 36) hx hb d_Mo_seek_29 (by decide) (fun _ => ?_) (fun h => absurd (show nI ((zM j).2) = nI 4 from (nI_eq (by omega) (by omega)).mpr (by omega)) h)
  refine lv_iconst (v := nI 0) hx hb d_Mo_seek_36 (by decide +kernel) ?_
  obtain ⟨_, he10⟩ := zr_M0 hSh
  refine va_calli (va_runV (As := [.int (nI 0)]) (rest := []) ⟨hx, hb, hml, hown, hG⟩ (k_Mo_refused0V l D g ad N0 zG zO zX zY zA zB zM zI zL zK zN zF zQ) (aw_wV 1 hG gw_10_37 gw_10_35 gw_0_10 gw_10_36 gw_p_9 rfl rfl hd_Mo_refused ⟨Nat.le_of_ble_eq_true rfl, Nat.le_of_ble_eq_true rfl⟩) (ag_qV (va_recv hK hP rfl he10) hP hD hSh hU hS) rfl rfl hl.1 rfl (lv_room (Nat.le_of_ble_eq_true rfl)) d_Mo_seek_37 ⟨Nat.le_of_ble_eq_true rfl, Nat.le_of_ble_eq_true rfl⟩) hS (fun _ _ h => h) (fun _ h => h) ?_
  clear hP hD hSh hS he10
  intro x11 u8 t8 H locs ht _ ex11 hB _ _ hS
  obtain ⟨L, hP, hD, hSh⟩ := hB
  rw [ht] at hP
  clear ht
  subst ex11
  refine lv_if_ne (tgt := 64) hx hb d_Mo_seek_40 (by decide) (fun h => absurd (by decide +kernel) h) (fun _ => ?_)
  refine lv_aload_n hx hb d_Mo_seek_43 rfl (lv_at hl 0 rfl) ?_
  obtain ⟨hsd13, he12⟩ := zr_M0 hSh
  refine va_get (C := R_Mo) (T := T_Mo) (N := 19) (v := .ref (aw_m ad 8)) hx hb hG in_Mo hown hK hP 67 he12 rfl 8 (by decide) (hG _ gw_9_33) (fun _ h => h) rfl d_Mo_seek_44 ?_
  clear he12
  refine lv_iload_n hx hb d_Mo_seek_47 rfl (lv_at hl 1 rfl) ?_
  refine lv_aload_n hx hb d_Mo_seek_48 rfl (lv_at hl 0 rfl) ?_
  obtain ⟨hsd15, he14⟩ := zr_M0 hSh
  refine va_get (C := R_Mo) (T := T_Mo) (N := 19) (v := .ref (aw_m ad 7)) hx hb hG in_Mo hown hK hP 67 he14 rfl 7 (by decide) (hG _ gw_9_32) (fun _ h => h) rfl d_Mo_seek_49 ?_
  clear he14
  refine lv_iload_n hx hb d_Mo_seek_52 rfl (lv_at hl 1 rfl) ?_
  have he16 := zr_M7 hSh
  refine aw_lld hx hb hK hP 74 1 he16 rfl (k := j) (by omega) (by decide) d_Mo_seek_53 ?_
  clear he16
  refine ag_topl (fun y17 ey17 => ?_)
  refine lv_lload_n hx hb d_Mo_seek_54 rfl (lv_at hl 2 rfl) ?_
  refine lv_ladd hx hb d_Mo_seek_55 ?_
  refine ag_topl (fun y18 ey18 => ?_)
  have he19 := zr_M8 hSh
  refine ag_lst hx hb hK hP hD hS 75 1 he19 rfl (k := j) (by omega) (by decide) d_Mo_seek_56 (zw_L8w hSh j y18) ?_
  clear hP hD hSh hS he19
  intro H locs L hP hD hSh hS
  obtain ⟨zL20, ezL20⟩ : ∃ z : Nat → Nat → Int64, az_vl zL 8 j y18 = z := ⟨_, rfl⟩
  rw [ezL20] at hSh
  refine lv_aload_n hx hb d_Mo_seek_57 rfl (lv_at hl 0 rfl) ?_
  obtain ⟨hsd22, he21⟩ := zr_M0 hSh
  refine va_get (C := R_Mo) (T := T_Mo) (N := 19) (v := .ref (aw_m ad 9)) hx hb hG in_Mo hown hK hP 67 he21 rfl 9 (by decide) (hG _ gw_9_34) (fun _ h => h) rfl d_Mo_seek_58 ?_
  clear he21
  refine lv_iload_n hx hb d_Mo_seek_61 rfl (lv_at hl 1 rfl) ?_
  refine lv_iconst (v := nI 0) hx hb d_Mo_seek_62 (by decide +kernel) ?_
  have he23 := zr_M9 hSh
  refine ag_ist hx hb hK hP hD hS 76 0 he23 rfl (k := j) (by omega) (by decide) d_Mo_seek_63 (zw_I9w hSh j (nI 0)) ?_
  clear hP hD hSh hS he23
  intro H locs L hP hD hSh hS
  obtain ⟨zI24, ezI24⟩ : ∃ z : Nat → Nat → Int32, az_v zI 9 j (nI 0) = z := ⟨_, rfl⟩
  rw [ezI24] at hSh
  have gzI : zI24 = v_Mo_seek1V_zI zI zL j b := by subst ezI24 ezL20 ey18 ey17; rfl
  have gzL : zL20 = v_Mo_seek1V_zL zI zL j b := by subst ezI24 ezL20 ey18 ey17; rfl
  have hSh : az_Sh g ad zG zO zX zY zA zB zM (v_Mo_seek1V_zI zI zL j b) (v_Mo_seek1V_zL zI zL j b) zK zN (nI 0) zQ L := by rw [← gzI, ← gzL]; exact hSh
  exact W.vret hx hb hr (fun t ht hW => ⟨⟨(), rfl, trivial, ag_Hr ht hP hD hSh⟩, hS.F ht⟩) hS.2.2 d_Mo_seek_64
abbrev ws_Mo_seekXcV : List Cond := Cond.code y_Mo_seek b_Mo_seek 4 none :: aw_G
abbrev rm_Mo_seekXcV : Room := { frames := 1, cells := 0, slots := 0, locals := 21 }
set_option maxHeartbeats 4000000 in
set_option maxRecDepth 100000 in
theorem k_Mo_seekXcV (l : Launch) (D : va_G) (g : Nat → ClassId) (ad : Nat → Nat) (N0 : Nat) (zG : Nat → Nat × Nat) (zO : Nat → Nat) (zX : Nat → Nat → Int64) (zY : Nat → Nat → Int32) (zA : Nat → Nat → Nat → Int32) (zB : Nat → Int32) (zM : Nat → Nat × Nat) (zI : Nat → Nat → Int32) (zL : Nat → Nat → Int64) (zK : Int32) (zN : Nat) (zF : Int32) (zQ : Int64) (c0 : Int32) (b : Int64) (hc : c0 < 0 ∨ (¬ c0 < 0 ∧ ¬ c0 < nI 4)) : Met l y_Mo_seek ws_Mo_seekXcV rm_Mo_seekXcV (va_Pc ([.ref (aw_m ad 0), .int c0, .long b] : List Value) (ag_B D g N0 (az_Sh g ad zG zO zX zY zA zB zM zI zL zK zN zF zQ))) (va_Qv (fun (_ : Unit) => True) (fun (_ : Unit) t => ag_H D N0 (az_Sh g ad zG zO zX zY zA zB zM zI zL zK zN (nI 1) zQ) t.heap) (aw_Z N0)) 0 0 (aw_Z N0) := by
  refine Met.ofW (cc := b_Mo_seek) (maxL := 4) (ret := none) (by decide) rfl ?_
  intro p e s m args below meth c s₁ B hml hv
  obtain ⟨rfl, ⟨L, hP, hD, hSh⟩, hU⟩ := hv
  have hx := B.exec
  have hb := B.bytes
  have hr := B.returns
  have hG : ∀ w ∈ aw_G, w.before _ s = true := fun w h => atoms_spec (ws := ws_Mo_seekXcV) B.pre w (List.mem_cons_of_mem _ h)
  have hown : s.vm.findClass "RuleCiphersModel" = some m.cls := findClass_of_methodNamed B.named
  have hlocks := B.notSynchronized
  have hE := hU.1
  have hK := hE.1
  have hN := hE.2.1
  have hS : va_S (aw_Z N0) s.heap s.heap [] := va_S.rf
  have hl := lv_entry ([.ref (aw_m ad 0), .int c0, .long b] : List Value) (n := 4) (Nat.le_of_ble_eq_true rfl)
  rw [lg_entry_eq]
  generalize (lg_sl ([.ref (aw_m ad 0), .int c0, .long b] : List Value) ++ List.replicate (4 - (lg_sl ([.ref (aw_m ad 0), .int c0, .long b] : List Value)).length) Slot.unset).toArray = ls at hl ⊢
  have hl : lv_has ls 4 [(0, .ref (aw_m ad 0)), (1, .int c0), (2, .long b)] := hl
  refine lv_aload_n hx hb d_Mo_seek_0 rfl (lv_at hl 0 rfl) ?_
  refine lv_iload_n hx hb d_Mo_seek_1 rfl (lv_at hl 1 rfl) ?_
  refine aw_ci ((va_runS (As := [.int c0]) (rest := [.ref (aw_m ad 0)]) ⟨hx, hb, hml, hown, hG⟩ (k_Mo_isContext0 l c0 hc) (aw_wS 1 hG gw_10_34 gw_10_32 gw_0_10 gw_10_33 rfl rfl hd_Mo_isContext ⟨Nat.le_of_ble_eq_true rfl, Nat.le_of_ble_eq_true rfl⟩) aw_p0 rfl rfl hl.1 rfl (lv_room (Nat.le_of_ble_eq_true rfl)) d_Mo_seek_2 ⟨Nat.le_of_ble_eq_true rfl, Nat.le_of_ble_eq_true rfl⟩).run) (fun x1 hx1 => ?_)
  subst hx1
  refine lv_if_ne (tgt := 12) hx hb d_Mo_seek_5 (by decide) (fun h => absurd (by decide +kernel) h) (fun _ => ?_)
  refine lv_iconst (v := nI 1) hx hb d_Mo_seek_8 (by decide +kernel) ?_
  refine lv_goto (tgt := 37) hx hb d_Mo_seek_9 (by decide) ?_
  obtain ⟨_, he2⟩ := zr_M0 hSh
  refine va_calli (va_runV (As := [.int (nI 1)]) (rest := []) ⟨hx, hb, hml, hown, hG⟩ (k_Mo_refused1V l D g ad N0 zG zO zX zY zA zB zM zI zL zK zN zF zQ 1 (by omega)) (aw_wV 1 hG gw_10_37 gw_10_35 gw_0_10 gw_10_36 gw_p_9 rfl rfl hd_Mo_refused ⟨Nat.le_of_ble_eq_true rfl, Nat.le_of_ble_eq_true rfl⟩) (ag_qV (va_recv hK hP rfl he2) hP hD hSh hU hS) rfl rfl hl.1 rfl (lv_room (Nat.le_of_ble_eq_true rfl)) d_Mo_seek_37 ⟨Nat.le_of_ble_eq_true rfl, Nat.le_of_ble_eq_true rfl⟩) hS (fun _ _ h => h) (fun _ h => h) ?_
  clear hP hD hSh hS he2
  intro x3 u8 t8 H locs ht _ ex3 hB _ _ hS
  obtain ⟨L, hP, hD, hSh⟩ := hB
  rw [ht] at hP
  clear ht
  subst ex3
  refine lv_if_ne (tgt := 64) hx hb d_Mo_seek_40 (by decide) (fun _ => ?_) (fun h => absurd h (by decide +kernel))
  exact W.vret hx hb hr (fun t ht hW => ⟨⟨(), rfl, trivial, ag_Hr ht hP hD hSh⟩, hS.F ht⟩) hS.2.2 d_Mo_seek_64
abbrev ws_Mo_seekXsV : List Cond := Cond.code y_Mo_seek b_Mo_seek 4 none :: aw_G
abbrev rm_Mo_seekXsV : Room := { frames := 1, cells := 0, slots := 0, locals := 21 }
set_option maxHeartbeats 4000000 in
set_option maxRecDepth 100000 in
theorem k_Mo_seekXsV (l : Launch) (D : va_G) (g : Nat → ClassId) (ad : Nat → Nat) (N0 : Nat) (zG : Nat → Nat × Nat) (zO : Nat → Nat) (zX : Nat → Nat → Int64) (zY : Nat → Nat → Int32) (zA : Nat → Nat → Nat → Int32) (zB : Nat → Int32) (zM : Nat → Nat × Nat) (zI : Nat → Nat → Int32) (zL : Nat → Nat → Int64) (zK : Int32) (zN : Nat) (zF : Int32) (zQ : Int64) (j : Nat) (b : Int64) (hj : j < 4) (hs : (zM j).1 ≤ 2 ∨ ((zM j).1 = 3 ∧ (zM j).2 ≠ 4)) : Met l y_Mo_seek ws_Mo_seekXsV rm_Mo_seekXsV (va_Pc ([.ref (aw_m ad 0), .int (nI j), .long b] : List Value) (ag_B D g N0 (az_Sh g ad zG zO zX zY zA zB zM zI zL zK zN zF zQ))) (va_Qv (fun (_ : Unit) => True) (fun (_ : Unit) t => ag_H D N0 (az_Sh g ad zG zO zX zY zA zB zM zI zL zK zN (nI 2) zQ) t.heap) (aw_Z N0)) 0 0 (aw_Z N0) := by
  refine Met.ofW (cc := b_Mo_seek) (maxL := 4) (ret := none) (by decide) rfl ?_
  intro p e s m args below meth c s₁ B hml hv
  obtain ⟨rfl, ⟨L, hP, hD, hSh⟩, hU⟩ := hv
  have hx := B.exec
  have hb := B.bytes
  have hr := B.returns
  have hG : ∀ w ∈ aw_G, w.before _ s = true := fun w h => atoms_spec (ws := ws_Mo_seekXsV) B.pre w (List.mem_cons_of_mem _ h)
  have hown : s.vm.findClass "RuleCiphersModel" = some m.cls := findClass_of_methodNamed B.named
  have hlocks := B.notSynchronized
  have hE := hU.1
  have hK := hE.1
  have hN := hE.2.1
  have hS : va_S (aw_Z N0) s.heap s.heap [] := va_S.rf
  have hl := lv_entry ([.ref (aw_m ad 0), .int (nI j), .long b] : List Value) (n := 4) (Nat.le_of_ble_eq_true rfl)
  rw [lg_entry_eq]
  generalize (lg_sl ([.ref (aw_m ad 0), .int (nI j), .long b] : List Value) ++ List.replicate (4 - (lg_sl ([.ref (aw_m ad 0), .int (nI j), .long b] : List Value)).length) Slot.unset).toArray = ls at hl ⊢
  have hl : lv_has ls 4 [(0, .ref (aw_m ad 0)), (1, .int (nI j)), (2, .long b)] := hl
  rcases hs with hs | hs
  · refine lv_aload_n hx hb d_Mo_seek_0 rfl (lv_at hl 0 rfl) ?_
    refine lv_iload_n hx hb d_Mo_seek_1 rfl (lv_at hl 1 rfl) ?_
    refine aw_ci ((va_runS (As := [.int (nI j)]) (rest := [.ref (aw_m ad 0)]) ⟨hx, hb, hml, hown, hG⟩ (k_Mo_isContext1 l j hj) (aw_wS 1 hG gw_10_34 gw_10_32 gw_0_10 gw_10_33 rfl rfl hd_Mo_isContext ⟨Nat.le_of_ble_eq_true rfl, Nat.le_of_ble_eq_true rfl⟩) aw_p0 rfl rfl hl.1 rfl (lv_room (Nat.le_of_ble_eq_true rfl)) d_Mo_seek_2 ⟨Nat.le_of_ble_eq_true rfl, Nat.le_of_ble_eq_true rfl⟩).run) (fun x1 hx1 => ?_)
    subst hx1
    refine lv_if_ne (tgt := 12) hx hb d_Mo_seek_5 (by decide) (fun _ => ?_) (fun h => absurd h (by decide +kernel))
    refine lv_aload_n hx hb d_Mo_seek_12 rfl (lv_at hl 0 rfl) ?_
    obtain ⟨hsd3, he2⟩ := zr_M0 hSh
    refine va_get (C := R_Mo) (T := T_Mo) (N := 19) (v := .ref (aw_m ad 2)) hx hb hG in_Mo hown hK hP 67 he2 rfl 2 (by decide) (hG _ gw_9_27) (fun _ h => h) rfl d_Mo_seek_13 ?_
    clear he2
    refine lv_iload_n hx hb d_Mo_seek_16 rfl (lv_at hl 1 rfl) ?_
    obtain ⟨hsd5, he4⟩ := zr_M2 hSh
    refine aw_ild hx hb hK hP 69 0 he4 rfl (k := j) (by omega) (by decide) d_Mo_seek_17 ?_
    clear he4
    refine aw_ti (y := nI (zM j).1) (hsd5 _ (by omega)) ?_
    have hm := hSh.2.2.2.2.2 j (by omega)
    refine lv_iconst (v := nI 3) hx hb d_Mo_seek_18 (by decide +kernel) ?_
    refine lv_icmp_ne (tgt := 32) hx hb d_Mo_seek_19 (by decide) (fun _ => ?_) (fun h => absurd h (show ¬ nI ((zM j).1) = nI 3 from fun h9 => absurd ((nI_eq (by omega) (by omega)).mp h9) (by omega)))
    refine lv_iconst (v := nI 2) hx hb d_Mo_seek_32 (by decide +kernel) ?_
    refine lv_goto (tgt := 37) hx hb d_Mo_seek_33 (by decide) ?_
    obtain ⟨_, he6⟩ := zr_M0 hSh
    refine va_calli (va_runV (As := [.int (nI 2)]) (rest := []) ⟨hx, hb, hml, hown, hG⟩ (k_Mo_refused1V l D g ad N0 zG zO zX zY zA zB zM zI zL zK zN zF zQ 2 (by omega)) (aw_wV 1 hG gw_10_37 gw_10_35 gw_0_10 gw_10_36 gw_p_9 rfl rfl hd_Mo_refused ⟨Nat.le_of_ble_eq_true rfl, Nat.le_of_ble_eq_true rfl⟩) (ag_qV (va_recv hK hP rfl he6) hP hD hSh hU hS) rfl rfl hl.1 rfl (lv_room (Nat.le_of_ble_eq_true rfl)) d_Mo_seek_37 ⟨Nat.le_of_ble_eq_true rfl, Nat.le_of_ble_eq_true rfl⟩) hS (fun _ _ h => h) (fun _ h => h) ?_
    clear hP hD hSh hS he6
    intro x7 u8 t8 H locs ht _ ex7 hB _ _ hS
    obtain ⟨L, hP, hD, hSh⟩ := hB
    rw [ht] at hP
    clear ht
    subst ex7
    refine lv_if_ne (tgt := 64) hx hb d_Mo_seek_40 (by decide) (fun _ => ?_) (fun h => absurd h (by decide +kernel))
    exact W.vret hx hb hr (fun t ht hW => ⟨⟨(), rfl, trivial, ag_Hr ht hP hD hSh⟩, hS.F ht⟩) hS.2.2 d_Mo_seek_64
  · refine lv_aload_n hx hb d_Mo_seek_0 rfl (lv_at hl 0 rfl) ?_
    refine lv_iload_n hx hb d_Mo_seek_1 rfl (lv_at hl 1 rfl) ?_
    refine aw_ci ((va_runS (As := [.int (nI j)]) (rest := [.ref (aw_m ad 0)]) ⟨hx, hb, hml, hown, hG⟩ (k_Mo_isContext1 l j hj) (aw_wS 1 hG gw_10_34 gw_10_32 gw_0_10 gw_10_33 rfl rfl hd_Mo_isContext ⟨Nat.le_of_ble_eq_true rfl, Nat.le_of_ble_eq_true rfl⟩) aw_p0 rfl rfl hl.1 rfl (lv_room (Nat.le_of_ble_eq_true rfl)) d_Mo_seek_2 ⟨Nat.le_of_ble_eq_true rfl, Nat.le_of_ble_eq_true rfl⟩).run) (fun x8 hx8 => ?_)
    subst hx8
    refine lv_if_ne (tgt := 12) hx hb d_Mo_seek_5 (by decide) (fun _ => ?_) (fun h => absurd h (by decide +kernel))
    refine lv_aload_n hx hb d_Mo_seek_12 rfl (lv_at hl 0 rfl) ?_
    obtain ⟨hsd10, he9⟩ := zr_M0 hSh
    refine va_get (C := R_Mo) (T := T_Mo) (N := 19) (v := .ref (aw_m ad 2)) hx hb hG in_Mo hown hK hP 67 he9 rfl 2 (by decide) (hG _ gw_9_27) (fun _ h => h) rfl d_Mo_seek_13 ?_
    clear he9
    refine lv_iload_n hx hb d_Mo_seek_16 rfl (lv_at hl 1 rfl) ?_
    obtain ⟨hsd12, he11⟩ := zr_M2 hSh
    refine aw_ild hx hb hK hP 69 0 he11 rfl (k := j) (by omega) (by decide) d_Mo_seek_17 ?_
    clear he11
    refine aw_ti (y := nI (zM j).1) (hsd12 _ (by omega)) ?_
    have hm := hSh.2.2.2.2.2 j (by omega)
    refine lv_iconst (v := nI 3) hx hb d_Mo_seek_18 (by decide +kernel) ?_
    refine lv_icmp_ne (tgt := 32) hx hb d_Mo_seek_19 (by decide) (fun h => absurd (show nI ((zM j).1) = nI 3 from (nI_eq (by omega) (by omega)).mpr (by omega)) h) (fun _ => ?_)
    refine lv_aload_n hx hb d_Mo_seek_22 rfl (lv_at hl 0 rfl) ?_
    obtain ⟨hsd14, he13⟩ := zr_M0 hSh
    refine va_get (C := R_Mo) (T := T_Mo) (N := 19) (v := .ref (aw_m ad 6)) hx hb hG in_Mo hown hK hP 67 he13 rfl 6 (by decide) (hG _ gw_9_31) (fun _ h => h) rfl d_Mo_seek_23 ?_
    clear he13
    refine lv_iload_n hx hb d_Mo_seek_26 rfl (lv_at hl 1 rfl) ?_
    obtain ⟨hsd16, he15⟩ := zr_M6 hSh
    refine aw_ild hx hb hK hP 73 0 he15 rfl (k := j) (by omega) (by decide) d_Mo_seek_27 ?_
    clear he15
    refine aw_ti (y := nI (zM j).2) (hsd16 _ (by omega)) ?_
    have hm := hSh.2.2.2.2.2 j (by omega)
    refine lv_iconst (v := nI 4) hx hb d_Mo_seek_28 (by decide +kernel) ?_
    refine lv_icmp_eq (tgt := 36) hx hb d_Mo_seek_29 (by decide) (fun h => absurd h (show ¬ nI ((zM j).2) = nI 4 from fun h9 => absurd ((nI_eq (by omega) (by omega)).mp h9) (by omega))) (fun _ => ?_)
    refine lv_iconst (v := nI 2) hx hb d_Mo_seek_32 (by decide +kernel) ?_
    refine lv_goto (tgt := 37) hx hb d_Mo_seek_33 (by decide) ?_
    obtain ⟨_, he17⟩ := zr_M0 hSh
    refine va_calli (va_runV (As := [.int (nI 2)]) (rest := []) ⟨hx, hb, hml, hown, hG⟩ (k_Mo_refused1V l D g ad N0 zG zO zX zY zA zB zM zI zL zK zN zF zQ 2 (by omega)) (aw_wV 1 hG gw_10_37 gw_10_35 gw_0_10 gw_10_36 gw_p_9 rfl rfl hd_Mo_refused ⟨Nat.le_of_ble_eq_true rfl, Nat.le_of_ble_eq_true rfl⟩) (ag_qV (va_recv hK hP rfl he17) hP hD hSh hU hS) rfl rfl hl.1 rfl (lv_room (Nat.le_of_ble_eq_true rfl)) d_Mo_seek_37 ⟨Nat.le_of_ble_eq_true rfl, Nat.le_of_ble_eq_true rfl⟩) hS (fun _ _ h => h) (fun _ h => h) ?_
    clear hP hD hSh hS he17
    intro x18 u8 t8 H locs ht _ ex18 hB _ _ hS
    obtain ⟨L, hP, hD, hSh⟩ := hB
    rw [ht] at hP
    clear ht
    subst ex18
    refine lv_if_ne (tgt := 64) hx hb d_Mo_seek_40 (by decide) (fun _ => ?_) (fun h => absurd h (by decide +kernel))
    exact W.vret hx hb hr (fun t ht hW => ⟨⟨(), rfl, trivial, ag_Hr ht hP hD hSh⟩, hS.F ht⟩) hS.2.2 d_Mo_seek_64
