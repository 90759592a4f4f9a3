noncomputable def v_Mo_feedXcV  : Int32 := nI 0
abbrev ws_Mo_feedXcV : List Cond := Cond.code y_Mo_feed b_Mo_feed 7 (some .int) :: aw_G
abbrev rm_Mo_feedXcV : Room := { frames := 1, cells := 0, slots := 0, locals := 21 }
set_option maxHeartbeats 4000000 in
set_option maxRecDepth 100000 in
theorem k_Mo_feedXcV (l : Launch) (D : va_G) (g : Nat → ClassId) (ad : Nat → Nat) (N0 : Nat) (zG : Nat → Nat × Nat) (zO : Nat → Nat) (zX : Nat → Nat → Int64) (zY : Nat → Nat → Int32) (zA : Nat → Nat → Nat → Int32) (zB : Nat → Int32) (zM : Nat → Nat × Nat) (zI : Nat → Nat → Int32) (zL : Nat → Nat → Int64) (zK : Int32) (zN : Nat) (zF : Int32) (zQ : Int64) (c0 : Int32) (bk : Int32) (fr : Int32) (m0 : Int32) (hc : c0 < 0 ∨ (¬ c0 < 0 ∧ ¬ c0 < nI 4)) : Met l y_Mo_feed ws_Mo_feedXcV rm_Mo_feedXcV (va_Pc ([.ref (aw_m ad 0), .int c0, .int bk, .int fr, .int m0] : List Value) (ag_B D g N0 (az_Sh g ad zG zO zX zY zA zB zM zI zL zK zN zF zQ))) (va_Qi (fun r (_ : Unit) => r = v_Mo_feedXcV ) (fun (_ : Unit) t => ag_H D N0 (az_Sh g ad zG zO zX zY zA zB zM zI zL zK zN (nI 1) zQ) t.heap) (aw_Z N0)) 0 0 (aw_Z N0) := by
  refine Met.ofW (cc := b_Mo_feed) (maxL := 7) (ret := (some .int)) (by decide) rfl ?_
  intro p e s m args below meth c s₁ B hml hv
  obtain ⟨rfl, ⟨L, hP, hD, hSh⟩, hU⟩ := hv
  have hx := B.exec
  have hb := B.bytes
  have hr := B.returns
  have hG : ∀ w ∈ aw_G, w.before _ s = true := fun w h => atoms_spec (ws := ws_Mo_feedXcV) B.pre w (List.mem_cons_of_mem _ h)
  have hown : s.vm.findClass "RuleCiphersModel" = some m.cls := findClass_of_methodNamed B.named
  have hlocks := B.notSynchronized
  have hE := hU.1
  have hK := hE.1
  have hN := hE.2.1
  have hS : va_S (aw_Z N0) s.heap s.heap [] := va_S.rf
  have hl := lv_entry ([.ref (aw_m ad 0), .int c0, .int bk, .int fr, .int m0] : List Value) (n := 7) (Nat.le_of_ble_eq_true rfl)
  rw [lg_entry_eq]
  generalize (lg_sl ([.ref (aw_m ad 0), .int c0, .int bk, .int fr, .int m0] : List Value) ++ List.replicate (7 - (lg_sl ([.ref (aw_m ad 0), .int c0, .int bk, .int fr, .int m0] : List Value)).length) Slot.unset).toArray = ls at hl ⊢
  have hl : lv_has ls 7 [(0, .ref (aw_m ad 0)), (1, .int c0), (2, .int bk), (3, .int fr), (4, .int m0)] := hl
  refine lv_iload_n hx hb d_Mo_feed_0 rfl (lv_at hl 1 rfl) ?_
  refine aw_ci ((va_runS (As := [.int c0]) (rest := []) ⟨hx, hb, hml, hown, hG⟩ (k_Mo_isContext0 l c0 hc) (aw_wS 1 hG gw_10_34 gw_10_32 gw_0_10 gw_10_33 rfl rfl hd_Mo_isContext ⟨Nat.le_of_ble_eq_true rfl, Nat.le_of_ble_eq_true rfl⟩) aw_p0 rfl rfl hl.1 rfl (lv_room (Nat.le_of_ble_eq_true rfl)) d_Mo_feed_1 ⟨Nat.le_of_ble_eq_true rfl, Nat.le_of_ble_eq_true rfl⟩).run) (fun x1 hx1 => ?_)
  subst hx1
  refine lv_if_eq (tgt := 20) hx hb d_Mo_feed_4 (by decide) (fun _ => ?_) (fun h => absurd (by decide +kernel) h)
  refine lv_iconst (v := nI 0) hx hb d_Mo_feed_20 (by decide +kernel) ?_
  refine lv_istore hx hb d_Mo_feed_21 hl (by decide) rfl (fun ls hl => ?_)
  have hl : lv_has ls 7 [(5, .int (nI 0)), (0, .ref (aw_m ad 0)), (1, .int c0), (2, .int bk), (3, .int fr), (4, .int m0)] := hl
  refine lv_aload_n hx hb d_Mo_feed_23 rfl (lv_at hl 1 rfl) ?_
  refine lv_iload hx hb d_Mo_feed_24 (lv_at hl 0 rfl) ?_
  refine lv_if_ne (tgt := 33) hx hb d_Mo_feed_26 (by decide) (fun h => absurd (by decide +kernel) h) (fun _ => ?_)
  refine lv_iconst (v := nI 1) hx hb d_Mo_feed_29 (by decide +kernel) ?_
  refine lv_goto (tgt := 80) hx hb d_Mo_feed_30 (by decide) ?_
  obtain ⟨_, he2⟩ := zr_M0 hSh
  refine va_calli (va_runV (As := [.int (nI 1)]) (rest := []) ⟨hx, hb, hml, hown, hG⟩ (k_Mo_refused1V l D g ad N0 zG zO zX zY zA zB zM zI zL zK zN zF zQ 1 (by omega)) (aw_wV 1 hG gw_10_37 gw_10_35 gw_0_10 gw_10_36 gw_p_9 rfl rfl hd_Mo_refused ⟨Nat.le_of_ble_eq_true rfl, Nat.le_of_ble_eq_true rfl⟩) (ag_qV (va_recv hK hP rfl he2) hP hD hSh hU hS) rfl rfl hl.1 rfl (lv_room (Nat.le_of_ble_eq_true rfl)) d_Mo_feed_80 ⟨Nat.le_of_ble_eq_true rfl, Nat.le_of_ble_eq_true rfl⟩) hS (fun _ _ h => h) (fun _ h => h) ?_
  clear hP hD hSh hS he2
  intro x3 u8 t8 H locs ht _ ex3 hB _ _ hS
  obtain ⟨L, hP, hD, hSh⟩ := hB
  rw [ht] at hP
  clear ht
  subst ex3
  refine lv_if_eq (tgt := 88) hx hb d_Mo_feed_83 (by decide) (fun h => absurd h (by decide +kernel)) (fun _ => ?_)
  refine lv_iconst (v := nI 0) hx hb d_Mo_feed_86 (by decide +kernel) ?_
  exact W.iret hx hb hr (fun t ht hW => ⟨⟨_, (), rfl, (by rfl), ag_Hr ht hP hD hSh⟩, hS.F ht⟩) hS.2.2 d_Mo_feed_87
noncomputable def v_Mo_feedXbV  : Int32 := nI 0
abbrev ws_Mo_feedXbV : List Cond := Cond.code y_Mo_feed b_Mo_feed 7 (some .int) :: aw_G
abbrev rm_Mo_feedXbV : Room := { frames := 1, cells := 0, slots := 0, locals := 21 }
set_option maxHeartbeats 4000000 in
set_option maxRecDepth 100000 in
theorem k_Mo_feedXbV (l : Launch) (D : va_G) (g : Nat → ClassId) (ad : Nat → Nat) (N0 : Nat) (zG : Nat → Nat × Nat) (zO : Nat → Nat) (zX : Nat → Nat → Int64) (zY : Nat → Nat → Int32) (zA : Nat → Nat → Nat → Int32) (zB : Nat → Int32) (zM : Nat → Nat × Nat) (zI : Nat → Nat → Int32) (zL : Nat → Nat → Int64) (zK : Int32) (zN : Nat) (zF : Int32) (zQ : Int64) (j : Nat) (bk : Int32) (fr : Int32) (m0 : Int32) (hj : j < 4) (hi : fr < 0 ∨ (¬ fr < 0 ∧ m0 < 0) ∨ (¬ fr < 0 ∧ ¬ m0 < 0 ∧ nI 64 < fr) ∨ (¬ fr < 0 ∧ ¬ m0 < 0 ∧ ¬ nI 64 < fr ∧ nI 64 - fr < m0)) : Met l y_Mo_feed ws_Mo_feedXbV rm_Mo_feedXbV (va_Pc ([.ref (aw_m ad 0), .int (nI j), .int bk, .int fr, .int m0] : List Value) (ag_B D g N0 (az_Sh g ad zG zO zX zY zA zB zM zI zL zK zN zF zQ))) (va_Qi (fun r (_ : Unit) => r = v_Mo_feedXbV ) (fun (_ : Unit) t => ag_H D N0 (az_Sh g ad zG zO zX zY zA zB zM zI zL zK zN (nI 1) zQ) t.heap) (aw_Z N0)) 0 0 (aw_Z N0) := by
  refine Met.ofW (cc := b_Mo_feed) (maxL := 7) (ret := (some .int)) (by decide) rfl ?_
  intro p e s m args below meth c s₁ B hml hv
  obtain ⟨rfl, ⟨L, hP, hD, hSh⟩, hU⟩ := hv
  have hx := B.exec
  have hb := B.bytes
  have hr := B.returns
  have hG : ∀ w ∈ aw_G, w.before _ s = true := fun w h => atoms_spec (ws := ws_Mo_feedXbV) B.pre w (List.mem_cons_of_mem _ h)
  have hown : s.vm.findClass "RuleCiphersModel" = some m.cls := findClass_of_methodNamed B.named
  have hlocks := B.notSynchronized
  have hE := hU.1
  have hK := hE.1
  have hN := hE.2.1
  have hS : va_S (aw_Z N0) s.heap s.heap [] := va_S.rf
  have hl := lv_entry ([.ref (aw_m ad 0), .int (nI j), .int bk, .int fr, .int m0] : List Value) (n := 7) (Nat.le_of_ble_eq_true rfl)
  rw [lg_entry_eq]
  generalize (lg_sl ([.ref (aw_m ad 0), .int (nI j), .int bk, .int fr, .int m0] : List Value) ++ List.replicate (7 - (lg_sl ([.ref (aw_m ad 0), .int (nI j), .int bk, .int fr, .int m0] : List Value)).length) Slot.unset).toArray = ls at hl ⊢
  have hl : lv_has ls 7 [(0, .ref (aw_m ad 0)), (1, .int (nI j)), (2, .int bk), (3, .int fr), (4, .int m0)] := hl
  refine lv_iload_n hx hb d_Mo_feed_0 rfl (lv_at hl 1 rfl) ?_
  refine aw_ci ((va_runS (As := [.int (nI j)]) (rest := []) ⟨hx, hb, hml, hown, hG⟩ (k_Mo_isContext1 l j hj) (aw_wS 1 hG gw_10_34 gw_10_32 gw_0_10 gw_10_33 rfl rfl hd_Mo_isContext ⟨Nat.le_of_ble_eq_true rfl, Nat.le_of_ble_eq_true rfl⟩) aw_p0 rfl rfl hl.1 rfl (lv_room (Nat.le_of_ble_eq_true rfl)) d_Mo_feed_1 ⟨Nat.le_of_ble_eq_true rfl, Nat.le_of_ble_eq_true rfl⟩).run) (fun x1 hx1 => ?_)
  subst hx1
  refine lv_if_eq (tgt := 20) hx hb d_Mo_feed_4 (by decide) (fun h => absurd h (by decide +kernel)) (fun _ => ?_)
  refine lv_iload_n hx hb d_Mo_feed_7 rfl (lv_at hl 3 rfl) ?_
  refine lv_iload hx hb d_Mo_feed_8 (lv_at hl 4 rfl) ?_
  refine aw_ci ((va_runS (As := [.int fr, .int m0]) (rest := []) ⟨hx, hb, hml, hown, hG⟩ (k_Mo_isPart0 l fr m0 hi) (aw_wS 2 hG gw_12_29 gw_12_27 gw_0_10 gw_12_28 rfl rfl hd_Mo_isPart ⟨Nat.le_of_ble_eq_true rfl, Nat.le_of_ble_eq_true rfl⟩) aw_p0 rfl rfl hl.1 rfl (lv_room (Nat.le_of_ble_eq_true rfl)) d_Mo_feed_10 ⟨Nat.le_of_ble_eq_true rfl, Nat.le_of_ble_eq_true rfl⟩).run) (fun x2 hx2 => ?_)
  subst hx2
  refine lv_if_eq (tgt := 20) hx hb d_Mo_feed_13 (by decide) (fun _ => ?_) (fun h => absurd (by decide +kernel) h)
  refine lv_iconst (v := nI 0) hx hb d_Mo_feed_20 (by decide +kernel) ?_
  refine lv_istore hx hb d_Mo_feed_21 hl (by decide) rfl (fun ls hl => ?_)
  have hl : lv_has ls 7 [(5, .int (nI 0)), (0, .ref (aw_m ad 0)), (1, .int (nI j)), (2, .int bk), (3, .int fr), (4, .int m0)] := hl
  refine lv_aload_n hx hb d_Mo_feed_23 rfl (lv_at hl 1 rfl) ?_
  refine lv_iload hx hb d_Mo_feed_24 (lv_at hl 0 rfl) ?_
  refine lv_if_ne (tgt := 33) hx hb d_Mo_feed_26 (by decide) (fun h => absurd (by decide +kernel) h) (fun _ => ?_)
  refine lv_iconst (v := nI 1) hx hb d_Mo_feed_29 (by decide +kernel) ?_
  refine lv_goto (tgt := 80) hx hb d_Mo_feed_30 (by decide) ?_
  obtain ⟨_, he3⟩ := zr_M0 hSh
  refine va_calli (va_runV (As := [.int (nI 1)]) (rest := []) ⟨hx, hb, hml, hown, hG⟩ (k_Mo_refused1V l D g ad N0 zG zO zX zY zA zB zM zI zL zK zN zF zQ 1 (by omega)) (aw_wV 1 hG gw_10_37 gw_10_35 gw_0_10 gw_10_36 gw_p_9 rfl rfl hd_Mo_refused ⟨Nat.le_of_ble_eq_true rfl, Nat.le_of_ble_eq_true rfl⟩) (ag_qV (va_recv hK hP rfl he3) hP hD hSh hU hS) rfl rfl hl.1 rfl (lv_room (Nat.le_of_ble_eq_true rfl)) d_Mo_feed_80 ⟨Nat.le_of_ble_eq_true rfl, Nat.le_of_ble_eq_true rfl⟩) hS (fun _ _ h => h) (fun _ h => h) ?_
  clear hP hD hSh hS he3
  intro x4 u8 t8 H locs ht _ ex4 hB _ _ hS
  obtain ⟨L, hP, hD, hSh⟩ := hB
  rw [ht] at hP
  clear ht
  subst ex4
  refine lv_if_eq (tgt := 88) hx hb d_Mo_feed_83 (by decide) (fun h => absurd h (by decide +kernel)) (fun _ => ?_)
  refine lv_iconst (v := nI 0) hx hb d_Mo_feed_86 (by decide +kernel) ?_
  exact W.iret hx hb hr (fun t ht hW => ⟨⟨_, (), rfl, (by rfl), ag_Hr ht hP hD hSh⟩, hS.F ht⟩) hS.2.2 d_Mo_feed_87
noncomputable def v_Mo_feedXsV  : Int32 := nI 0
abbrev ws_Mo_feedXsV : List Cond := Cond.code y_Mo_feed b_Mo_feed 7 (some .int) :: aw_G
abbrev rm_Mo_feedXsV : Room := { frames := 1, cells := 0, slots := 0, locals := 21 }
set_option maxHeartbeats 4000000 in
set_option maxRecDepth 100000 in
theorem k_Mo_feedXsV (l : Launch) (D : va_G) (g : Nat → ClassId) (ad : Nat → Nat) (N0 : Nat) (zG : Nat → Nat × Nat) (zO : Nat → Nat) (zX : Nat → Nat → Int64) (zY : Nat → Nat → Int32) (zA : Nat → Nat → Nat → Int32) (zB : Nat → Int32) (zM : Nat → Nat × Nat) (zI : Nat → Nat → Int32) (zL : Nat → Nat → Int64) (zK : Int32) (zN : Nat) (zF : Int32) (zQ : Int64) (j : Nat) (bk : Int32) (k : Nat) (mm : Nat) (hj : j < 4) (hk : k + mm ≤ 64) (hs : (zM j).1 ≤ 2 ∨ ((zM j).1 = 3 ∧ (zM j).2 = 5)) : Met l y_Mo_feed ws_Mo_feedXsV rm_Mo_feedXsV (va_Pc ([.ref (aw_m ad 0), .int (nI j), .int bk, .int (nI k), .int (nI mm)] : List Value) (ag_B D g N0 (az_Sh g ad zG zO zX zY zA zB zM zI zL zK zN zF zQ))) (va_Qi (fun r (_ : Unit) => r = v_Mo_feedXsV ) (fun (_ : Unit) t => ag_H D N0 (az_Sh g ad zG zO zX zY zA zB zM zI zL zK zN (nI 2) zQ) t.heap) (aw_Z N0)) 0 0 (aw_Z N0) := by
  refine Met.ofW (cc := b_Mo_feed) (maxL := 7) (ret := (some .int)) (by decide) rfl ?_
  intro p e s m args below meth c s₁ B hml hv
  obtain ⟨rfl, ⟨L, hP, hD, hSh⟩, hU⟩ := hv
  have hx := B.exec
  have hb := B.bytes
  have hr := B.returns
  have hG : ∀ w ∈ aw_G, w.before _ s = true := fun w h => atoms_spec (ws := ws_Mo_feedXsV) B.pre w (List.mem_cons_of_mem _ h)
  have hown : s.vm.findClass "RuleCiphersModel" = some m.cls := findClass_of_methodNamed B.named
  have hlocks := B.notSynchronized
  have hE := hU.1
  have hK := hE.1
  have hN := hE.2.1
  have hS : va_S (aw_Z N0) s.heap s.heap [] := va_S.rf
  have hl := lv_entry ([.ref (aw_m ad 0), .int (nI j), .int bk, .int (nI k), .int (nI mm)] : List Value) (n := 7) (Nat.le_of_ble_eq_true rfl)
  rw [lg_entry_eq]
  generalize (lg_sl ([.ref (aw_m ad 0), .int (nI j), .int bk, .int (nI k), .int (nI mm)] : List Value) ++ List.replicate (7 - (lg_sl ([.ref (aw_m ad 0), .int (nI j), .int bk, .int (nI k), .int (nI mm)] : List Value)).length) Slot.unset).toArray = ls at hl ⊢
  have hl : lv_has ls 7 [(0, .ref (aw_m ad 0)), (1, .int (nI j)), (2, .int bk), (3, .int (nI k)), (4, .int (nI mm))] := hl
  rcases hs with hs | hs
  · refine lv_iload_n hx hb d_Mo_feed_0 rfl (lv_at hl 1 rfl) ?_
    refine aw_ci ((va_runS (As := [.int (nI j)]) (rest := []) ⟨hx, hb, hml, hown, hG⟩ (k_Mo_isContext1 l j hj) (aw_wS 1 hG gw_10_34 gw_10_32 gw_0_10 gw_10_33 rfl rfl hd_Mo_isContext ⟨Nat.le_of_ble_eq_true rfl, Nat.le_of_ble_eq_true rfl⟩) aw_p0 rfl rfl hl.1 rfl (lv_room (Nat.le_of_ble_eq_true rfl)) d_Mo_feed_1 ⟨Nat.le_of_ble_eq_true rfl, Nat.le_of_ble_eq_true rfl⟩).run) (fun x1 hx1 => ?_)
    subst hx1
    refine lv_if_eq (tgt := 20) hx hb d_Mo_feed_4 (by decide) (fun h => absurd h (by decide +kernel)) (fun _ => ?_)
    refine lv_iload_n hx hb d_Mo_feed_7 rfl (lv_at hl 3 rfl) ?_
    refine lv_iload hx hb d_Mo_feed_8 (lv_at hl 4 rfl) ?_
    refine aw_ci ((va_runS (As := [.int (nI k), .int (nI mm)]) (rest := []) ⟨hx, hb, hml, hown, hG⟩ (k_Mo_isPart1 l k mm hk) (aw_wS 2 hG gw_12_29 gw_12_27 gw_0_10 gw_12_28 rfl rfl hd_Mo_isPart ⟨Nat.le_of_ble_eq_true rfl, Nat.le_of_ble_eq_true rfl⟩) aw_p0 rfl rfl hl.1 rfl (lv_room (Nat.le_of_ble_eq_true rfl)) d_Mo_feed_10 ⟨Nat.le_of_ble_eq_true rfl, Nat.le_of_ble_eq_true rfl⟩).run) (fun x2 hx2 => ?_)
    subst hx2
    refine lv_if_eq (tgt := 20) hx hb d_Mo_feed_13 (by decide) (fun h => absurd h (by decide +kernel)) (fun _ => ?_)
    refine lv_iconst (v := nI 1) hx hb d_Mo_feed_16 (by decide +kernel) ?_
    refine lv_goto (tgt := 21) hx hb d_Mo_feed_17 (by decide) ?_
    refine lv_istore hx hb d_Mo_feed_21 hl (by decide) rfl (fun ls hl => ?_)
    have hl : lv_has ls 7 [(5, .int (nI 1)), (0, .ref (aw_m ad 0)), (1, .int (nI j)), (2, .int bk), (3, .int (nI k)), (4, .int (nI mm))] := hl
    refine lv_aload_n hx hb d_Mo_feed_23 rfl (lv_at hl 1 rfl) ?_
    refine lv_iload hx hb d_Mo_feed_24 (lv_at hl 0 rfl) ?_
    refine lv_if_ne (tgt := 33) hx hb d_Mo_feed_26 (by decide) (fun _ => ?_) (fun h => absurd h (by decide +kernel))
    refine lv_aload_n hx hb d_Mo_feed_33 rfl (lv_at hl 1 rfl) ?_
    obtain ⟨hsd4, he3⟩ := zr_M0 hSh
    refine va_get (C := R_Mo) (T := T_Mo) (N := 19) (v := .ref (aw_m ad 2)) hx hb hG in_Mo hown hK hP 67 he3 rfl 2 (by decide) (hG _ gw_9_27) (fun _ h => h) rfl d_Mo_feed_34 ?_
    clear he3
    refine lv_iload_n hx hb d_Mo_feed_37 rfl (lv_at hl 2 rfl) ?_
    obtain ⟨hsd6, he5⟩ := zr_M2 hSh
    refine aw_ild hx hb hK hP 69 0 he5 rfl (k := j) (by omega) (by decide) d_Mo_feed_38 ?_
    clear he5
    refine aw_ti (y := nI (zM j).1) (hsd6 _ (by omega)) ?_
    have hm := hSh.2.2.2.2.2 j (by omega)
    refine lv_iconst (v := nI 3) hx hb d_Mo_feed_39 (by decide +kernel) ?_
    refine lv_icmp_ne (tgt := 53) hx hb d_Mo_feed_40 (by decide) (fun _ => ?_) (fun h => absurd h (show ¬ nI ((zM j).1) = nI 3 from fun h9 => absurd ((nI_eq (by omega) (by omega)).mp h9) (by omega)))
    refine lv_iconst (v := nI 2) hx hb d_Mo_feed_53 (by decide +kernel) ?_
    refine lv_goto (tgt := 80) hx hb d_Mo_feed_54 (by decide) ?_
    obtain ⟨_, he7⟩ := zr_M0 hSh
    refine va_calli (va_runV (As := [.int (nI 2)]) (rest := []) ⟨hx, hb, hml, hown, hG⟩ (k_Mo_refused1V l D g ad N0 zG zO zX zY zA zB zM zI zL zK zN zF zQ 2 (by omega)) (aw_wV 1 hG gw_10_37 gw_10_35 gw_0_10 gw_10_36 gw_p_9 rfl rfl hd_Mo_refused ⟨Nat.le_of_ble_eq_true rfl, Nat.le_of_ble_eq_true rfl⟩) (ag_qV (va_recv hK hP rfl he7) hP hD hSh hU hS) rfl rfl hl.1 rfl (lv_room (Nat.le_of_ble_eq_true rfl)) d_Mo_feed_80 ⟨Nat.le_of_ble_eq_true rfl, Nat.le_of_ble_eq_true rfl⟩) hS (fun _ _ h => h) (fun _ h => h) ?_
    clear hP hD hSh hS he7
    intro x8 u8 t8 H locs ht _ ex8 hB _ _ hS
    obtain ⟨L, hP, hD, hSh⟩ := hB
    rw [ht] at hP
    clear ht
    subst ex8
    refine lv_if_eq (tgt := 88) hx hb d_Mo_feed_83 (by decide) (fun h => absurd h (by decide +kernel)) (fun _ => ?_)
    refine lv_iconst (v := nI 0) hx hb d_Mo_feed_86 (by decide +kernel) ?_
    exact W.iret hx hb hr (fun t ht hW => ⟨⟨_, (), rfl, (by rfl), ag_Hr ht hP hD hSh⟩, hS.F ht⟩) hS.2.2 d_Mo_feed_87
  · refine lv_iload_n hx hb d_Mo_feed_0 rfl (lv_at hl 1 rfl) ?_
    refine aw_ci ((va_runS (As := [.int (nI j)]) (rest := []) ⟨hx, hb, hml, hown, hG⟩ (k_Mo_isContext1 l j hj) (aw_wS 1 hG gw_10_34 gw_10_32 gw_0_10 gw_10_33 rfl rfl hd_Mo_isContext ⟨Nat.le_of_ble_eq_true rfl, Nat.le_of_ble_eq_true rfl⟩) aw_p0 rfl rfl hl.1 rfl (lv_room (Nat.le_of_ble_eq_true rfl)) d_Mo_feed_1 ⟨Nat.le_of_ble_eq_true rfl, Nat.le_of_ble_eq_true rfl⟩).run) (fun x9 hx9 => ?_)
    subst hx9
    refine lv_if_eq (tgt := 20) hx hb d_Mo_feed_4 (by decide) (fun h => absurd h (by decide +kernel)) (fun _ => ?_)
    refine lv_iload_n hx hb d_Mo_feed_7 rfl (lv_at hl 3 rfl) ?_
    refine lv_iload hx hb d_Mo_feed_8 (lv_at hl 4 rfl) ?_
    refine aw_ci ((va_runS (As := [.int (nI k), .int (nI mm)]) (rest := []) ⟨hx, hb, hml, hown, hG⟩ (k_Mo_isPart1 l k mm hk) (aw_wS 2 hG gw_12_29 gw_12_27 gw_0_10 gw_12_28 rfl rfl hd_Mo_isPart ⟨Nat.le_of_ble_eq_true rfl, Nat.le_of_ble_eq_true rfl⟩) aw_p0 rfl rfl hl.1 rfl (lv_room (Nat.le_of_ble_eq_true rfl)) d_Mo_feed_10 ⟨Nat.le_of_ble_eq_true rfl, Nat.le_of_ble_eq_true rfl⟩).run) (fun x10 hx10 => ?_)
    subst hx10
    refine lv_if_eq (tgt := 20) hx hb d_Mo_feed_13 (by decide) (fun h => absurd h (by decide +kernel)) (fun _ => ?_)
    refine lv_iconst (v := nI 1) hx hb d_Mo_feed_16 (by decide +kernel) ?_
    refine lv_goto (tgt := 21) hx hb d_Mo_feed_17 (by decide) ?_
    refine lv_istore hx hb d_Mo_feed_21 hl (by decide) rfl (fun ls hl => ?_)
    have hl : lv_has ls 7 [(5, .int (nI 1)), (0, .ref (aw_m ad 0)), (1, .int (nI j)), (2, .int bk), (3, .int (nI k)), (4, .int (nI mm))] := hl
    refine lv_aload_n hx hb d_Mo_feed_23 rfl (lv_at hl 1 rfl) ?_
    refine lv_iload hx hb d_Mo_feed_24 (lv_at hl 0 rfl) ?_
    refine lv_if_ne (tgt := 33) hx hb d_Mo_feed_26 (by decide) (fun _ => ?_) (fun h => absurd h (by decide +kernel))
    refine lv_aload_n hx hb d_Mo_feed_33 rfl (lv_at hl 1 rfl) ?_
    obtain ⟨hsd12, he11⟩ := zr_M0 hSh
    refine va_get (C := R_Mo) (T := T_Mo) (N := 19) (v := .ref (aw_m ad 2)) hx hb hG in_Mo hown hK hP 67 he11 rfl 2 (by decide) (hG _ gw_9_27) (fun _ h => h) rfl d_Mo_feed_34 ?_
    clear he11
    refine lv_iload_n hx hb d_Mo_feed_37 rfl (lv_at hl 2 rfl) ?_
    obtain ⟨hsd14, he13⟩ := zr_M2 hSh
    refine aw_ild hx hb hK hP 69 0 he13 rfl (k := j) (by omega) (by decide) d_Mo_feed_38 ?_
    clear he13
    refine aw_ti (y := nI (zM j).1) (hsd14 _ (by omega)) ?_
    have hm := hSh.2.2.2.2.2 j (by omega)
    refine lv_iconst (v := nI 3) hx hb d_Mo_feed_39 (by decide +kernel) ?_
    refine lv_icmp_ne (tgt := 53) hx hb d_Mo_feed_40 (by decide) (fun h => absurd (show nI ((zM j).1) = nI 3 from (nI_eq (by omega) (by omega)).mpr (by omega)) h) (fun _ => ?_)
    refine lv_aload_n hx hb d_Mo_feed_43 rfl (lv_at hl 1 rfl) ?_
    obtain ⟨hsd16, he15⟩ := zr_M0 hSh
    refine va_get (C := R_Mo) (T := T_Mo) (N := 19) (v := .ref (aw_m ad 6)) hx hb hG in_Mo hown hK hP 67 he15 rfl 6 (by decide) (hG _ gw_9_31) (fun _ h => h) rfl d_Mo_feed_44 ?_
    clear he15
    refine lv_iload_n hx hb d_Mo_feed_47 rfl (lv_at hl 2 rfl) ?_
    obtain ⟨hsd18, he17⟩ := zr_M6 hSh
    refine aw_ild hx hb hK hP 73 0 he17 rfl (k := j) (by omega) (by decide) d_Mo_feed_48 ?_
    clear he17
    refine aw_ti (y := nI (zM j).2) (hsd18 _ (by omega)) ?_
    have hm := hSh.2.2.2.2.2 j (by omega)
    refine lv_iconst (v := nI 5) hx hb d_Mo_feed_49 (by decide +kernel) ?_
    refine lv_icmp_ne (tgt := 57) hx hb d_Mo_feed_50 (by decide) (fun h => absurd (show nI ((zM j).2) = nI 5 from (nI_eq (by omega) (by omega)).mpr (by omega)) h) (fun _ => ?_)
    refine lv_iconst (v := nI 2) hx hb d_Mo_feed_53 (by decide +kernel) ?_
    refine lv_goto (tgt := 80) hx hb d_Mo_feed_54 (by decide) ?_
    obtain ⟨_, he19⟩ := zr_M0 hSh
    refine va_calli (va_runV (As := [.int (nI 2)]) (rest := []) ⟨hx, hb, hml, hown, hG⟩ (k_Mo_refused1V l D g ad N0 zG zO zX zY zA zB zM zI zL zK zN zF zQ 2 (by omega)) (aw_wV 1 hG gw_10_37 gw_10_35 gw_0_10 gw_10_36 gw_p_9 rfl rfl hd_Mo_refused ⟨Nat.le_of_ble_eq_true rfl, Nat.le_of_ble_eq_true rfl⟩) (ag_qV (va_recv hK hP rfl he19) hP hD hSh hU hS) rfl rfl hl.1 rfl (lv_room (Nat.le_of_ble_eq_true rfl)) d_Mo_feed_80 ⟨Nat.le_of_ble_eq_true rfl, Nat.le_of_ble_eq_true rfl⟩) hS (fun _ _ h => h) (fun _ h => h) ?_
    clear hP hD hSh hS he19
    intro x20 u8 t8 H locs ht _ ex20 hB _ _ hS
    obtain ⟨L, hP, hD, hSh⟩ := hB
    rw [ht] at hP
    clear ht
    subst ex20
    refine lv_if_eq (tgt := 88) hx hb d_Mo_feed_83 (by decide) (fun h => absurd h (by decide +kernel)) (fun _ => ?_)
    refine lv_iconst (v := nI 0) hx hb d_Mo_feed_86 (by decide +kernel) ?_
    exact W.iret hx hb hr (fun t ht hW => ⟨⟨_, (), rfl, (by rfl), ag_Hr ht hP hD hSh⟩, hS.F ht⟩) hS.2.2 d_Mo_feed_87
noncomputable def v_Mo_feedXaV  : Int32 := nI 0
abbrev ws_Mo_feedXaV : List Cond := Cond.code y_Mo_feed b_Mo_feed 7 (some .int) :: aw_G
abbrev rm_Mo_feedXaV : Room := { frames := 1, cells := 0, slots := 0, locals := 21 }
set_option maxHeartbeats 4000000 in
set_option maxRecDepth 100000 in
theorem k_Mo_feedXaV (l : Launch) (D : va_G) (g : Nat → ClassId) (ad : Nat → Nat) (N0 : Nat) (zG : Nat → Nat × Nat) (zO : Nat → Nat) (zX : Nat → Nat → Int64) (zY : Nat → Nat → Int32) (zA : Nat → Nat → Nat → Int32) (zB : Nat → Int32) (zM : Nat → Nat × Nat) (zI : Nat → Nat → Int32) (zL : Nat → Nat → Int64) (zK : Int32) (zN : Nat) (zF : Int32) (zQ : Int64) (j : Nat) (bk : Int32) (k : Nat) (mm : Nat) (hj : j < 4) (hk : k + mm ≤ 64) (hs : (zM j).1 = 3) (hm : (zM j).2 ≤ 1) (hr8 : mm % 8 ≠ 0) : Met l y_Mo_feed ws_Mo_feedXaV rm_Mo_feedXaV (va_Pc ([.ref (aw_m ad 0), .int (nI j), .int bk, .int (nI k), .int (nI mm)] : List Value) (ag_B D g N0 (az_Sh g ad zG zO zX zY zA zB zM zI zL zK zN zF zQ))) (va_Qi (fun r (_ : Unit) => r = v_Mo_feedXaV ) (fun (_ : Unit) t => ag_H D N0 (az_Sh g ad zG zO zX zY zA zB zM zI zL zK zN (nI 3) zQ) t.heap) (aw_Z N0)) 0 0 (aw_Z N0) := by
  refine Met.ofW (cc := b_Mo_feed) (maxL := 7) (ret := (some .int)) (by decide) rfl ?_
  intro p e s m args below meth c s₁ B hml hv
  obtain ⟨rfl, ⟨L, hP, hD, hSh⟩, hU⟩ := hv
  have hx := B.exec
  have hb := B.bytes
  have hr := B.returns
  have hG : ∀ w ∈ aw_G, w.before _ s = true := fun w h => atoms_spec (ws := ws_Mo_feedXaV) B.pre w (List.mem_cons_of_mem _ h)
  have hown : s.vm.findClass "RuleCiphersModel" = some m.cls := findClass_of_methodNamed B.named
  have hlocks := B.notSynchronized
  have hE := hU.1
  have hK := hE.1
  have hN := hE.2.1
  have hS : va_S (aw_Z N0) s.heap s.heap [] := va_S.rf
  have hl := lv_entry ([.ref (aw_m ad 0), .int (nI j), .int bk, .int (nI k), .int (nI mm)] : List Value) (n := 7) (Nat.le_of_ble_eq_true rfl)
  rw [lg_entry_eq]
  generalize (lg_sl ([.ref (aw_m ad 0), .int (nI j), .int bk, .int (nI k), .int (nI mm)] : List Value) ++ List.replicate (7 - (lg_sl ([.ref (aw_m ad 0), .int (nI j), .int bk, .int (nI k), .int (nI mm)] : List Value)).length) Slot.unset).toArray = ls at hl ⊢
  have hl : lv_has ls 7 [(0, .ref (aw_m ad 0)), (1, .int (nI j)), (2, .int bk), (3, .int (nI k)), (4, .int (nI mm))] := hl
  refine lv_iload_n hx hb d_Mo_feed_0 rfl (lv_at hl 1 rfl) ?_
  refine aw_ci ((va_runS (As := [.int (nI j)]) (rest := []) ⟨hx, hb, hml, hown, hG⟩ (k_Mo_isContext1 l j hj) (aw_wS 1 hG gw_10_34 gw_10_32 gw_0_10 gw_10_33 rfl rfl hd_Mo_isContext ⟨Nat.le_of_ble_eq_true rfl, Nat.le_of_ble_eq_true rfl⟩) aw_p0 rfl rfl hl.1 rfl (lv_room (Nat.le_of_ble_eq_true rfl)) d_Mo_feed_1 ⟨Nat.le_of_ble_eq_true rfl, Nat.le_of_ble_eq_true rfl⟩).run) (fun x1 hx1 => ?_)
  subst hx1
  refine lv_if_eq (tgt := 20) hx hb d_Mo_feed_4 (by decide) (fun h => absurd h (by decide +kernel)) (fun _ => ?_)
  refine lv_iload_n hx hb d_Mo_feed_7 rfl (lv_at hl 3 rfl) ?_
  refine lv_iload hx hb d_Mo_feed_8 (lv_at hl 4 rfl) ?_
  refine aw_ci ((va_runS (As := [.int (nI k), .int (nI mm)]) (rest := []) ⟨hx, hb, hml, hown, hG⟩ (k_Mo_isPart1 l k mm hk) (aw_wS 2 hG gw_12_29 gw_12_27 gw_0_10 gw_12_28 rfl rfl hd_Mo_isPart ⟨Nat.le_of_ble_eq_true rfl, Nat.le_of_ble_eq_true rfl⟩) aw_p0 rfl rfl hl.1 rfl (lv_room (Nat.le_of_ble_eq_true rfl)) d_Mo_feed_10 ⟨Nat.le_of_ble_eq_true rfl, Nat.le_of_ble_eq_true rfl⟩).run) (fun x2 hx2 => ?_)
  subst hx2
  refine lv_if_eq (tgt := 20) hx hb d_Mo_feed_13 (by decide) (fun h => absurd h (by decide +kernel)) (fun _ => ?_)
  refine lv_iconst (v := nI 1) hx hb d_Mo_feed_16 (by decide +kernel) ?_
  refine lv_goto (tgt := 21) hx hb d_Mo_feed_17 (by decide) ?_
  refine lv_istore hx hb d_Mo_feed_21 hl (by decide) rfl (fun ls hl => ?_)
  have hl : lv_has ls 7 [(5, .int (nI 1)), (0, .ref (aw_m ad 0)), (1, .int (nI j)), (2, .int bk), (3, .int (nI k)), (4, .int (nI mm))] := hl
  refine lv_aload_n hx hb d_Mo_feed_23 rfl (lv_at hl 1 rfl) ?_
  refine lv_iload hx hb d_Mo_feed_24 (lv_at hl 0 rfl) ?_
  refine lv_if_ne (tgt := 33) hx hb d_Mo_feed_26 (by decide) (fun _ => ?_) (fun h => absurd h (by decide +kernel))
  refine lv_aload_n hx hb d_Mo_feed_33 rfl (lv_at hl 1 rfl) ?_
  obtain ⟨hsd4, he3⟩ := zr_M0 hSh
  refine va_get (C := R_Mo) (T := T_Mo) (N := 19) (v := .ref (aw_m ad 2)) hx hb hG in_Mo hown hK hP 67 he3 rfl 2 (by decide) (hG _ gw_9_27) (fun _ h => h) rfl d_Mo_feed_34 ?_
  clear he3
  refine lv_iload_n hx hb d_Mo_feed_37 rfl (lv_at hl 2 rfl) ?_
  obtain ⟨hsd6, he5⟩ := zr_M2 hSh
  refine aw_ild hx hb hK hP 69 0 he5 rfl (k := j) (by omega) (by decide) d_Mo_feed_38 ?_
  clear he5
  refine aw_ti (y := nI (zM j).1) (hsd6 _ (by omega)) ?_
  have hm := hSh.2.2.2.2.2 j (by omega)
  refine lv_iconst (v := nI 3) hx hb d_Mo_feed_39 (by decide +kernel) ?_
  refine lv_icmp_ne (tgt := 53) hx hb d_Mo_feed_40 (by decide) (fun h => absurd (show nI ((zM j).1) = nI 3 from (nI_eq (by omega) (by omega)).mpr (by omega)) h) (fun _ => ?_)
  refine lv_aload_n hx hb d_Mo_feed_43 rfl (lv_at hl 1 rfl) ?_
  obtain ⟨hsd8, he7⟩ := zr_M0 hSh
  refine va_get (C := R_Mo) (T := T_Mo) (N := 19) (v := .ref (aw_m ad 6)) hx hb hG in_Mo hown hK hP 67 he7 rfl 6 (by decide) (hG _ gw_9_31) (fun _ h => h) rfl d_Mo_feed_44 ?_
  clear he7
  refine lv_iload_n hx hb d_Mo_feed_47 rfl (lv_at hl 2 rfl) ?_
  obtain ⟨hsd10, he9⟩ := zr_M6 hSh
  refine aw_ild hx hb hK hP 73 0 he9 rfl (k := j) (by omega) (by decide) d_Mo_feed_48 ?_
  clear he9
  refine aw_ti (y := nI (zM j).2) (hsd10 _ (by omega)) ?_
  have hm := hSh.2.2.2.2.2 j (by omega)
  refine lv_iconst (v := nI 5) hx hb d_Mo_feed_49 (by decide +kernel) ?_
  refine lv_icmp_ne (tgt := 57) hx hb d_Mo_feed_50 (by decide) (fun _ => ?_) (fun h => absurd h (show ¬ nI ((zM j).2) = nI 5 from fun h9 => absurd ((nI_eq (by omega) (by omega)).mp h9) (by omega)))
  refine lv_aload_n hx hb d_Mo_feed_57 rfl (lv_at hl 1 rfl) ?_
  obtain ⟨hsd12, he11⟩ := zr_M0 hSh
  refine va_get (C := R_Mo) (T := T_Mo) (N := 19) (v := .ref (aw_m ad 6)) hx hb hG in_Mo hown hK hP 67 he11 rfl 6 (by decide) (hG _ gw_9_31) (fun _ h => h) rfl d_Mo_feed_58 ?_
  clear he11
  refine lv_iload_n hx hb d_Mo_feed_61 rfl (lv_at hl 2 rfl) ?_
  obtain ⟨hsd14, he13⟩ := zr_M6 hSh
  refine aw_ild hx hb hK hP 73 0 he13 rfl (k := j) (by omega) (by decide) d_Mo_feed_62 ?_
  clear he13
  refine aw_ti (y := nI (zM j).2) (hsd14 _ (by omega)) ?_
  have hm := hSh.2.2.2.2.2 j (by omega)
  refine lv_iconst (v := nI 2) hx hb d_Mo_feed_63 (by decide +kernel) ?_
  refine lv_icmp_ge (tgt := 79) hx hb d_Mo_feed_64 (by decide) (fun h => absurd h (show ¬ nI 2 ≤ nI ((zM j).2) from fun h9 => absurd ((nI_leI (by omega) (by omega)).mp h9) (by omega))) (fun _ => ?_)
  refine lv_iload hx hb d_Mo_feed_67 (lv_at hl 5 rfl) ?_
  refine lv_bipush (v := nI 8) hx hb d_Mo_feed_69 (by decide +kernel) ?_
  refine lv_irem hx hb d_Mo_feed_71 (by decide +kernel) ?_
  refine aw_ti (pk_rem (a := mm) (d := 8) (by omega) (by omega) (by omega)) ?_
  refine lv_if_eq (tgt := 79) hx hb d_Mo_feed_72 (by decide) (fun h => absurd h (show ¬ nI (mm % 8) = nI 0 from fun h9 => absurd ((nI_eq (by omega) (by omega)).mp h9) (by omega))) (fun _ => ?_)
  refine lv_iconst (v := nI 3) hx hb d_Mo_feed_75 (by decide +kernel) ?_
  refine lv_goto (tgt := 80) hx hb d_Mo_feed_76 (by decide) ?_
  obtain ⟨_, he15⟩ := zr_M0 hSh
  refine va_calli (va_runV (As := [.int (nI 3)]) (rest := []) ⟨hx, hb, hml, hown, hG⟩ (k_Mo_refused1V l D g ad N0 zG zO zX zY zA zB zM zI zL zK zN zF zQ 3 (by omega)) (aw_wV 1 hG gw_10_37 gw_10_35 gw_0_10 gw_10_36 gw_p_9 rfl rfl hd_Mo_refused ⟨Nat.le_of_ble_eq_true rfl, Nat.le_of_ble_eq_true rfl⟩) (ag_qV (va_recv hK hP rfl he15) hP hD hSh hU hS) rfl rfl hl.1 rfl (lv_room (Nat.le_of_ble_eq_true rfl)) d_Mo_feed_80 ⟨Nat.le_of_ble_eq_true rfl, Nat.le_of_ble_eq_true rfl⟩) hS (fun _ _ h => h) (fun _ h => h) ?_
  clear hP hD hSh hS he15
  intro x16 u8 t8 H locs ht _ ex16 hB _ _ hS
  obtain ⟨L, hP, hD, hSh⟩ := hB
  rw [ht] at hP
  clear ht
  subst ex16
  refine lv_if_eq (tgt := 88) hx hb d_Mo_feed_83 (by decide) (fun h => absurd h (by decide +kernel)) (fun _ => ?_)
  refine lv_iconst (v := nI 0) hx hb d_Mo_feed_86 (by decide +kernel) ?_
  exact W.iret hx hb hr (fun t ht hW => ⟨⟨_, (), rfl, (by rfl), ag_Hr ht hP hD hSh⟩, hS.F ht⟩) hS.2.2 d_Mo_feed_87
noncomputable def v_Mo_feed1V_L96 (zM : Nat → Nat × Nat) (zI : Nat → Nat → Int32) (zL : Nat → Nat → Int64) (j : Nat) (kc : Nat) (bk : Int32) (k : Nat) (mm : Nat) (t : Nat) : (Nat → Nat → Int32) × (Nat → Nat → Int64) := Nat.rec (motive := fun _ => (Nat → Nat → Int32) × (Nat → Nat → Int64)) (v_Mo_prepareJV_zI zI zL j kc, zL) (fun t s => (v_Mo_feedByteV_zI zM (s.1) (s.2) j kc bk (k + t), v_Mo_feedByteV_zL zM (s.1) (s.2) j kc bk (k + t))) t
theorem v_Mo_feed1V_L96_z (zM : Nat → Nat × Nat) (zI : Nat → Nat → Int32) (zL : Nat → Nat → Int64) (j : Nat) (kc : Nat) (bk : Int32) (k : Nat) (mm : Nat) : v_Mo_feed1V_L96 zM zI zL j kc bk k mm 0 = (v_Mo_prepareJV_zI zI zL j kc, zL) := rfl
theorem v_Mo_feed1V_L96_s (zM : Nat → Nat × Nat) (zI : Nat → Nat → Int32) (zL : Nat → Nat → Int64) (j : Nat) (kc : Nat) (bk : Int32) (k : Nat) (mm : Nat) (t : Nat) : v_Mo_feed1V_L96 zM zI zL j kc bk k mm (t + 1) = (v_Mo_feedByteV_zI zM ((v_Mo_feed1V_L96 zM zI zL j kc bk k mm t).1) ((v_Mo_feed1V_L96 zM zI zL j kc bk k mm t).2) j kc bk (k + t), v_Mo_feedByteV_zL zM ((v_Mo_feed1V_L96 zM zI zL j kc bk k mm t).1) ((v_Mo_feed1V_L96 zM zI zL j kc bk k mm t).2) j kc bk (k + t)) := rfl
noncomputable def v_Mo_feed1V (zM : Nat → Nat × Nat) (zI : Nat → Nat → Int32) (zL : Nat → Nat → Int64) (j : Nat) (kc : Nat) (bk : Int32) (k : Nat) (mm : Nat) : Int32 := (az_v ((v_Mo_feed1V_L96 zM zI zL j kc bk k mm mm).1) 10 j ((((v_Mo_feed1V_L96 zM zI zL j kc bk k mm mm).1) 10 j) + (nI mm))) 10 j
noncomputable def v_Mo_feed1V_zI (zM : Nat → Nat × Nat) (zI : Nat → Nat → Int32) (zL : Nat → Nat → Int64) (j : Nat) (kc : Nat) (bk : Int32) (k : Nat) (mm : Nat) : Nat → Nat → Int32 := az_v ((v_Mo_feed1V_L96 zM zI zL j kc bk k mm mm).1) 10 j ((((v_Mo_feed1V_L96 zM zI zL j kc bk k mm mm).1) 10 j) + (nI mm))
noncomputable def v_Mo_feed1V_zL (zM : Nat → Nat × Nat) (zI : Nat → Nat → Int32) (zL : Nat → Nat → Int64) (j : Nat) (kc : Nat) (bk : Int32) (k : Nat) (mm : Nat) : Nat → Nat → Int64 := (v_Mo_feed1V_L96 zM zI zL j kc bk k mm mm).2
abbrev ws_Mo_feed1V : List Cond := Cond.code y_Mo_feed b_Mo_feed 7 (some .int) :: aw_G
abbrev rm_Mo_feed1V : Room := { frames := 4, cells := 0, slots := 0, locals := 109 }
set_option maxHeartbeats 4000000 in
set_option maxRecDepth 100000 in
theorem k_Mo_feed1V (l : Launch) (D : va_G) (g : Nat → ClassId) (ad : Nat → Nat) (N0 : Nat) (zG : Nat → Nat × Nat) (zO : Nat → Nat) (zX : Nat → Nat → Int64) (zY : Nat → Nat → Int32) (zA : Nat → Nat → Nat → Int32) (zB : Nat → Int32) (zM : Nat → Nat × Nat) (zI : Nat → Nat → Int32) (zL : Nat → Nat → Int64) (zK : Int32) (zN : Nat) (zF : Int32) (zQ : Int64) (j : Nat) (kc : Nat) (bk : Int32) (k : Nat) (mm : Nat) (hj : j < 4) (hk : k + mm ≤ 64) (hs : (zM j).1 = 3) (hm : 2 ≤ (zM j).2) (hm5 : (zM j).2 ≤ 4) (hkc : kc < 5) (hci : zI 3 j = nI kc) : Met l y_Mo_feed ws_Mo_feed1V rm_Mo_feed1V (va_Pc ([.ref (aw_m ad 0), .int (nI j), .int bk, .int (nI k), .int (nI mm)] : List Value) (ag_B D g N0 (az_Sh g ad zG zO zX zY zA zB zM zI zL zK zN zF zQ))) (va_Qi (fun r (_ : Unit) => r = v_Mo_feed1V zM zI zL j kc bk k mm) (fun (_ : Unit) t => ag_H D N0 (az_Sh g ad zG zO zX zY zA zB zM (v_Mo_feed1V_zI zM zI zL j kc bk k mm) (v_Mo_feed1V_zL zM zI zL j kc bk k mm) (nI kc) (az_wn kc) (nI 0) zQ) t.heap) (aw_Z N0)) 0 0 (aw_Z N0) := by
  refine Met.ofW (cc := b_Mo_feed) (maxL := 7) (ret := (some .int)) (by decide) rfl ?_
  intro p e s m args below meth c s₁ B hml hv
  obtain ⟨rfl, ⟨L, hP, hD, hSh⟩, hU⟩ := hv
  have hx := B.exec
  have hb := B.bytes
  have hr := B.returns
  have hG : ∀ w ∈ aw_G, w.before _ s = true := fun w h => atoms_spec (ws := ws_Mo_feed1V) B.pre w (List.mem_cons_of_mem _ h)
  have hown : s.vm.findClass "RuleCiphersModel" = some m.cls := findClass_of_methodNamed B.named
  have hlocks := B.notSynchronized
  have hE := hU.1
  have hK := hE.1
  have hN := hE.2.1
  have hS : va_S (aw_Z N0) s.heap s.heap [] := va_S.rf
  have hl := lv_entry ([.ref (aw_m ad 0), .int (nI j), .int bk, .int (nI k), .int (nI mm)] : List Value) (n := 7) (Nat.le_of_ble_eq_true rfl)
  rw [lg_entry_eq]
  generalize (lg_sl ([.ref (aw_m ad 0), .int (nI j), .int bk, .int (nI k), .int (nI mm)] : List Value) ++ List.replicate (7 - (lg_sl ([.ref (aw_m ad 0), .int (nI j), .int bk, .int (nI k), .int (nI mm)] : List Value)).length) Slot.unset).toArray = ls at hl ⊢
  have hl : lv_has ls 7 [(0, .ref (aw_m ad 0)), (1, .int (nI j)), (2, .int bk), (3, .int (nI k)), (4, .int (nI mm))] := hl
  refine lv_iload_n hx hb d_Mo_feed_0 rfl (lv_at hl 1 rfl) ?_
  refine aw_ci ((va_runS (As := [.int (nI j)]) (rest := []) ⟨hx, hb, hml, hown, hG⟩ (k_Mo_isContext1 l j hj) (aw_wS 1 hG gw_10_34 gw_10_32 gw_0_10 gw_10_33 rfl rfl hd_Mo_isContext ⟨Nat.le_of_ble_eq_true rfl, Nat.le_of_ble_eq_true rfl⟩) aw_p0 rfl rfl hl.1 rfl (lv_room (Nat.le_of_ble_eq_true rfl)) d_Mo_feed_1 ⟨Nat.le_of_ble_eq_true rfl, Nat.le_of_ble_eq_true rfl⟩).run) (fun x1 hx1 => ?_)
  subst hx1
  refine lv_if_eq (tgt := 20) hx hb d_Mo_feed_4 (by decide) (fun h => absurd h (by decide +kernel)) (fun _ => ?_)
  refine lv_iload_n hx hb d_Mo_feed_7 rfl (lv_at hl 3 rfl) ?_
  refine lv_iload hx hb d_Mo_feed_8 (lv_at hl 4 rfl) ?_
  refine aw_ci ((va_runS (As := [.int (nI k), .int (nI mm)]) (rest := []) ⟨hx, hb, hml, hown, hG⟩ (k_Mo_isPart1 l k mm hk) (aw_wS 2 hG gw_12_29 gw_12_27 gw_0_10 gw_12_28 rfl rfl hd_Mo_isPart ⟨Nat.le_of_ble_eq_true rfl, Nat.le_of_ble_eq_true rfl⟩) aw_p0 rfl rfl hl.1 rfl (lv_room (Nat.le_of_ble_eq_true rfl)) d_Mo_feed_10 ⟨Nat.le_of_ble_eq_true rfl, Nat.le_of_ble_eq_true rfl⟩).run) (fun x2 hx2 => ?_)
  subst hx2
  refine lv_if_eq (tgt := 20) hx hb d_Mo_feed_13 (by decide) (fun h => absurd h (by decide +kernel)) (fun _ => ?_)
  refine lv_iconst (v := nI 1) hx hb d_Mo_feed_16 (by decide +kernel) ?_
  refine lv_goto (tgt := 21) hx hb d_Mo_feed_17 (by decide) ?_
  refine lv_istore hx hb d_Mo_feed_21 hl (by decide) rfl (fun ls hl => ?_)
  have hl : lv_has ls 7 [(5, .int (nI 1)), (0, .ref (aw_m ad 0)), (1, .int (nI j)), (2, .int bk), (3, .int (nI k)), (4, .int (nI mm))] := hl
  refine lv_aload_n hx hb d_Mo_feed_23 rfl (lv_at hl 1 rfl) ?_
  refine lv_iload hx hb d_Mo_feed_24 (lv_at hl 0 rfl) ?_
  refine lv_if_ne (tgt := 33) hx hb d_Mo_feed_26 (by decide) (fun _ => ?_) (fun h => absurd h (by decide +kernel))
  refine lv_aload_n hx hb d_Mo_feed_33 rfl (lv_at hl 1 rfl) ?_
  obtain ⟨hsd4, he3⟩ := zr_M0 hSh
  refine va_get (C := R_Mo) (T := T_Mo) (N := 19) (v := .ref (aw_m ad 2)) hx hb hG in_Mo hown hK hP 67 he3 rfl 2 (by decide) (hG _ gw_9_27) (fun _ h => h) rfl d_Mo_feed_34 ?_
  clear he3
  refine lv_iload_n hx hb d_Mo_feed_37 rfl (lv_at hl 2 rfl) ?_
  obtain ⟨hsd6, he5⟩ := zr_M2 hSh
  refine aw_ild hx hb hK hP 69 0 he5 rfl (k := j) (by omega) (by decide) d_Mo_feed_38 ?_
  clear he5
  refine aw_ti (y := nI (zM j).1) (hsd6 _ (by omega)) ?_
  have hm := hSh.2.2.2.2.2 j (by omega)
  refine lv_iconst (v := nI 3) hx hb d_Mo_feed_39 (by decide +kernel) ?_
  refine lv_icmp_ne (tgt := 53) hx hb d_Mo_feed_40 (by decide) (fun h => absurd (show nI ((zM j).1) = nI 3 from (nI_eq (by omega) (by omega)).mpr (by omega)) h) (fun _ => ?_)
  refine lv_aload_n hx hb d_Mo_feed_43 rfl (lv_at hl 1 rfl) ?_
  obtain ⟨hsd8, he7⟩ := zr_M0 hSh
  refine va_get (C := R_Mo) (T := T_Mo) (N := 19) (v := .ref (aw_m ad 6)) hx hb hG in_Mo hown hK hP 67 he7 rfl 6 (by decide) (hG _ gw_9_31) (fun _ h => h) rfl d_Mo_feed_44 ?_
  clear he7
  refine lv_iload_n hx hb d_Mo_feed_47 rfl (lv_at hl 2 rfl) ?_
  obtain ⟨hsd10, he9⟩ := zr_M6 hSh
  refine aw_ild hx hb hK hP 73 0 he9 rfl (k := j) (by omega) (by decide) d_Mo_feed_48 ?_
  clear he9
  refine aw_ti (y := nI (zM j).2) (hsd10 _ (by omega)) ?_
  have hm := hSh.2.2.2.2.2 j (by omega)
  refine lv_iconst (v := nI 5) hx hb d_Mo_feed_49 (by decide +kernel) ?_
  refine lv_icmp_ne (tgt := 57) hx hb d_Mo_feed_50 (by decide) (fun _ => ?_) (fun h => absurd h (show ¬ nI ((zM j).2) = nI 5 from fun h9 => absurd ((nI_eq (by omega) (by omega)).mp h9) (by omega)))
  refine lv_aload_n hx hb d_Mo_feed_57 rfl (lv_at hl 1 rfl) ?_
  obtain ⟨hsd12, he11⟩ := zr_M0 hSh
  refine va_get (C := R_Mo) (T := T_Mo) (N := 19) (v := .ref (aw_m ad 6)) hx hb hG in_Mo hown hK hP 67 he11 rfl 6 (by decide) (hG _ gw_9_31) (fun _ h => h) rfl d_Mo_feed_58 ?_
  clear he11
  refine lv_iload_n hx hb d_Mo_feed_61 rfl (lv_at hl 2 rfl) ?_
  obtain ⟨hsd14, he13⟩ := zr_M6 hSh
  refine aw_ild hx hb hK hP 73 0 he13 rfl (k := j) (by omega) (by decide) d_Mo_feed_62 ?_
  clear he13
  refine aw_ti (y := nI (zM j).2) (hsd14 _ (by omega)) ?_
  have hm := hSh.2.2.2.2.2 j (by omega)
  refine lv_iconst (v := nI 2) hx hb d_Mo_feed_63 (by decide +kernel) ?_
  refine lv_icmp_ge (tgt := 79) hx hb d_Mo_feed_64 (by decide) (fun _ => ?_) (fun h => absurd (show nI 2 ≤ nI ((zM j).2) from (nI_leI (by omega) (by omega)).mpr (by omega)) h)
  refine lv_iconst (v := nI 0) hx hb d_Mo_feed_79 (by decide +kernel) ?_
  obtain ⟨_, he15⟩ := zr_M0 hSh
  refine va_calli (va_runV (As := [.int (nI 0)]) (rest := []) ⟨hx, hb, hml, hown, hG⟩ (k_Mo_refused0V l D g ad N0 zG zO zX zY zA zB zM zI zL zK zN zF zQ) (aw_wV 1 hG gw_10_37 gw_10_35 gw_0_10 gw_10_36 gw_p_9 rfl rfl hd_Mo_refused ⟨Nat.le_of_ble_eq_true rfl, Nat.le_of_ble_eq_true rfl⟩) (ag_qV (va_recv hK hP rfl he15) hP hD hSh hU hS) rfl rfl hl.1 rfl (lv_room (Nat.le_of_ble_eq_true rfl)) d_Mo_feed_80 ⟨Nat.le_of_ble_eq_true rfl, Nat.le_of_ble_eq_true rfl⟩) hS (fun _ _ h => h) (fun _ h => h) ?_
  clear hP hD hSh hS he15
  intro x16 u8 t8 H locs ht _ ex16 hB _ _ hS
  obtain ⟨L, hP, hD, hSh⟩ := hB
  rw [ht] at hP
  clear ht
  subst ex16
  refine lv_if_eq (tgt := 88) hx hb d_Mo_feed_83 (by decide) (fun _ => ?_) (fun h => absurd (by decide +kernel) h)
  refine lv_aload_n hx hb d_Mo_feed_88 rfl (lv_at hl 1 rfl) ?_
  refine lv_iload_n hx hb d_Mo_feed_89 rfl (lv_at hl 2 rfl) ?_
  obtain ⟨_, he17⟩ := zr_M0 hSh
  refine va_callv (va_runV (As := [.int (nI j)]) (rest := []) ⟨hx, hb, hml, hown, hG⟩ (k_Mo_prepareJV l D g ad N0 zG zO zX zY zA zB zM zI zL zK zN (nI 0) zQ j kc hj hkc hci) (aw_wV 1 hG gw_11_6 gw_11_4 gw_0_10 gw_11_5 gw_p_12 rfl rfl hd_Mo_prepare ⟨Nat.le_of_ble_eq_true rfl, Nat.le_of_ble_eq_true rfl⟩) (ag_qV (va_recv hK hP rfl he17) hP hD hSh hU hS) rfl rfl hl.1 rfl (lv_room (Nat.le_of_ble_eq_true rfl)) d_Mo_feed_90 ⟨Nat.le_of_ble_eq_true rfl, Nat.le_of_ble_eq_true rfl⟩) hS (fun _ _ h => h) (fun _ h => h) ?_
  clear hP hD hSh hS he17
  intro u8 t8 H locs ht _ _ hB _ _ hS
  obtain ⟨L, hP, hD, hSh⟩ := hB
  rw [ht] at hP
  clear ht
  obtain ⟨zI18, ezI18⟩ : ∃ z : Nat → Nat → Int32, v_Mo_prepareJV_zI zI zL j kc = z := ⟨_, rfl⟩
  rw [ezI18] at hSh
  refine lv_iconst (v := nI 0) hx hb d_Mo_feed_93 (by decide +kernel) ?_
  refine lv_istore hx hb d_Mo_feed_94 hl (by decide) rfl (fun ls hl => ?_)
  have hl : lv_has ls 7 [(6, .int (nI 0)), (5, .int (nI 1)), (0, .ref (aw_m ad 0)), (1, .int (nI j)), (2, .int bk), (3, .int (nI k)), (4, .int (nI mm))] := hl
  have L96 : ∀ (d t : Nat) (H : Heap) (locs : List Loc) (L : va_W) (ls : Array Slot), t + d = mm → va_P D aw_C L H → va_D (aw_Z N0) L → az_Sh g ad zG zO zX zY zA zB zM ((v_Mo_feed1V_L96 zM zI zL j kc bk k mm t).1) ((v_Mo_feed1V_L96 zM zI zL j kc bk k mm t).2) (nI kc) (az_wn kc) (nI 0) zQ L → va_S (aw_Z N0) s.heap H locs → lv_has ls 7 [(0, .ref (aw_m ad 0)), (1, .int (nI j)), (2, .int bk), (3, .int (nI k)), (4, .int (nI mm)), (5, .int (nI 1)), (6, .int (nI t))] → W p l e (headSpec ws_Mo_feed1V rm_Mo_feed1V).room s m ([.ref (aw_m ad 0), .int (nI j), .int bk, .int (nI k), .int (nI mm)] : List Value).toArray below meth c H locs 0 0 (MQ below (va_Qi (fun r (_ : Unit) => r = v_Mo_feed1V zM zI zL j kc bk k mm) (fun (_ : Unit) t => ag_H D N0 (az_Sh g ad zG zO zX zY zA zB zM (v_Mo_feed1V_zI zM zI zL j kc bk k mm) (v_Mo_feed1V_zL zM zI zL j kc bk k mm) (nI kc) (az_wn kc) (nI 0) zQ) t.heap) (aw_Z N0)) ([.ref (aw_m ad 0), .int (nI j), .int bk, .int (nI k), .int (nI mm)] : List Value).toArray s 0 0 (aw_Z N0)) (F0 m 96 ls []) := by
    clear hl hP hD hSh hS
    intro d
    induction d with
    | zero =>
      intro t H locs L ls ht0 hP hD hSh hS hl
      have ht1 : t = mm := by omega
      rw [ht1] at hl
      rw [ht1] at hSh
      refine lv_iload hx hb d_Mo_feed_96 (lv_at hl 6 rfl) ?_
      refine lv_iload hx hb d_Mo_feed_98 (lv_at hl 4 rfl) ?_
      refine lv_icmp_ge (tgt := 150) hx hb d_Mo_feed_100 (by decide) (fun _ => ?_) (fun h => absurd (show nI mm ≤ nI mm from (nI_leI (by omega) (by omega)).mpr (by omega)) h)
      refine lv_aload_n hx hb d_Mo_feed_150 rfl (lv_at hl 0 rfl) ?_
      obtain ⟨hsd20, he19⟩ := zr_M0 hSh
      refine va_get (C := R_Mo) (T := T_Mo) (N := 19) (v := .ref (aw_m ad 10)) hx hb hG in_Mo hown hK hP 67 he19 rfl 10 (by decide) (hG _ gw_9_35) (fun _ h => h) rfl d_Mo_feed_151 ?_
      clear he19
      refine lv_iload_n hx hb d_Mo_feed_154 rfl (lv_at hl 1 rfl) ?_
      refine lv_aload_n hx hb d_Mo_feed_155 rfl (lv_at hl 0 rfl) ?_
      obtain ⟨hsd22, he21⟩ := zr_M0 hSh
      refine va_get (C := R_Mo) (T := T_Mo) (N := 19) (v := .ref (aw_m ad 10)) hx hb hG in_Mo hown hK hP 67 he21 rfl 10 (by decide) (hG _ gw_9_35) (fun _ h => h) rfl d_Mo_feed_156 ?_
      clear he21
      refine lv_iload_n hx hb d_Mo_feed_159 rfl (lv_at hl 1 rfl) ?_
      have he23 := zr_M10 hSh
      refine aw_ild hx hb hK hP 77 0 he23 rfl (k := j) (by omega) (by decide) d_Mo_feed_160 ?_
      clear he23
      refine ag_topi (fun x24 ex24 => ?_)
      refine lv_iload hx hb d_Mo_feed_161 (lv_at hl 4 rfl) ?_
      refine lv_iadd hx hb d_Mo_feed_163 ?_
      refine ag_topi (fun x25 ex25 => ?_)
      have he26 := zr_M10 hSh
      refine ag_ist hx hb hK hP hD hS 77 0 he26 rfl (k := j) (by omega) (by decide) d_Mo_feed_164 (zw_I10w hSh j x25) ?_
      clear hP hD hSh hS he26
      intro H locs L hP hD hSh hS
      obtain ⟨zI27, ezI27⟩ : ∃ z : Nat → Nat → Int32, az_v ((v_Mo_feed1V_L96 zM zI zL j kc bk k mm mm).1) 10 j x25 = z := ⟨_, rfl⟩
      rw [ezI27] at hSh
      refine lv_aload_n hx hb d_Mo_feed_165 rfl (lv_at hl 0 rfl) ?_
      obtain ⟨hsd29, he28⟩ := zr_M0 hSh
      refine va_get (C := R_Mo) (T := T_Mo) (N := 19) (v := .ref (aw_m ad 10)) hx hb hG in_Mo hown hK hP 67 he28 rfl 10 (by decide) (hG _ gw_9_35) (fun _ h => h) rfl d_Mo_feed_166 ?_
      clear he28
      refine lv_iload_n hx hb d_Mo_feed_169 rfl (lv_at hl 1 rfl) ?_
      have he30 := zr_M10 hSh
      refine aw_ild hx hb hK hP 77 0 he30 rfl (k := j) (by omega) (by decide) d_Mo_feed_170 ?_
      clear he30
      refine ag_topi (fun x31 ex31 => ?_)
      have gzI : zI27 = v_Mo_feed1V_zI zM zI zL j kc bk k mm := by subst ex31 ezI27 ex25 ex24 ezI18; rfl
      have gzL : (v_Mo_feed1V_L96 zM zI zL j kc bk k mm mm).2 = v_Mo_feed1V_zL zM zI zL j kc bk k mm := by subst ex31 ezI27 ex25 ex24 ezI18; rfl
      have hSh : az_Sh g ad zG zO zX zY zA zB zM (v_Mo_feed1V_zI zM zI zL j kc bk k mm) (v_Mo_feed1V_zL zM zI zL j kc bk k mm) (nI kc) (az_wn kc) (nI 0) zQ L := by rw [← gzI, ← gzL]; exact hSh
      exact W.iret hx hb hr (fun t ht hW => ⟨⟨_, (), rfl, (by subst ex31 ezI27 ex25 ex24 ezI18; rfl), ag_Hr ht hP hD hSh⟩, hS.F ht⟩) hS.2.2 d_Mo_feed_171
    | succ d ih =>
      intro t H locs L ls ht0 hP hD hSh hS hl
      refine lv_iload hx hb d_Mo_feed_96 (lv_at hl 6 rfl) ?_
      refine lv_iload hx hb d_Mo_feed_98 (lv_at hl 4 rfl) ?_
      refine lv_icmp_ge (tgt := 150) hx hb d_Mo_feed_100 (by decide) (fun h => absurd h (show ¬ nI mm ≤ nI t from fun h9 => absurd ((nI_leI (by omega) (by omega)).mp h9) (by omega))) (fun _ => ?_)
      refine lv_aload_n hx hb d_Mo_feed_103 rfl (lv_at hl 0 rfl) ?_
      obtain ⟨hsd33, he32⟩ := zr_M0 hSh
      refine va_get (C := R_Mo) (T := T_Mo) (N := 19) (v := .ref (aw_m ad 6)) hx hb hG in_Mo hown hK hP 67 he32 rfl 6 (by decide) (hG _ gw_9_31) (fun _ h => h) rfl d_Mo_feed_104 ?_
      clear he32
      refine lv_iload_n hx hb d_Mo_feed_107 rfl (lv_at hl 1 rfl) ?_
      obtain ⟨hsd35, he34⟩ := zr_M6 hSh
      refine aw_ild hx hb hK hP 73 0 he34 rfl (k := j) (by omega) (by decide) d_Mo_feed_108 ?_
      clear he34
      refine aw_ti (y := nI (zM j).2) (hsd35 _ (by omega)) ?_
      have hm := hSh.2.2.2.2.2 j (by omega)
      refine lv_iconst (v := nI 1) hx hb d_Mo_feed_109 (by decide +kernel) ?_
      refine lv_icmp_le (tgt := 126) hx hb d_Mo_feed_110 (by decide) (fun h => absurd h (show ¬ nI ((zM j).2) ≤ nI 1 from fun h9 => absurd ((nI_leI (by omega) (by omega)).mp h9) (by omega))) (fun _ => ?_)
      refine lv_aload_n hx hb d_Mo_feed_113 rfl (lv_at hl 0 rfl) ?_
      refine lv_iload_n hx hb d_Mo_feed_114 rfl (lv_at hl 1 rfl) ?_
      refine lv_iload_n hx hb d_Mo_feed_115 rfl (lv_at hl 2 rfl) ?_
      refine lv_iload_n hx hb d_Mo_feed_116 rfl (lv_at hl 3 rfl) ?_
      refine lv_iload hx hb d_Mo_feed_117 (lv_at hl 6 rfl) ?_
      refine lv_iadd hx hb d_Mo_feed_119 ?_
      refine aw_ti (nI_add k t) ?_
      obtain ⟨_, he36⟩ := zr_M0 hSh
      refine va_callv (va_runV (As := [.int (nI j), .int bk, .int (nI (k + t))]) (rest := []) ⟨hx, hb, hml, hown, hG⟩ (k_Mo_feedByteV l D g ad N0 zG zO zX zY zA zB zM ((v_Mo_feed1V_L96 zM zI zL j kc bk k mm t).1) ((v_Mo_feed1V_L96 zM zI zL j kc bk k mm t).2) (az_wn kc) (nI 0) zQ j kc bk (k + t) hj (by omega) hkc) (aw_wV 3 hG gw_12_32 gw_12_30 gw_0_10 gw_12_31 gw_p_20 rfl rfl hd_Mo_feedByte ⟨Nat.le_of_ble_eq_true rfl, Nat.le_of_ble_eq_true rfl⟩) (ag_qV (va_recv hK hP rfl he36) hP hD hSh hU hS) rfl rfl hl.1 rfl (lv_room (Nat.le_of_ble_eq_true rfl)) d_Mo_feed_120 ⟨Nat.le_of_ble_eq_true rfl, Nat.le_of_ble_eq_true rfl⟩) hS (fun _ _ h => h) (fun _ h => h) ?_
      clear hP hD hSh hS he36
      intro u8 t8 H locs ht _ _ hB _ _ hS
      obtain ⟨L, hP, hD, hSh⟩ := hB
      rw [ht] at hP
      clear ht
      obtain ⟨zI37, ezI37⟩ : ∃ z : Nat → Nat → Int32, v_Mo_feedByteV_zI zM ((v_Mo_feed1V_L96 zM zI zL j kc bk k mm t).1) ((v_Mo_feed1V_L96 zM zI zL j kc bk k mm t).2) j kc bk (k + t) = z := ⟨_, rfl⟩
      rw [ezI37] at hSh
      obtain ⟨zL38, ezL38⟩ : ∃ z : Nat → Nat → Int64, v_Mo_feedByteV_zL zM ((v_Mo_feed1V_L96 zM zI zL j kc bk k mm t).1) ((v_Mo_feed1V_L96 zM zI zL j kc bk k mm t).2) j kc bk (k + t) = z := ⟨_, rfl⟩
      rw [ezL38] at hSh
      refine lv_goto (tgt := 144) hx hb d_Mo_feed_123 (by decide) ?_
      refine lv_iinc (k := 6) (v := nI (t + 1)) hx hb d_Mo_feed_144 hl rfl (aw_inc t 1 1 (by decide +kernel)) (by decide) rfl (fun ls hl => ?_)
      have hl : lv_has ls 7 [(6, .int (nI (t + 1))), (0, .ref (aw_m ad 0)), (1, .int (nI j)), (2, .int bk), (3, .int (nI k)), (4, .int (nI mm)), (5, .int (nI 1))] := hl
      refine lv_goto (tgt := 96) hx hb d_Mo_feed_147 (by decide) ?_
      have hl := lv_sub hl (l' := [(0, .ref (aw_m ad 0)), (1, .int (nI j)), (2, .int bk), (3, .int (nI k)), (4, .int (nI mm)), (5, .int (nI 1)), (6, .int (nI (t + 1)))]) [1, 2, 3, 4, 5, 6, 0] rfl
      have g0 : zI37 = (v_Mo_feed1V_L96 zM zI zL j kc bk k mm (t + 1)).1 := by subst ezL38 ezI37 ezI18; (rw [v_Mo_feed1V_L96_s]) <;> rfl
      have g1 : zL38 = (v_Mo_feed1V_L96 zM zI zL j kc bk k mm (t + 1)).2 := by subst ezL38 ezI37 ezI18; (rw [v_Mo_feed1V_L96_s]) <;> rfl
      have hSh : az_Sh g ad zG zO zX zY zA zB zM ((v_Mo_feed1V_L96 zM zI zL j kc bk k mm (t + 1)).1) ((v_Mo_feed1V_L96 zM zI zL j kc bk k mm (t + 1)).2) (nI kc) (az_wn kc) (nI 0) zQ L := by rw [← g0, ← g1]; exact hSh
      exact ih (t + 1) H locs L ls (by omega) hP hD hSh hS (by first | exact hl | simpa [Nat.add_assoc, Nat.mul_add, Nat.add_comm] using hl)
  have hl := lv_sub hl (l' := [(0, .ref (aw_m ad 0)), (1, .int (nI j)), (2, .int bk), (3, .int (nI k)), (4, .int (nI mm)), (5, .int (nI 1)), (6, .int (nI 0))]) [2, 3, 4, 5, 6, 1, 0] rfl
  have g0 : zI18 = (v_Mo_feed1V_L96 zM zI zL j kc bk k mm 0).1 := by subst ezI18; (rw [v_Mo_feed1V_L96_z]) <;> rfl
  have g1 : zL = (v_Mo_feed1V_L96 zM zI zL j kc bk k mm 0).2 := by subst ezI18; (rw [v_Mo_feed1V_L96_z]) <;> rfl
  have hSh : az_Sh g ad zG zO zX zY zA zB zM ((v_Mo_feed1V_L96 zM zI zL j kc bk k mm 0).1) ((v_Mo_feed1V_L96 zM zI zL j kc bk k mm 0).2) (nI kc) (az_wn kc) (nI 0) zQ L := by rw [← g0, ← g1]; exact hSh
  exact L96 mm 0 _ _ L ls (by omega) hP hD hSh hS (by first | exact hl | simpa using hl)
noncomputable def v_Mo_feed8V_L96 (zM : Nat → Nat × Nat) (zI : Nat → Nat → Int32) (zL : Nat → Nat → Int64) (j : Nat) (kc : Nat) (bk : Int32) (k : Nat) (mm : Nat) (t : Nat) : (Nat → Nat → Int32) × (Nat → Nat → Int64) := Nat.rec (motive := fun _ => (Nat → Nat → Int32) × (Nat → Nat → Int64)) (v_Mo_prepareJV_zI zI zL j kc, zL) (fun t s => (if (nI (t % 8)) = 0 then (v_Mo_feedBlockV_zI zM (s.1) (s.2) j kc bk (k + t), v_Mo_feedBlockV_zL zM (s.1) (s.2) j kc bk (k + t)) else (s.1, s.2))) t
theorem v_Mo_feed8V_L96_z (zM : Nat → Nat × Nat) (zI : Nat → Nat → Int32) (zL : Nat → Nat → Int64) (j : Nat) (kc : Nat) (bk : Int32) (k : Nat) (mm : Nat) : v_Mo_feed8V_L96 zM zI zL j kc bk k mm 0 = (v_Mo_prepareJV_zI zI zL j kc, zL) := rfl
theorem v_Mo_feed8V_L96_s (zM : Nat → Nat × Nat) (zI : Nat → Nat → Int32) (zL : Nat → Nat → Int64) (j : Nat) (kc : Nat) (bk : Int32) (k : Nat) (mm : Nat) (t : Nat) : v_Mo_feed8V_L96 zM zI zL j kc bk k mm (t + 1) = (if (nI (t % 8)) = 0 then (v_Mo_feedBlockV_zI zM ((v_Mo_feed8V_L96 zM zI zL j kc bk k mm t).1) ((v_Mo_feed8V_L96 zM zI zL j kc bk k mm t).2) j kc bk (k + t), v_Mo_feedBlockV_zL zM ((v_Mo_feed8V_L96 zM zI zL j kc bk k mm t).1) ((v_Mo_feed8V_L96 zM zI zL j kc bk k mm t).2) j kc bk (k + t)) else ((v_Mo_feed8V_L96 zM zI zL j kc bk k mm t).1, (v_Mo_feed8V_L96 zM zI zL j kc bk k mm t).2)) := rfl
noncomputable def v_Mo_feed8V (zM : Nat → Nat × Nat) (zI : Nat → Nat → Int32) (zL : Nat → Nat → Int64) (j : Nat) (kc : Nat) (bk : Int32) (k : Nat) (mm : Nat) : Int32 := (az_v ((v_Mo_feed8V_L96 zM zI zL j kc bk k mm mm).1) 10 j ((((v_Mo_feed8V_L96 zM zI zL j kc bk k mm mm).1) 10 j) + (nI mm))) 10 j
noncomputable def v_Mo_feed8V_zI (zM : Nat → Nat × Nat) (zI : Nat → Nat → Int32) (zL : Nat → Nat → Int64) (j : Nat) (kc : Nat) (bk : Int32) (k : Nat) (mm : Nat) : Nat → Nat → Int32 := az_v ((v_Mo_feed8V_L96 zM zI zL j kc bk k mm mm).1) 10 j ((((v_Mo_feed8V_L96 zM zI zL j kc bk k mm mm).1) 10 j) + (nI mm))
noncomputable def v_Mo_feed8V_zL (zM : Nat → Nat × Nat) (zI : Nat → Nat → Int32) (zL : Nat → Nat → Int64) (j : Nat) (kc : Nat) (bk : Int32) (k : Nat) (mm : Nat) : Nat → Nat → Int64 := (v_Mo_feed8V_L96 zM zI zL j kc bk k mm mm).2
abbrev ws_Mo_feed8V : List Cond := Cond.code y_Mo_feed b_Mo_feed 7 (some .int) :: aw_G
abbrev rm_Mo_feed8V : Room := { frames := 5, cells := 0, slots := 0, locals := 130 }
set_option maxHeartbeats 4000000 in
set_option maxRecDepth 100000 in
theorem k_Mo_feed8V (l : Launch) (D : va_G) (g : Nat → ClassId) (ad : Nat → Nat) (N0 : Nat) (zG : Nat → Nat × Nat) (zO : Nat → Nat) (zX : Nat → Nat → Int64) (zY : Nat → Nat → Int32) (zA : Nat → Nat → Nat → Int32) (zB : Nat → Int32) (zM : Nat → Nat × Nat) (zI : Nat → Nat → Int32) (zL : Nat → Nat → Int64) (zK : Int32) (zN : Nat) (zF : Int32) (zQ : Int64) (j : Nat) (kc : Nat) (bk : Int32) (k : Nat) (mm : Nat) (hj : j < 4) (hk : k + mm ≤ 64) (hs : (zM j).1 = 3) (hm : (zM j).2 ≤ 1) (hr8 : mm % 8 = 0) (hkc : kc < 5) (hci : zI 3 j = nI kc) : Met l y_Mo_feed ws_Mo_feed8V rm_Mo_feed8V (va_Pc ([.ref (aw_m ad 0), .int (nI j), .int bk, .int (nI k), .int (nI mm)] : List Value) (ag_B D g N0 (az_Sh g ad zG zO zX zY zA zB zM zI zL zK zN zF zQ))) (va_Qi (fun r (_ : Unit) => r = v_Mo_feed8V zM zI zL j kc bk k mm) (fun (_ : Unit) t => ag_H D N0 (az_Sh g ad zG zO zX zY zA zB zM (v_Mo_feed8V_zI zM zI zL j kc bk k mm) (v_Mo_feed8V_zL zM zI zL j kc bk k mm) (nI kc) (az_wn kc) (nI 0) zQ) t.heap) (aw_Z N0)) 0 0 (aw_Z N0) := by
  refine Met.ofW (cc := b_Mo_feed) (maxL := 7) (ret := (some .int)) (by decide) rfl ?_
  intro p e s m args below meth c s₁ B hml hv
  obtain ⟨rfl, ⟨L, hP, hD, hSh⟩, hU⟩ := hv
  have hx := B.exec
  have hb := B.bytes
  have hr := B.returns
  have hG : ∀ w ∈ aw_G, w.before _ s = true := fun w h => atoms_spec (ws := ws_Mo_feed8V) B.pre w (List.mem_cons_of_mem _ h)
  have hown : s.vm.findClass "RuleCiphersModel" = some m.cls := findClass_of_methodNamed B.named
  have hlocks := B.notSynchronized
  have hE := hU.1
  have hK := hE.1
  have hN := hE.2.1
  have hS : va_S (aw_Z N0) s.heap s.heap [] := va_S.rf
  have hl := lv_entry ([.ref (aw_m ad 0), .int (nI j), .int bk, .int (nI k), .int (nI mm)] : List Value) (n := 7) (Nat.le_of_ble_eq_true rfl)
  rw [lg_entry_eq]
  generalize (lg_sl ([.ref (aw_m ad 0), .int (nI j), .int bk, .int (nI k), .int (nI mm)] : List Value) ++ List.replicate (7 - (lg_sl ([.ref (aw_m ad 0), .int (nI j), .int bk, .int (nI k), .int (nI mm)] : List Value)).length) Slot.unset).toArray = ls at hl ⊢
  have hl : lv_has ls 7 [(0, .ref (aw_m ad 0)), (1, .int (nI j)), (2, .int bk), (3, .int (nI k)), (4, .int (nI mm))] := hl
  refine lv_iload_n hx hb d_Mo_feed_0 rfl (lv_at hl 1 rfl) ?_
  refine aw_ci ((va_runS (As := [.int (nI j)]) (rest := []) ⟨hx, hb, hml, hown, hG⟩ (k_Mo_isContext1 l j hj) (aw_wS 1 hG gw_10_34 gw_10_32 gw_0_10 gw_10_33 rfl rfl hd_Mo_isContext ⟨Nat.le_of_ble_eq_true rfl, Nat.le_of_ble_eq_true rfl⟩) aw_p0 rfl rfl hl.1 rfl (lv_room (Nat.le_of_ble_eq_true rfl)) d_Mo_feed_1 ⟨Nat.le_of_ble_eq_true rfl, Nat.le_of_ble_eq_true rfl⟩).run) (fun x1 hx1 => ?_)
  subst hx1
  refine lv_if_eq (tgt := 20) hx hb d_Mo_feed_4 (by decide) (fun h => absurd h (by decide +kernel)) (fun _ => ?_)
  refine lv_iload_n hx hb d_Mo_feed_7 rfl (lv_at hl 3 rfl) ?_
  refine lv_iload hx hb d_Mo_feed_8 (lv_at hl 4 rfl) ?_
  refine aw_ci ((va_runS (As := [.int (nI k), .int (nI mm)]) (rest := []) ⟨hx, hb, hml, hown, hG⟩ (k_Mo_isPart1 l k mm hk) (aw_wS 2 hG gw_12_29 gw_12_27 gw_0_10 gw_12_28 rfl rfl hd_Mo_isPart ⟨Nat.le_of_ble_eq_true rfl, Nat.le_of_ble_eq_true rfl⟩) aw_p0 rfl rfl hl.1 rfl (lv_room (Nat.le_of_ble_eq_true rfl)) d_Mo_feed_10 ⟨Nat.le_of_ble_eq_true rfl, Nat.le_of_ble_eq_true rfl⟩).run) (fun x2 hx2 => ?_)
  subst hx2
  refine lv_if_eq (tgt := 20) hx hb d_Mo_feed_13 (by decide) (fun h => absurd h (by decide +kernel)) (fun _ => ?_)
  refine lv_iconst (v := nI 1) hx hb d_Mo_feed_16 (by decide +kernel) ?_
  refine lv_goto (tgt := 21) hx hb d_Mo_feed_17 (by decide) ?_
  refine lv_istore hx hb d_Mo_feed_21 hl (by decide) rfl (fun ls hl => ?_)
  have hl : lv_has ls 7 [(5, .int (nI 1)), (0, .ref (aw_m ad 0)), (1, .int (nI j)), (2, .int bk), (3, .int (nI k)), (4, .int (nI mm))] := hl
  refine lv_aload_n hx hb d_Mo_feed_23 rfl (lv_at hl 1 rfl) ?_
  refine lv_iload hx hb d_Mo_feed_24 (lv_at hl 0 rfl) ?_
  refine lv_if_ne (tgt := 33) hx hb d_Mo_feed_26 (by decide) (fun _ => ?_) (fun h => absurd h (by decide +kernel))
  refine lv_aload_n hx hb d_Mo_feed_33 rfl (lv_at hl 1 rfl) ?_
  obtain ⟨hsd4, he3⟩ := zr_M0 hSh
  refine va_get (C := R_Mo) (T := T_Mo) (N := 19) (v := .ref (aw_m ad 2)) hx hb hG in_Mo hown hK hP 67 he3 rfl 2 (by decide) (hG _ gw_9_27) (fun _ h => h) rfl d_Mo_feed_34 ?_
  clear he3
  refine lv_iload_n hx hb d_Mo_feed_37 rfl (lv_at hl 2 rfl) ?_
  obtain ⟨hsd6, he5⟩ := zr_M2 hSh
  refine aw_ild hx hb hK hP 69 0 he5 rfl (k := j) (by omega) (by decide) d_Mo_feed_38 ?_
  clear he5
  refine aw_ti (y := nI (zM j).1) (hsd6 _ (by omega)) ?_
  have hm := hSh.2.2.2.2.2 j (by omega)
  refine lv_iconst (v := nI 3) hx hb d_Mo_feed_39 (by decide +kernel) ?_
  refine lv_icmp_ne (tgt := 53) hx hb d_Mo_feed_40 (by decide) (fun h => absurd (show nI ((zM j).1) = nI 3 from (nI_eq (by omega) (by omega)).mpr (by omega)) h) (fun _ => ?_)
  refine lv_aload_n hx hb d_Mo_feed_43 rfl (lv_at hl 1 rfl) ?_
  obtain ⟨hsd8, he7⟩ := zr_M0 hSh
  refine va_get (C := R_Mo) (T := T_Mo) (N := 19) (v := .ref (aw_m ad 6)) hx hb hG in_Mo hown hK hP 67 he7 rfl 6 (by decide) (hG _ gw_9_31) (fun _ h => h) rfl d_Mo_feed_44 ?_
  clear he7
  refine lv_iload_n hx hb d_Mo_feed_47 rfl (lv_at hl 2 rfl) ?_
  obtain ⟨hsd10, he9⟩ := zr_M6 hSh
  refine aw_ild hx hb hK hP 73 0 he9 rfl (k := j) (by omega) (by decide) d_Mo_feed_48 ?_
  clear he9
  refine aw_ti (y := nI (zM j).2) (hsd10 _ (by omega)) ?_
  have hm := hSh.2.2.2.2.2 j (by omega)
  refine lv_iconst (v := nI 5) hx hb d_Mo_feed_49 (by decide +kernel) ?_
  refine lv_icmp_ne (tgt := 57) hx hb d_Mo_feed_50 (by decide) (fun _ => ?_) (fun h => absurd h (show ¬ nI ((zM j).2) = nI 5 from fun h9 => absurd ((nI_eq (by omega) (by omega)).mp h9) (by omega)))
  refine lv_aload_n hx hb d_Mo_feed_57 rfl (lv_at hl 1 rfl) ?_
  obtain ⟨hsd12, he11⟩ := zr_M0 hSh
  refine va_get (C := R_Mo) (T := T_Mo) (N := 19) (v := .ref (aw_m ad 6)) hx hb hG in_Mo hown hK hP 67 he11 rfl 6 (by decide) (hG _ gw_9_31) (fun _ h => h) rfl d_Mo_feed_58 ?_
  clear he11
  refine lv_iload_n hx hb d_Mo_feed_61 rfl (lv_at hl 2 rfl) ?_
  obtain ⟨hsd14, he13⟩ := zr_M6 hSh
  refine aw_ild hx hb hK hP 73 0 he13 rfl (k := j) (by omega) (by decide) d_Mo_feed_62 ?_
  clear he13
  refine aw_ti (y := nI (zM j).2) (hsd14 _ (by omega)) ?_
  have hm := hSh.2.2.2.2.2 j (by omega)
  refine lv_iconst (v := nI 2) hx hb d_Mo_feed_63 (by decide +kernel) ?_
  refine lv_icmp_ge (tgt := 79) hx hb d_Mo_feed_64 (by decide) (fun h => absurd h (show ¬ nI 2 ≤ nI ((zM j).2) from fun h9 => absurd ((nI_leI (by omega) (by omega)).mp h9) (by omega))) (fun _ => ?_)
  refine lv_iload hx hb d_Mo_feed_67 (lv_at hl 5 rfl) ?_
  refine lv_bipush (v := nI 8) hx hb d_Mo_feed_69 (by decide +kernel) ?_
  refine lv_irem hx hb d_Mo_feed_71 (by decide +kernel) ?_
  refine aw_ti (pk_rem (a := mm) (d := 8) (by omega) (by omega) (by omega)) ?_
  refine lv_if_eq (tgt := 79) hx hb d_Mo_feed_72 (by decide) (fun _ => ?_) (fun h => absurd (show nI (mm % 8) = nI 0 from (nI_eq (by omega) (by omega)).mpr (by omega)) h)
  refine lv_iconst (v := nI 0) hx hb d_Mo_feed_79 (by decide +kernel) ?_
  obtain ⟨_, he15⟩ := zr_M0 hSh
  refine va_calli (va_runV (As := [.int (nI 0)]) (rest := []) ⟨hx, hb, hml, hown, hG⟩ (k_Mo_refused0V l D g ad N0 zG zO zX zY zA zB zM zI zL zK zN zF zQ) (aw_wV 1 hG gw_10_37 gw_10_35 gw_0_10 gw_10_36 gw_p_9 rfl rfl hd_Mo_refused ⟨Nat.le_of_ble_eq_true rfl, Nat.le_of_ble_eq_true rfl⟩) (ag_qV (va_recv hK hP rfl he15) hP hD hSh hU hS) rfl rfl hl.1 rfl (lv_room (Nat.le_of_ble_eq_true rfl)) d_Mo_feed_80 ⟨Nat.le_of_ble_eq_true rfl, Nat.le_of_ble_eq_true rfl⟩) hS (fun _ _ h => h) (fun _ h => h) ?_
  clear hP hD hSh hS he15
  intro x16 u8 t8 H locs ht _ ex16 hB _ _ hS
  obtain ⟨L, hP, hD, hSh⟩ := hB
  rw [ht] at hP
  clear ht
  subst ex16
  refine lv_if_eq (tgt := 88) hx hb d_Mo_feed_83 (by decide) (fun _ => ?_) (fun h => absurd (by decide +kernel) h)
  refine lv_aload_n hx hb d_Mo_feed_88 rfl (lv_at hl 1 rfl) ?_
  refine lv_iload_n hx hb d_Mo_feed_89 rfl (lv_at hl 2 rfl) ?_
  obtain ⟨_, he17⟩ := zr_M0 hSh
  refine va_callv (va_runV (As := [.int (nI j)]) (rest := []) ⟨hx, hb, hml, hown, hG⟩ (k_Mo_prepareJV l D g ad N0 zG zO zX zY zA zB zM zI zL zK zN (nI 0) zQ j kc hj hkc hci) (aw_wV 1 hG gw_11_6 gw_11_4 gw_0_10 gw_11_5 gw_p_12 rfl rfl hd_Mo_prepare ⟨Nat.le_of_ble_eq_true rfl, Nat.le_of_ble_eq_true rfl⟩) (ag_qV (va_recv hK hP rfl he17) hP hD hSh hU hS) rfl rfl hl.1 rfl (lv_room (Nat.le_of_ble_eq_true rfl)) d_Mo_feed_90 ⟨Nat.le_of_ble_eq_true rfl, Nat.le_of_ble_eq_true rfl⟩) hS (fun _ _ h => h) (fun _ h => h) ?_
  clear hP hD hSh hS he17
  intro u8 t8 H locs ht _ _ hB _ _ hS
  obtain ⟨L, hP, hD, hSh⟩ := hB
  rw [ht] at hP
  clear ht
  obtain ⟨zI18, ezI18⟩ : ∃ z : Nat → Nat → Int32, v_Mo_prepareJV_zI zI zL j kc = z := ⟨_, rfl⟩
  rw [ezI18] at hSh
  refine lv_iconst (v := nI 0) hx hb d_Mo_feed_93 (by decide +kernel) ?_
  refine lv_istore hx hb d_Mo_feed_94 hl (by decide) rfl (fun ls hl => ?_)
  have hl : lv_has ls 7 [(6, .int (nI 0)), (5, .int (nI 1)), (0, .ref (aw_m ad 0)), (1, .int (nI j)), (2, .int bk), (3, .int (nI k)), (4, .int (nI mm))] := hl
  have L96 : ∀ (d t : Nat) (H : Heap) (locs : List Loc) (L : va_W) (ls : Array Slot), t + d = mm → va_P D aw_C L H → va_D (aw_Z N0) L → az_Sh g ad zG zO zX zY zA zB zM ((v_Mo_feed8V_L96 zM zI zL j kc bk k mm t).1) ((v_Mo_feed8V_L96 zM zI zL j kc bk k mm t).2) (nI kc) (az_wn kc) (nI 0) zQ L → va_S (aw_Z N0) s.heap H locs → lv_has ls 7 [(0, .ref (aw_m ad 0)), (1, .int (nI j)), (2, .int bk), (3, .int (nI k)), (4, .int (nI mm)), (5, .int (nI 1)), (6, .int (nI t))] → W p l e (headSpec ws_Mo_feed8V rm_Mo_feed8V).room s m ([.ref (aw_m ad 0), .int (nI j), .int bk, .int (nI k), .int (nI mm)] : List Value).toArray below meth c H locs 0 0 (MQ below (va_Qi (fun r (_ : Unit) => r = v_Mo_feed8V zM zI zL j kc bk k mm) (fun (_ : Unit) t => ag_H D N0 (az_Sh g ad zG zO zX zY zA zB zM (v_Mo_feed8V_zI zM zI zL j kc bk k mm) (v_Mo_feed8V_zL zM zI zL j kc bk k mm) (nI kc) (az_wn kc) (nI 0) zQ) t.heap) (aw_Z N0)) ([.ref (aw_m ad 0), .int (nI j), .int bk, .int (nI k), .int (nI mm)] : List Value).toArray s 0 0 (aw_Z N0)) (F0 m 96 ls []) := by
    clear hl hP hD hSh hS
    intro d
    induction d with
    | zero =>
      intro t H locs L ls ht0 hP hD hSh hS hl
      have ht1 : t = mm := by omega
      rw [ht1] at hl
      rw [ht1] at hSh
      refine lv_iload hx hb d_Mo_feed_96 (lv_at hl 6 rfl) ?_
      refine lv_iload hx hb d_Mo_feed_98 (lv_at hl 4 rfl) ?_
      refine lv_icmp_ge (tgt := 150) hx hb d_Mo_feed_100 (by decide) (fun _ => ?_) (fun h => absurd (show nI mm ≤ nI mm from (nI_leI (by omega) (by omega)).mpr (by omega)) h)
      refine lv_aload_n hx hb d_Mo_feed_150 rfl (lv_at hl 0 rfl) ?_
      obtain ⟨hsd20, he19⟩ := zr_M0 hSh
      refine va_get (C := R_Mo) (T := T_Mo) (N := 19) (v := .ref (aw_m ad 10)) hx hb hG in_Mo hown hK hP 67 he19 rfl 10 (by decide) (hG _ gw_9_35) (fun _ h => h) rfl d_Mo_feed_151 ?_
      clear he19
      refine lv_iload_n hx hb d_Mo_feed_154 rfl (lv_at hl 1 rfl) ?_
      refine lv_aload_n hx hb d_Mo_feed_155 rfl (lv_at hl 0 rfl) ?_
      obtain ⟨hsd22, he21⟩ := zr_M0 hSh
      refine va_get (C := R_Mo) (T := T_Mo) (N := 19) (v := .ref (aw_m ad 10)) hx hb hG in_Mo hown hK hP 67 he21 rfl 10 (by decide) (hG _ gw_9_35) (fun _ h => h) rfl d_Mo_feed_156 ?_
      clear he21
      refine lv_iload_n hx hb d_Mo_feed_159 rfl (lv_at hl 1 rfl) ?_
      have he23 := zr_M10 hSh
      refine aw_ild hx hb hK hP 77 0 he23 rfl (k := j) (by omega) (by decide) d_Mo_feed_160 ?_
      clear he23
      refine ag_topi (fun x24 ex24 => ?_)
      refine lv_iload hx hb d_Mo_feed_161 (lv_at hl 4 rfl) ?_
      refine lv_iadd hx hb d_Mo_feed_163 ?_
      refine ag_topi (fun x25 ex25 => ?_)
      have he26 := zr_M10 hSh
      refine ag_ist hx hb hK hP hD hS 77 0 he26 rfl (k := j) (by omega) (by decide) d_Mo_feed_164 (zw_I10w hSh j x25) ?_
      clear hP hD hSh hS he26
      intro H locs L hP hD hSh hS
      obtain ⟨zI27, ezI27⟩ : ∃ z : Nat → Nat → Int32, az_v ((v_Mo_feed8V_L96 zM zI zL j kc bk k mm mm).1) 10 j x25 = z := ⟨_, rfl⟩
      rw [ezI27] at hSh
      refine lv_aload_n hx hb d_Mo_feed_165 rfl (lv_at hl 0 rfl) ?_
      obtain ⟨hsd29, he28⟩ := zr_M0 hSh
      refine va_get (C := R_Mo) (T := T_Mo) (N := 19) (v := .ref (aw_m ad 10)) hx hb hG in_Mo hown hK hP 67 he28 rfl 10 (by decide) (hG _ gw_9_35) (fun _ h => h) rfl d_Mo_feed_166 ?_
      clear he28
      refine lv_iload_n hx hb d_Mo_feed_169 rfl (lv_at hl 1 rfl) ?_
      have he30 := zr_M10 hSh
      refine aw_ild hx hb hK hP 77 0 he30 rfl (k := j) (by omega) (by decide) d_Mo_feed_170 ?_
      clear he30
      refine ag_topi (fun x31 ex31 => ?_)
      have gzI : zI27 = v_Mo_feed8V_zI zM zI zL j kc bk k mm := by subst ex31 ezI27 ex25 ex24 ezI18; rfl
      have gzL : (v_Mo_feed8V_L96 zM zI zL j kc bk k mm mm).2 = v_Mo_feed8V_zL zM zI zL j kc bk k mm := by subst ex31 ezI27 ex25 ex24 ezI18; rfl
      have hSh : az_Sh g ad zG zO zX zY zA zB zM (v_Mo_feed8V_zI zM zI zL j kc bk k mm) (v_Mo_feed8V_zL zM zI zL j kc bk k mm) (nI kc) (az_wn kc) (nI 0) zQ L := by rw [← gzI, ← gzL]; exact hSh
      exact W.iret hx hb hr (fun t ht hW => ⟨⟨_, (), rfl, (by subst ex31 ezI27 ex25 ex24 ezI18; rfl), ag_Hr ht hP hD hSh⟩, hS.F ht⟩) hS.2.2 d_Mo_feed_171
    | succ d ih =>
      intro t H locs L ls ht0 hP hD hSh hS hl
      refine lv_iload hx hb d_Mo_feed_96 (lv_at hl 6 rfl) ?_
      refine lv_iload hx hb d_Mo_feed_98 (lv_at hl 4 rfl) ?_
      refine lv_icmp_ge (tgt := 150) hx hb d_Mo_feed_100 (by decide) (fun h => absurd h (show ¬ nI mm ≤ nI t from fun h9 => absurd ((nI_leI (by omega) (by omega)).mp h9) (by omega))) (fun _ => ?_)
      refine lv_aload_n hx hb d_Mo_feed_103 rfl (lv_at hl 0 rfl) ?_
      obtain ⟨hsd33, he32⟩ := zr_M0 hSh
      refine va_get (C := R_Mo) (T := T_Mo) (N := 19) (v := .ref (aw_m ad 6)) hx hb hG in_Mo hown hK hP 67 he32 rfl 6 (by decide) (hG _ gw_9_31) (fun _ h => h) rfl d_Mo_feed_104 ?_
      clear he32
      refine lv_iload_n hx hb d_Mo_feed_107 rfl (lv_at hl 1 rfl) ?_
      obtain ⟨hsd35, he34⟩ := zr_M6 hSh
      refine aw_ild hx hb hK hP 73 0 he34 rfl (k := j) (by omega) (by decide) d_Mo_feed_108 ?_
      clear he34
      refine aw_ti (y := nI (zM j).2) (hsd35 _ (by omega)) ?_
      have hm := hSh.2.2.2.2.2 j (by omega)
      refine lv_iconst (v := nI 1) hx hb d_Mo_feed_109 (by decide +kernel) ?_
      refine lv_icmp_le (tgt := 126) hx hb d_Mo_feed_110 (by decide) (fun _ => ?_) (fun h => absurd (show nI ((zM j).2) ≤ nI 1 from (nI_leI (by omega) (by omega)).mpr (by omega)) h)
      refine lv_iload hx hb d_Mo_feed_126 (lv_at hl 6 rfl) ?_
      refine lv_bipush (v := nI 8) hx hb d_Mo_feed_128 (by decide +kernel) ?_
      refine lv_irem hx hb d_Mo_feed_130 (by decide +kernel) ?_
      refine aw_ti (pk_rem (a := t) (d := 8) (by omega) (by omega) (by omega)) ?_
      refine lv_if_ne (tgt := 144) hx hb d_Mo_feed_131 (by decide) (fun hb36 => ?_) (fun hb36 => ?_)
      · have nhb36 : ¬ t % 8 = 0 := fun z => absurd ((nI_eq (by omega) (by omega)).mpr z) (show ¬ nI (t % 8) = nI 0 from hb36)
        refine lv_iinc (k := 6) (v := nI (t + 1)) hx hb d_Mo_feed_144 hl rfl (aw_inc t 1 1 (by decide +kernel)) (by decide) rfl (fun ls hl => ?_)
        have hl : lv_has ls 7 [(6, .int (nI (t + 1))), (0, .ref (aw_m ad 0)), (1, .int (nI j)), (2, .int bk), (3, .int (nI k)), (4, .int (nI mm)), (5, .int (nI 1))] := hl
        refine lv_goto (tgt := 96) hx hb d_Mo_feed_147 (by decide) ?_
        have hl := lv_sub hl (l' := [(0, .ref (aw_m ad 0)), (1, .int (nI j)), (2, .int bk), (3, .int (nI k)), (4, .int (nI mm)), (5, .int (nI 1)), (6, .int (nI (t + 1)))]) [1, 2, 3, 4, 5, 6, 0] rfl
        have g0 : (v_Mo_feed8V_L96 zM zI zL j kc bk k mm t).1 = (v_Mo_feed8V_L96 zM zI zL j kc bk k mm (t + 1)).1 := by subst ezI18; (rw [v_Mo_feed8V_L96_s, if_neg hb36]) <;> rfl
        have g1 : (v_Mo_feed8V_L96 zM zI zL j kc bk k mm t).2 = (v_Mo_feed8V_L96 zM zI zL j kc bk k mm (t + 1)).2 := by subst ezI18; (rw [v_Mo_feed8V_L96_s, if_neg hb36]) <;> rfl
        have hSh : az_Sh g ad zG zO zX zY zA zB zM ((v_Mo_feed8V_L96 zM zI zL j kc bk k mm (t + 1)).1) ((v_Mo_feed8V_L96 zM zI zL j kc bk k mm (t + 1)).2) (nI kc) (az_wn kc) (nI 0) zQ L := by rw [← g0, ← g1]; exact hSh
        exact ih (t + 1) H locs L ls (by omega) hP hD hSh hS (by first | exact hl | simpa [Nat.add_assoc, Nat.mul_add, Nat.add_comm] using hl)
      · have nhb36 : t % 8 = 0 := (nI_eq (by omega) (by omega)).mp (show nI (t % 8) = nI 0 from hb36)
        refine lv_aload_n hx hb d_Mo_feed_134 rfl (lv_at hl 0 rfl) ?_
        refine lv_iload_n hx hb d_Mo_feed_135 rfl (lv_at hl 1 rfl) ?_
        refine lv_iload_n hx hb d_Mo_feed_136 rfl (lv_at hl 2 rfl) ?_
        refine lv_iload_n hx hb d_Mo_feed_137 rfl (lv_at hl 3 rfl) ?_
        refine lv_iload hx hb d_Mo_feed_138 (lv_at hl 6 rfl) ?_
        refine lv_iadd hx hb d_Mo_feed_140 ?_
        refine aw_ti (nI_add k t) ?_
        obtain ⟨_, he37⟩ := zr_M0 hSh
        refine va_callv (va_runV (As := [.int (nI j), .int bk, .int (nI (k + t))]) (rest := []) ⟨hx, hb, hml, hown, hG⟩ (k_Mo_feedBlockV l D g ad N0 zG zO zX zY zA zB zM ((v_Mo_feed8V_L96 zM zI zL j kc bk k mm t).1) ((v_Mo_feed8V_L96 zM zI zL j kc bk k mm t).2) (az_wn kc) (nI 0) zQ j kc bk (k + t) hj (by omega) hkc) (aw_wV 3 hG gw_12_35 gw_12_33 gw_0_10 gw_12_34 gw_p_21 rfl rfl hd_Mo_feedBlock ⟨Nat.le_of_ble_eq_true rfl, Nat.le_of_ble_eq_true rfl⟩) (ag_qV (va_recv hK hP rfl he37) hP hD hSh hU hS) rfl rfl hl.1 rfl (lv_room (Nat.le_of_ble_eq_true rfl)) d_Mo_feed_141 ⟨Nat.le_of_ble_eq_true rfl, Nat.le_of_ble_eq_true rfl⟩) hS (fun _ _ h => h) (fun _ h => h) ?_
        clear hP hD hSh hS he37
        intro u8 t8 H locs ht _ _ hB _ _ hS
        obtain ⟨L, hP, hD, hSh⟩ := hB
        rw [ht] at hP
        clear ht
        obtain ⟨zI38, ezI38⟩ : ∃ z : Nat → Nat → Int32, v_Mo_feedBlockV_zI zM ((v_Mo_feed8V_L96 zM zI zL j kc bk k mm t).1) ((v_Mo_feed8V_L96 zM zI zL j kc bk k mm t).2) j kc bk (k + t) = z := ⟨_, rfl⟩
        rw [ezI38] at hSh
        obtain ⟨zL39, ezL39⟩ : ∃ z : Nat → Nat → Int64, v_Mo_feedBlockV_zL zM ((v_Mo_feed8V_L96 zM zI zL j kc bk k mm t).1) ((v_Mo_feed8V_L96 zM zI zL j kc bk k mm t).2) j kc bk (k + t) = z := ⟨_, rfl⟩
        rw [ezL39] at hSh
        refine lv_iinc (k := 6) (v := nI (t + 1)) hx hb d_Mo_feed_144 hl rfl (aw_inc t 1 1 (by decide +kernel)) (by decide) rfl (fun ls hl => ?_)
        have hl : lv_has ls 7 [(6, .int (nI (t + 1))), (0, .ref (aw_m ad 0)), (1, .int (nI j)), (2, .int bk), (3, .int (nI k)), (4, .int (nI mm)), (5, .int (nI 1))] := hl
        refine lv_goto (tgt := 96) hx hb d_Mo_feed_147 (by decide) ?_
        have hl := lv_sub hl (l' := [(0, .ref (aw_m ad 0)), (1, .int (nI j)), (2, .int bk), (3, .int (nI k)), (4, .int (nI mm)), (5, .int (nI 1)), (6, .int (nI (t + 1)))]) [1, 2, 3, 4, 5, 6, 0] rfl
        have g0 : zI38 = (v_Mo_feed8V_L96 zM zI zL j kc bk k mm (t + 1)).1 := by subst ezL39 ezI38 ezI18; (rw [v_Mo_feed8V_L96_s, if_pos hb36]) <;> rfl
        have g1 : zL39 = (v_Mo_feed8V_L96 zM zI zL j kc bk k mm (t + 1)).2 := by subst ezL39 ezI38 ezI18; (rw [v_Mo_feed8V_L96_s, if_pos hb36]) <;> rfl
        have hSh : az_Sh g ad zG zO zX zY zA zB zM ((v_Mo_feed8V_L96 zM zI zL j kc bk k mm (t + 1)).1) ((v_Mo_feed8V_L96 zM zI zL j kc bk k mm (t + 1)).2) (nI kc) (az_wn kc) (nI 0) zQ L := by rw [← g0, ← g1]; exact hSh
        exact ih (t + 1) H locs L ls (by omega) hP hD hSh hS (by first | exact hl | simpa [Nat.add_assoc, Nat.mul_add, Nat.add_comm] using hl)
  have hl := lv_sub hl (l' := [(0, .ref (aw_m ad 0)), (1, .int (nI j)), (2, .int bk), (3, .int (nI k)), (4, .int (nI mm)), (5, .int (nI 1)), (6, .int (nI 0))]) [2, 3, 4, 5, 6, 1, 0] rfl
  have g0 : zI18 = (v_Mo_feed8V_L96 zM zI zL j kc bk k mm 0).1 := by subst ezI18; (rw [v_Mo_feed8V_L96_z]) <;> rfl
  have g1 : zL = (v_Mo_feed8V_L96 zM zI zL j kc bk k mm 0).2 := by subst ezI18; (rw [v_Mo_feed8V_L96_z]) <;> rfl
  have hSh : az_Sh g ad zG zO zX zY zA zB zM ((v_Mo_feed8V_L96 zM zI zL j kc bk k mm 0).1) ((v_Mo_feed8V_L96 zM zI zL j kc bk k mm 0).2) (nI kc) (az_wn kc) (nI 0) zQ L := by rw [← g0, ← g1]; exact hSh
  exact L96 mm 0 _ _ L ls (by omega) hP hD hSh hS (by first | exact hl | simpa using hl)
noncomputable def v_Mo_takeXcV  : Int32 := nI 0
abbrev ws_Mo_takeXcV : List Cond := Cond.code y_Mo_take b_Mo_take 6 (some .int) :: aw_G
abbrev rm_Mo_takeXcV : Room := { frames := 1, cells := 0, slots := 0, locals := 21 }
set_option maxHeartbeats 4000000 in
set_option maxRecDepth 100000 in
theorem k_Mo_takeXcV (l : Launch) (D : va_G) (g : Nat → ClassId) (ad : Nat → Nat) (N0 : Nat) (zG : Nat → Nat × Nat) (zO : Nat → Nat) (zX : Nat → Nat → Int64) (zY : Nat → Nat → Int32) (zA : Nat → Nat → Nat → Int32) (zB : Nat → Int32) (zM : Nat → Nat × Nat) (zI : Nat → Nat → Int32) (zL : Nat → Nat → Int64) (zK : Int32) (zN : Nat) (zF : Int32) (zQ : Int64) (c0 : Int32) (fr : Int32) (m0 : Int32) (hc : c0 < 0 ∨ (¬ c0 < 0 ∧ ¬ c0 < nI 4)) : Met l y_Mo_take ws_Mo_takeXcV rm_Mo_takeXcV (va_Pc ([.ref (aw_m ad 0), .int c0, .int fr, .int m0] : List Value) (ag_B D g N0 (az_Sh g ad zG zO zX zY zA zB zM zI zL zK zN zF zQ))) (va_Qi (fun r (_ : Unit) => r = v_Mo_takeXcV ) (fun (_ : Unit) t => ag_H D N0 (az_Sh g ad zG zO zX zY zA zB zM zI zL zK zN (nI 1) zQ) t.heap) (aw_Z N0)) 0 0 (aw_Z N0) := by
  refine Met.ofW (cc := b_Mo_take) (maxL := 6) (ret := (some .int)) (by decide) rfl ?_
  intro p e s m args below meth c s₁ B hml hv
  obtain ⟨rfl, ⟨L, hP, hD, hSh⟩, hU⟩ := hv
  have hx := B.exec
  have hb := B.bytes
  have hr := B.returns
  have hG : ∀ w ∈ aw_G, w.before _ s = true := fun w h => atoms_spec (ws := ws_Mo_takeXcV) B.pre w (List.mem_cons_of_mem _ h)
  have hown : s.vm.findClass "RuleCiphersModel" = some m.cls := findClass_of_methodNamed B.named
  have hlocks := B.notSynchronized
  have hE := hU.1
  have hK := hE.1
  have hN := hE.2.1
  have hS : va_S (aw_Z N0) s.heap s.heap [] := va_S.rf
  have hl := lv_entry ([.ref (aw_m ad 0), .int c0, .int fr, .int m0] : List Value) (n := 6) (Nat.le_of_ble_eq_true rfl)
  rw [lg_entry_eq]
  generalize (lg_sl ([.ref (aw_m ad 0), .int c0, .int fr, .int m0] : List Value) ++ List.replicate (6 - (lg_sl ([.ref (aw_m ad 0), .int c0, .int fr, .int m0] : List Value)).length) Slot.unset).toArray = ls at hl ⊢
  have hl : lv_has ls 6 [(0, .ref (aw_m ad 0)), (1, .int c0), (2, .int fr), (3, .int m0)] := hl
  refine lv_iload_n hx hb d_Mo_take_0 rfl (lv_at hl 1 rfl) ?_
  refine aw_ci ((va_runS (As := [.int c0]) (rest := []) ⟨hx, hb, hml, hown, hG⟩ (k_Mo_isContext0 l c0 hc) (aw_wS 1 hG gw_10_34 gw_10_32 gw_0_10 gw_10_33 rfl rfl hd_Mo_isContext ⟨Nat.le_of_ble_eq_true rfl, Nat.le_of_ble_eq_true rfl⟩) aw_p0 rfl rfl hl.1 rfl (lv_room (Nat.le_of_ble_eq_true rfl)) d_Mo_take_1 ⟨Nat.le_of_ble_eq_true rfl, Nat.le_of_ble_eq_true rfl⟩).run) (fun x1 hx1 => ?_)
  subst hx1
  refine lv_if_eq (tgt := 19) hx hb d_Mo_take_4 (by decide) (fun _ => ?_) (fun h => absurd (by decide +kernel) h)
  refine lv_iconst (v := nI 0) hx hb d_Mo_take_19 (by decide +kernel) ?_
  refine lv_istore hx hb d_Mo_take_20 hl (by decide) rfl (fun ls hl => ?_)
  have hl : lv_has ls 6 [(4, .int (nI 0)), (0, .ref (aw_m ad 0)), (1, .int c0), (2, .int fr), (3, .int m0)] := hl
  refine lv_aload_n hx hb d_Mo_take_22 rfl (lv_at hl 1 rfl) ?_
  refine lv_iload hx hb d_Mo_take_23 (lv_at hl 0 rfl) ?_
  refine lv_if_ne (tgt := 32) hx hb d_Mo_take_25 (by decide) (fun h => absurd (by decide +kernel) h) (fun _ => ?_)
  refine lv_iconst (v := nI 1) hx hb d_Mo_take_28 (by decide +kernel) ?_
  refine lv_goto (tgt := 37) hx hb d_Mo_take_29 (by decide) ?_
  obtain ⟨_, he2⟩ := zr_M0 hSh
  refine va_calli (va_runV (As := [.int (nI 1)]) (rest := []) ⟨hx, hb, hml, hown, hG⟩ (k_Mo_refused1V l D g ad N0 zG zO zX zY zA zB zM zI zL zK zN zF zQ 1 (by omega)) (aw_wV 1 hG gw_10_37 gw_10_35 gw_0_10 gw_10_36 gw_p_9 rfl rfl hd_Mo_refused ⟨Nat.le_of_ble_eq_true rfl, Nat.le_of_ble_eq_true rfl⟩) (ag_qV (va_recv hK hP rfl he2) hP hD hSh hU hS) rfl rfl hl.1 rfl (lv_room (Nat.le_of_ble_eq_true rfl)) d_Mo_take_37 ⟨Nat.le_of_ble_eq_true rfl, Nat.le_of_ble_eq_true rfl⟩) hS (fun _ _ h => h) (fun _ h => h) ?_
  clear hP hD hSh hS he2
  intro x3 u8 t8 H locs ht _ ex3 hB _ _ hS
  obtain ⟨L, hP, hD, hSh⟩ := hB
  rw [ht] at hP
  clear ht
  subst ex3
  refine lv_if_eq (tgt := 45) hx hb d_Mo_take_40 (by decide) (fun h => absurd h (by decide +kernel)) (fun _ => ?_)
  refine lv_iconst (v := nI 0) hx hb d_Mo_take_43 (by decide +kernel) ?_
  exact W.iret hx hb hr (fun t ht hW => ⟨⟨_, (), rfl, (by rfl), ag_Hr ht hP hD hSh⟩, hS.F ht⟩) hS.2.2 d_Mo_take_44
noncomputable def v_Mo_takeXbV  : Int32 := nI 0
abbrev ws_Mo_takeXbV : List Cond := Cond.code y_Mo_take b_Mo_take 6 (some .int) :: aw_G
abbrev rm_Mo_takeXbV : Room := { frames := 1, cells := 0, slots := 0, locals := 21 }
set_option maxHeartbeats 4000000 in
set_option maxRecDepth 100000 in
theorem k_Mo_takeXbV (l : Launch) (D : va_G) (g : Nat → ClassId) (ad : Nat → Nat) (N0 : Nat) (zG : Nat → Nat × Nat) (zO : Nat → Nat) (zX : Nat → Nat → Int64) (zY : Nat → Nat → Int32) (zA : Nat → Nat → Nat → Int32) (zB : Nat → Int32) (zM : Nat → Nat × Nat) (zI : Nat → Nat → Int32) (zL : Nat → Nat → Int64) (zK : Int32) (zN : Nat) (zF : Int32) (zQ : Int64) (j : Nat) (fr : Int32) (m0 : Int32) (hj : j < 4) (hi : fr < 0 ∨ (¬ fr < 0 ∧ m0 < 0) ∨ (¬ fr < 0 ∧ ¬ m0 < 0 ∧ nI 64 < fr) ∨ (¬ fr < 0 ∧ ¬ m0 < 0 ∧ ¬ nI 64 < fr ∧ nI 64 - fr < m0)) : Met l y_Mo_take ws_Mo_takeXbV rm_Mo_takeXbV (va_Pc ([.ref (aw_m ad 0), .int (nI j), .int fr, .int m0] : List Value) (ag_B D g N0 (az_Sh g ad zG zO zX zY zA zB zM zI zL zK zN zF zQ))) (va_Qi (fun r (_ : Unit) => r = v_Mo_takeXbV ) (fun (_ : Unit) t => ag_H D N0 (az_Sh g ad zG zO zX zY zA zB zM zI zL zK zN (nI 1) zQ) t.heap) (aw_Z N0)) 0 0 (aw_Z N0) := by
  refine Met.ofW (cc := b_Mo_take) (maxL := 6) (ret := (some .int)) (by decide) rfl ?_
  intro p e s m args below meth c s₁ B hml hv
  obtain ⟨rfl, ⟨L, hP, hD, hSh⟩, hU⟩ := hv
  have hx := B.exec
  have hb := B.bytes
  have hr := B.returns
  have hG : ∀ w ∈ aw_G, w.before _ s = true := fun w h => atoms_spec (ws := ws_Mo_takeXbV) B.pre w (List.mem_cons_of_mem _ h)
  have hown : s.vm.findClass "RuleCiphersModel" = some m.cls := findClass_of_methodNamed B.named
  have hlocks := B.notSynchronized
  have hE := hU.1
  have hK := hE.1
  have hN := hE.2.1
  have hS : va_S (aw_Z N0) s.heap s.heap [] := va_S.rf
  have hl := lv_entry ([.ref (aw_m ad 0), .int (nI j), .int fr, .int m0] : List Value) (n := 6) (Nat.le_of_ble_eq_true rfl)
  rw [lg_entry_eq]
  generalize (lg_sl ([.ref (aw_m ad 0), .int (nI j), .int fr, .int m0] : List Value) ++ List.replicate (6 - (lg_sl ([.ref (aw_m ad 0), .int (nI j), .int fr, .int m0] : List Value)).length) Slot.unset).toArray = ls at hl ⊢
  have hl : lv_has ls 6 [(0, .ref (aw_m ad 0)), (1, .int (nI j)), (2, .int fr), (3, .int m0)] := hl
  refine lv_iload_n hx hb d_Mo_take_0 rfl (lv_at hl 1 rfl) ?_
  refine aw_ci ((va_runS (As := [.int (nI j)]) (rest := []) ⟨hx, hb, hml, hown, hG⟩ (k_Mo_isContext1 l j hj) (aw_wS 1 hG gw_10_34 gw_10_32 gw_0_10 gw_10_33 rfl rfl hd_Mo_isContext ⟨Nat.le_of_ble_eq_true rfl, Nat.le_of_ble_eq_true rfl⟩) aw_p0 rfl rfl hl.1 rfl (lv_room (Nat.le_of_ble_eq_true rfl)) d_Mo_take_1 ⟨Nat.le_of_ble_eq_true rfl, Nat.le_of_ble_eq_true rfl⟩).run) (fun x1 hx1 => ?_)
  subst hx1
  refine lv_if_eq (tgt := 19) hx hb d_Mo_take_4 (by decide) (fun h => absurd h (by decide +kernel)) (fun _ => ?_)
  refine lv_iload_n hx hb d_Mo_take_7 rfl (lv_at hl 2 rfl) ?_
  refine lv_iload_n hx hb d_Mo_take_8 rfl (lv_at hl 3 rfl) ?_
  refine aw_ci ((va_runS (As := [.int fr, .int m0]) (rest := []) ⟨hx, hb, hml, hown, hG⟩ (k_Mo_isPart0 l fr m0 hi) (aw_wS 2 hG gw_12_29 gw_12_27 gw_0_10 gw_12_28 rfl rfl hd_Mo_isPart ⟨Nat.le_of_ble_eq_true rfl, Nat.le_of_ble_eq_true rfl⟩) aw_p0 rfl rfl hl.1 rfl (lv_room (Nat.le_of_ble_eq_true rfl)) d_Mo_take_9 ⟨Nat.le_of_ble_eq_true rfl, Nat.le_of_ble_eq_true rfl⟩).run) (fun x2 hx2 => ?_)
  subst hx2
  refine lv_if_eq (tgt := 19) hx hb d_Mo_take_12 (by decide) (fun _ => ?_) (fun h => absurd (by decide +kernel) h)
  refine lv_iconst (v := nI 0) hx hb d_Mo_take_19 (by decide +kernel) ?_
  refine lv_istore hx hb d_Mo_take_20 hl (by decide) rfl (fun ls hl => ?_)
  have hl : lv_has ls 6 [(4, .int (nI 0)), (0, .ref (aw_m ad 0)), (1, .int (nI j)), (2, .int fr), (3, .int m0)] := hl
  refine lv_aload_n hx hb d_Mo_take_22 rfl (lv_at hl 1 rfl) ?_
  refine lv_iload hx hb d_Mo_take_23 (lv_at hl 0 rfl) ?_
  refine lv_if_ne (tgt := 32) hx hb d_Mo_take_25 (by decide) (fun h => absurd (by decide +kernel) h) (fun _ => ?_)
  refine lv_iconst (v := nI 1) hx hb d_Mo_take_28 (by decide +kernel) ?_
  refine lv_goto (tgt := 37) hx hb d_Mo_take_29 (by decide) ?_
  obtain ⟨_, he3⟩ := zr_M0 hSh
  refine va_calli (va_runV (As := [.int (nI 1)]) (rest := []) ⟨hx, hb, hml, hown, hG⟩ (k_Mo_refused1V l D g ad N0 zG zO zX zY zA zB zM zI zL zK zN zF zQ 1 (by omega)) (aw_wV 1 hG gw_10_37 gw_10_35 gw_0_10 gw_10_36 gw_p_9 rfl rfl hd_Mo_refused ⟨Nat.le_of_ble_eq_true rfl, Nat.le_of_ble_eq_true rfl⟩) (ag_qV (va_recv hK hP rfl he3) hP hD hSh hU hS) rfl rfl hl.1 rfl (lv_room (Nat.le_of_ble_eq_true rfl)) d_Mo_take_37 ⟨Nat.le_of_ble_eq_true rfl, Nat.le_of_ble_eq_true rfl⟩) hS (fun _ _ h => h) (fun _ h => h) ?_
  clear hP hD hSh hS he3
  intro x4 u8 t8 H locs ht _ ex4 hB _ _ hS
  obtain ⟨L, hP, hD, hSh⟩ := hB
  rw [ht] at hP
  clear ht
  subst ex4
  refine lv_if_eq (tgt := 45) hx hb d_Mo_take_40 (by decide) (fun h => absurd h (by decide +kernel)) (fun _ => ?_)
  refine lv_iconst (v := nI 0) hx hb d_Mo_take_43 (by decide +kernel) ?_
  exact W.iret hx hb hr (fun t ht hW => ⟨⟨_, (), rfl, (by rfl), ag_Hr ht hP hD hSh⟩, hS.F ht⟩) hS.2.2 d_Mo_take_44
noncomputable def v_Mo_takeXsV  : Int32 := nI 0
abbrev ws_Mo_takeXsV : List Cond := Cond.code y_Mo_take b_Mo_take 6 (some .int) :: aw_G
abbrev rm_Mo_takeXsV : Room := { frames := 1, cells := 0, slots := 0, locals := 21 }
set_option maxHeartbeats 4000000 in
set_option maxRecDepth 100000 in
theorem k_Mo_takeXsV (l : Launch) (D : va_G) (g : Nat → ClassId) (ad : Nat → Nat) (N0 : Nat) (zG : Nat → Nat × Nat) (zO : Nat → Nat) (zX : Nat → Nat → Int64) (zY : Nat → Nat → Int32) (zA : Nat → Nat → Nat → Int32) (zB : Nat → Int32) (zM : Nat → Nat × Nat) (zI : Nat → Nat → Int32) (zL : Nat → Nat → Int64) (zK : Int32) (zN : Nat) (zF : Int32) (zQ : Int64) (j : Nat) (k : Nat) (mm : Nat) (hj : j < 4) (hk : k + mm ≤ 64) (hs : (zM j).1 ≤ 2 ∨ ((zM j).1 = 3 ∧ (zM j).2 ≠ 5)) : Met l y_Mo_take ws_Mo_takeXsV rm_Mo_takeXsV (va_Pc ([.ref (aw_m ad 0), .int (nI j), .int (nI k), .int (nI mm)] : List Value) (ag_B D g N0 (az_Sh g ad zG zO zX zY zA zB zM zI zL zK zN zF zQ))) (va_Qi (fun r (_ : Unit) => r = v_Mo_takeXsV ) (fun (_ : Unit) t => ag_H D N0 (az_Sh g ad zG zO zX zY zA zB zM zI zL zK zN (nI 2) zQ) t.heap) (aw_Z N0)) 0 0 (aw_Z N0) := by
  refine Met.ofW (cc := b_Mo_take) (maxL := 6) (ret := (some .int)) (by decide) rfl ?_
  intro p e s m args below meth c s₁ B hml hv
  obtain ⟨rfl, ⟨L, hP, hD, hSh⟩, hU⟩ := hv
  have hx := B.exec
  have hb := B.bytes
  have hr := B.returns
  have hG : ∀ w ∈ aw_G, w.before _ s = true := fun w h => atoms_spec (ws := ws_Mo_takeXsV) B.pre w (List.mem_cons_of_mem _ h)
  have hown : s.vm.findClass "RuleCiphersModel" = some m.cls := findClass_of_methodNamed B.named
  have hlocks := B.notSynchronized
  have hE := hU.1
  have hK := hE.1
  have hN := hE.2.1
  have hS : va_S (aw_Z N0) s.heap s.heap [] := va_S.rf
  have hl := lv_entry ([.ref (aw_m ad 0), .int (nI j), .int (nI k), .int (nI mm)] : List Value) (n := 6) (Nat.le_of_ble_eq_true rfl)
  rw [lg_entry_eq]
  generalize (lg_sl ([.ref (aw_m ad 0), .int (nI j), .int (nI k), .int (nI mm)] : List Value) ++ List.replicate (6 - (lg_sl ([.ref (aw_m ad 0), .int (nI j), .int (nI k), .int (nI mm)] : List Value)).length) Slot.unset).toArray = ls at hl ⊢
  have hl : lv_has ls 6 [(0, .ref (aw_m ad 0)), (1, .int (nI j)), (2, .int (nI k)), (3, .int (nI mm))] := hl
  refine lv_iload_n hx hb d_Mo_take_0 rfl (lv_at hl 1 rfl) ?_
  refine aw_ci ((va_runS (As := [.int (nI j)]) (rest := []) ⟨hx, hb, hml, hown, hG⟩ (k_Mo_isContext1 l j hj) (aw_wS 1 hG gw_10_34 gw_10_32 gw_0_10 gw_10_33 rfl rfl hd_Mo_isContext ⟨Nat.le_of_ble_eq_true rfl, Nat.le_of_ble_eq_true rfl⟩) aw_p0 rfl rfl hl.1 rfl (lv_room (Nat.le_of_ble_eq_true rfl)) d_Mo_take_1 ⟨Nat.le_of_ble_eq_true rfl, Nat.le_of_ble_eq_true rfl⟩).run) (fun x1 hx1 => ?_)
  subst hx1
  refine lv_if_eq (tgt := 19) hx hb d_Mo_take_4 (by decide) (fun h => absurd h (by decide +kernel)) (fun _ => ?_)
  refine lv_iload_n hx hb d_Mo_take_7 rfl (lv_at hl 2 rfl) ?_
  refine lv_iload_n hx hb d_Mo_take_8 rfl (lv_at hl 3 rfl) ?_
  refine aw_ci ((va_runS (As := [.int (nI k), .int (nI mm)]) (rest := []) ⟨hx, hb, hml, hown, hG⟩ (k_Mo_isPart1 l k mm hk) (aw_wS 2 hG gw_12_29 gw_12_27 gw_0_10 gw_12_28 rfl rfl hd_Mo_isPart ⟨Nat.le_of_ble_eq_true rfl, Nat.le_of_ble_eq_true rfl⟩) aw_p0 rfl rfl hl.1 rfl (lv_room (Nat.le_of_ble_eq_true rfl)) d_Mo_take_9 ⟨Nat.le_of_ble_eq_true rfl, Nat.le_of_ble_eq_true rfl⟩).run) (fun x2 hx2 => ?_)
  subst hx2
  refine lv_if_eq (tgt := 19) hx hb d_Mo_take_12 (by decide) (fun h => absurd h (by decide +kernel)) (fun _ => ?_)
  refine lv_iconst (v := nI 1) hx hb d_Mo_take_15 (by decide +kernel) ?_
  refine lv_goto (tgt := 20) hx hb d_Mo_take_16 (by decide) ?_
  refine lv_istore hx hb d_Mo_take_20 hl (by decide) rfl (fun ls hl => ?_)
  have hl : lv_has ls 6 [(4, .int (nI 1)), (0, .ref (aw_m ad 0)), (1, .int (nI j)), (2, .int (nI k)), (3, .int (nI mm))] := hl
  refine lv_aload_n hx hb d_Mo_take_22 rfl (lv_at hl 1 rfl) ?_
  refine lv_iload hx hb d_Mo_take_23 (lv_at hl 0 rfl) ?_
  refine lv_if_ne (tgt := 32) hx hb d_Mo_take_25 (by decide) (fun _ => ?_) (fun h => absurd h (by decide +kernel))
  refine lv_aload_n hx hb d_Mo_take_32 rfl (lv_at hl 1 rfl) ?_
  refine lv_iload_n hx hb d_Mo_take_33 rfl (lv_at hl 2 rfl) ?_
  obtain ⟨_, he3⟩ := zr_M0 hSh
  refine va_calli (va_runV (As := [.int (nI j)]) (rest := [.ref (aw_m ad 0)]) ⟨hx, hb, hml, hown, hG⟩ (k_Mo_wrongTake2V l D g ad N0 zG zO zX zY zA zB zM zI zL zK zN zF zQ j hj hs) (aw_wV 1 hG gw_12_52 gw_12_50 gw_0_10 gw_12_51 gw_p_24 rfl rfl hd_Mo_wrongTake ⟨Nat.le_of_ble_eq_true rfl, Nat.le_of_ble_eq_true rfl⟩) (ag_qV (va_recv hK hP rfl he3) hP hD hSh hU hS) rfl rfl hl.1 rfl (lv_room (Nat.le_of_ble_eq_true rfl)) d_Mo_take_34 ⟨Nat.le_of_ble_eq_true rfl, Nat.le_of_ble_eq_true rfl⟩) hS (fun _ _ h => h) (fun _ h => h) ?_
  clear hP hD hSh hS he3
  intro x4 u8 t8 H locs ht _ ex4 hB _ _ hS
  obtain ⟨L, hP, hD, hSh⟩ := hB
  rw [ht] at hP
  clear ht
  subst ex4
  obtain ⟨_, he5⟩ := zr_M0 hSh
  refine va_calli (va_runV (As := [.int (nI 2)]) (rest := []) ⟨hx, hb, hml, hown, hG⟩ (k_Mo_refused1V l D g ad N0 zG zO zX zY zA zB zM zI zL zK zN zF zQ 2 (by omega)) (aw_wV 1 hG gw_10_37 gw_10_35 gw_0_10 gw_10_36 gw_p_9 rfl rfl hd_Mo_refused ⟨Nat.le_of_ble_eq_true rfl, Nat.le_of_ble_eq_true rfl⟩) (ag_qV (va_recv hK hP rfl he5) hP hD hSh hU hS) rfl rfl hl.1 rfl (lv_room (Nat.le_of_ble_eq_true rfl)) d_Mo_take_37 ⟨Nat.le_of_ble_eq_true rfl, Nat.le_of_ble_eq_true rfl⟩) hS (fun _ _ h => h) (fun _ h => h) ?_
  clear hP hD hSh hS he5
  intro x6 u8 t8 H locs ht _ ex6 hB _ _ hS
  obtain ⟨L, hP, hD, hSh⟩ := hB
  rw [ht] at hP
  clear ht
  subst ex6
  refine lv_if_eq (tgt := 45) hx hb d_Mo_take_40 (by decide) (fun h => absurd h (by decide +kernel)) (fun _ => ?_)
  refine lv_iconst (v := nI 0) hx hb d_Mo_take_43 (by decide +kernel) ?_
  exact W.iret hx hb hr (fun t ht hW => ⟨⟨_, (), rfl, (by rfl), ag_Hr ht hP hD hSh⟩, hS.F ht⟩) hS.2.2 d_Mo_take_44
noncomputable def v_Mo_take1V_L53 (zI : Nat → Nat → Int32) (zL : Nat → Nat → Int64) (j : Nat) (kc : Nat) (k : Nat) (mm : Nat) (t : Nat) : (Nat → Nat → Int32) × (Nat → Nat → Int64) := Nat.rec (motive := fun _ => (Nat → Nat → Int32) × (Nat → Nat → Int64)) (v_Mo_prepareJV_zI zI zL j kc, zL) (fun t s => (if ((s.1) 14 j) = (nI 8) then (az_v (az_v (s.1) 14 j (nI 0)) 14 j (((az_v (s.1) 14 j (nI 0)) 14 j) + (nI 1)), az_vl (az_vl (az_vl (s.2) 12 j (v_Mo_onJV (s.1) kc (((s.2) 12 j) ^^^ ((s.2) 13 j)))) 13 j 0) 13 j (((az_vl (az_vl (s.2) 12 j (v_Mo_onJV (s.1) kc (((s.2) 12 j) ^^^ ((s.2) 13 j)))) 13 j 0) 13 j) ||| (jL_shl (Int32.toInt64 ((az_v (s.1) 14 j (nI 0)) 1 (k + t))) ((nI 56) - ((nI 8) * ((az_v (s.1) 14 j (nI 0)) 14 j)))))) else (az_v (s.1) 14 j (((s.1) 14 j) + (nI 1)), az_vl (s.2) 13 j (((s.2) 13 j) ||| (jL_shl (Int32.toInt64 ((s.1) 1 (k + t))) ((nI 56) - ((nI 8) * ((s.1) 14 j)))))))) t
theorem v_Mo_take1V_L53_z (zI : Nat → Nat → Int32) (zL : Nat → Nat → Int64) (j : Nat) (kc : Nat) (k : Nat) (mm : Nat) : v_Mo_take1V_L53 zI zL j kc k mm 0 = (v_Mo_prepareJV_zI zI zL j kc, zL) := rfl
theorem v_Mo_take1V_L53_s (zI : Nat → Nat → Int32) (zL : Nat → Nat → Int64) (j : Nat) (kc : Nat) (k : Nat) (mm : Nat) (t : Nat) : v_Mo_take1V_L53 zI zL j kc k mm (t + 1) = (if (((v_Mo_take1V_L53 zI zL j kc k mm t).1) 14 j) = (nI 8) then (az_v (az_v ((v_Mo_take1V_L53 zI zL j kc k mm t).1) 14 j (nI 0)) 14 j (((az_v ((v_Mo_take1V_L53 zI zL j kc k mm t).1) 14 j (nI 0)) 14 j) + (nI 1)), az_vl (az_vl (az_vl ((v_Mo_take1V_L53 zI zL j kc k mm t).2) 12 j (v_Mo_onJV ((v_Mo_take1V_L53 zI zL j kc k mm t).1) kc ((((v_Mo_take1V_L53 zI zL j kc k mm t).2) 12 j) ^^^ (((v_Mo_take1V_L53 zI zL j kc k mm t).2) 13 j)))) 13 j 0) 13 j (((az_vl (az_vl ((v_Mo_take1V_L53 zI zL j kc k mm t).2) 12 j (v_Mo_onJV ((v_Mo_take1V_L53 zI zL j kc k mm t).1) kc ((((v_Mo_take1V_L53 zI zL j kc k mm t).2) 12 j) ^^^ (((v_Mo_take1V_L53 zI zL j kc k mm t).2) 13 j)))) 13 j 0) 13 j) ||| (jL_shl (Int32.toInt64 ((az_v ((v_Mo_take1V_L53 zI zL j kc k mm t).1) 14 j (nI 0)) 1 (k + t))) ((nI 56) - ((nI 8) * ((az_v ((v_Mo_take1V_L53 zI zL j kc k mm t).1) 14 j (nI 0)) 14 j)))))) else (az_v ((v_Mo_take1V_L53 zI zL j kc k mm t).1) 14 j ((((v_Mo_take1V_L53 zI zL j kc k mm t).1) 14 j) + (nI 1)), az_vl ((v_Mo_take1V_L53 zI zL j kc k mm t).2) 13 j ((((v_Mo_take1V_L53 zI zL j kc k mm t).2) 13 j) ||| (jL_shl (Int32.toInt64 (((v_Mo_take1V_L53 zI zL j kc k mm t).1) 1 (k + t))) ((nI 56) - ((nI 8) * (((v_Mo_take1V_L53 zI zL j kc k mm t).1) 14 j))))))) := rfl
noncomputable def v_Mo_take1V (zI : Nat → Nat → Int32) (zL : Nat → Nat → Int64) (j : Nat) (kc : Nat) (k : Nat) (mm : Nat) : Int32 := (az_v ((v_Mo_take1V_L53 zI zL j kc k mm mm).1) 11 j ((((v_Mo_take1V_L53 zI zL j kc k mm mm).1) 11 j) + (nI mm))) 11 j
noncomputable def v_Mo_take1V_zI (zI : Nat → Nat → Int32) (zL : Nat → Nat → Int64) (j : Nat) (kc : Nat) (k : Nat) (mm : Nat) : Nat → Nat → Int32 := az_v ((v_Mo_take1V_L53 zI zL j kc k mm mm).1) 11 j ((((v_Mo_take1V_L53 zI zL j kc k mm mm).1) 11 j) + (nI mm))
noncomputable def v_Mo_take1V_zL (zI : Nat → Nat → Int32) (zL : Nat → Nat → Int64) (j : Nat) (kc : Nat) (k : Nat) (mm : Nat) : Nat → Nat → Int64 := (v_Mo_take1V_L53 zI zL j kc k mm mm).2
abbrev ws_Mo_take1V : List Cond := Cond.code y_Mo_take b_Mo_take 6 (some .int) :: aw_G
abbrev rm_Mo_take1V : Room := { frames := 4, cells := 0, slots := 0, locals := 94 }
set_option maxHeartbeats 4000000 in
set_option maxRecDepth 100000 in
theorem k_Mo_take1V (l : Launch) (D : va_G) (g : Nat → ClassId) (ad : Nat → Nat) (N0 : Nat) (zG : Nat → Nat × Nat) (zO : Nat → Nat) (zX : Nat → Nat → Int64) (zY : Nat → Nat → Int32) (zA : Nat → Nat → Nat → Int32) (zB : Nat → Int32) (zM : Nat → Nat × Nat) (zI : Nat → Nat → Int32) (zL : Nat → Nat → Int64) (zK : Int32) (zN : Nat) (zF : Int32) (zQ : Int64) (j : Nat) (kc : Nat) (k : Nat) (mm : Nat) (hj : j < 4) (hk : k + mm ≤ 64) (hs : (zM j).1 = 3 ∧ (zM j).2 = 5) (hkc : kc < 5) (hci : zI 3 j = nI kc) : Met l y_Mo_take ws_Mo_take1V rm_Mo_take1V (va_Pc ([.ref (aw_m ad 0), .int (nI j), .int (nI k), .int (nI mm)] : List Value) (ag_B D g N0 (az_Sh g ad zG zO zX zY zA zB zM zI zL zK zN zF zQ))) (va_Qi (fun r (_ : Unit) => r = v_Mo_take1V zI zL j kc k mm) (fun (_ : Unit) t => ag_H D N0 (az_Sh g ad zG zO zX zY zA zB zM (v_Mo_take1V_zI zI zL j kc k mm) (v_Mo_take1V_zL zI zL j kc k mm) (nI kc) (az_wn kc) (nI 0) zQ) t.heap) (aw_Z N0)) 0 0 (aw_Z N0) := by
  refine Met.ofW (cc := b_Mo_take) (maxL := 6) (ret := (some .int)) (by decide) rfl ?_
  intro p e s m args below meth c s₁ B hml hv
  obtain ⟨rfl, ⟨L, hP, hD, hSh⟩, hU⟩ := hv
  have hx := B.exec
  have hb := B.bytes
  have hr := B.returns
  have hG : ∀ w ∈ aw_G, w.before _ s = true := fun w h => atoms_spec (ws := ws_Mo_take1V) B.pre w (List.mem_cons_of_mem _ h)
  have hown : s.vm.findClass "RuleCiphersModel" = some m.cls := findClass_of_methodNamed B.named
  have hlocks := B.notSynchronized
  have hE := hU.1
  have hK := hE.1
  have hN := hE.2.1
  have hS : va_S (aw_Z N0) s.heap s.heap [] := va_S.rf
  have hl := lv_entry ([.ref (aw_m ad 0), .int (nI j), .int (nI k), .int (nI mm)] : List Value) (n := 6) (Nat.le_of_ble_eq_true rfl)
  rw [lg_entry_eq]
  generalize (lg_sl ([.ref (aw_m ad 0), .int (nI j), .int (nI k), .int (nI mm)] : List Value) ++ List.replicate (6 - (lg_sl ([.ref (aw_m ad 0), .int (nI j), .int (nI k), .int (nI mm)] : List Value)).length) Slot.unset).toArray = ls at hl ⊢
  have hl : lv_has ls 6 [(0, .ref (aw_m ad 0)), (1, .int (nI j)), (2, .int (nI k)), (3, .int (nI mm))] := hl
  refine lv_iload_n hx hb d_Mo_take_0 rfl (lv_at hl 1 rfl) ?_
  refine aw_ci ((va_runS (As := [.int (nI j)]) (rest := []) ⟨hx, hb, hml, hown, hG⟩ (k_Mo_isContext1 l j hj) (aw_wS 1 hG gw_10_34 gw_10_32 gw_0_10 gw_10_33 rfl rfl hd_Mo_isContext ⟨Nat.le_of_ble_eq_true rfl, Nat.le_of_ble_eq_true rfl⟩) aw_p0 rfl rfl hl.1 rfl (lv_room (Nat.le_of_ble_eq_true rfl)) d_Mo_take_1 ⟨Nat.le_of_ble_eq_true rfl, Nat.le_of_ble_eq_true rfl⟩).run) (fun x1 hx1 => ?_)
  subst hx1
  refine lv_if_eq (tgt := 19) hx hb d_Mo_take_4 (by decide) (fun h => absurd h (by decide +kernel)) (fun _ => ?_)
  refine lv_iload_n hx hb d_Mo_take_7 rfl (lv_at hl 2 rfl) ?_
  refine lv_iload_n hx hb d_Mo_take_8 rfl (lv_at hl 3 rfl) ?_
  refine aw_ci ((va_runS (As := [.int (nI k), .int (nI mm)]) (rest := []) ⟨hx, hb, hml, hown, hG⟩ (k_Mo_isPart1 l k mm hk) (aw_wS 2 hG gw_12_29 gw_12_27 gw_0_10 gw_12_28 rfl rfl hd_Mo_isPart ⟨Nat.le_of_ble_eq_true rfl, Nat.le_of_ble_eq_true rfl⟩) aw_p0 rfl rfl hl.1 rfl (lv_room (Nat.le_of_ble_eq_true rfl)) d_Mo_take_9 ⟨Nat.le_of_ble_eq_true rfl, Nat.le_of_ble_eq_true rfl⟩).run) (fun x2 hx2 => ?_)
  subst hx2
  refine lv_if_eq (tgt := 19) hx hb d_Mo_take_12 (by decide) (fun h => absurd h (by decide +kernel)) (fun _ => ?_)
  refine lv_iconst (v := nI 1) hx hb d_Mo_take_15 (by decide +kernel) ?_
  refine lv_goto (tgt := 20) hx hb d_Mo_take_16 (by decide) ?_
  refine lv_istore hx hb d_Mo_take_20 hl (by decide) rfl (fun ls hl => ?_)
  have hl : lv_has ls 6 [(4, .int (nI 1)), (0, .ref (aw_m ad 0)), (1, .int (nI j)), (2, .int (nI k)), (3, .int (nI mm))] := hl
  refine lv_aload_n hx hb d_Mo_take_22 rfl (lv_at hl 1 rfl) ?_
  refine lv_iload hx hb d_Mo_take_23 (lv_at hl 0 rfl) ?_
  refine lv_if_ne (tgt := 32) hx hb d_Mo_take_25 (by decide) (fun _ => ?_) (fun h => absurd h (by decide +kernel))
  refine lv_aload_n hx hb d_Mo_take_32 rfl (lv_at hl 1 rfl) ?_
  refine lv_iload_n hx hb d_Mo_take_33 rfl (lv_at hl 2 rfl) ?_
  obtain ⟨_, he3⟩ := zr_M0 hSh
  refine va_calli (va_runV (As := [.int (nI j)]) (rest := [.ref (aw_m ad 0)]) ⟨hx, hb, hml, hown, hG⟩ (k_Mo_wrongTake0V l D g ad N0 zG zO zX zY zA zB zM zI zL zK zN zF zQ j hj hs) (aw_wV 1 hG gw_12_52 gw_12_50 gw_0_10 gw_12_51 gw_p_24 rfl rfl hd_Mo_wrongTake ⟨Nat.le_of_ble_eq_true rfl, Nat.le_of_ble_eq_true rfl⟩) (ag_qV (va_recv hK hP rfl he3) hP hD hSh hU hS) rfl rfl hl.1 rfl (lv_room (Nat.le_of_ble_eq_true rfl)) d_Mo_take_34 ⟨Nat.le_of_ble_eq_true rfl, Nat.le_of_ble_eq_true rfl⟩) hS (fun _ _ h => h) (fun _ h => h) ?_
  clear hP hD hSh hS he3
  intro x4 u8 t8 H locs ht _ ex4 hB _ _ hS
  obtain ⟨L, hP, hD, hSh⟩ := hB
  rw [ht] at hP
  clear ht
  subst ex4
  obtain ⟨_, he5⟩ := zr_M0 hSh
  refine va_calli (va_runV (As := [.int (nI 0)]) (rest := []) ⟨hx, hb, hml, hown, hG⟩ (k_Mo_refused0V l D g ad N0 zG zO zX zY zA zB zM zI zL zK zN zF zQ) (aw_wV 1 hG gw_10_37 gw_10_35 gw_0_10 gw_10_36 gw_p_9 rfl rfl hd_Mo_refused ⟨Nat.le_of_ble_eq_true rfl, Nat.le_of_ble_eq_true rfl⟩) (ag_qV (va_recv hK hP rfl he5) hP hD hSh hU hS) rfl rfl hl.1 rfl (lv_room (Nat.le_of_ble_eq_true rfl)) d_Mo_take_37 ⟨Nat.le_of_ble_eq_true rfl, Nat.le_of_ble_eq_true rfl⟩) hS (fun _ _ h => h) (fun _ h => h) ?_
  clear hP hD hSh hS he5
  intro x6 u8 t8 H locs ht _ ex6 hB _ _ hS
  obtain ⟨L, hP, hD, hSh⟩ := hB
  rw [ht] at hP
  clear ht
  subst ex6
  refine lv_if_eq (tgt := 45) hx hb d_Mo_take_40 (by decide) (fun _ => ?_) (fun h => absurd (by decide +kernel) h)
  refine lv_aload_n hx hb d_Mo_take_45 rfl (lv_at hl 1 rfl) ?_
  refine lv_iload_n hx hb d_Mo_take_46 rfl (lv_at hl 2 rfl) ?_
  obtain ⟨_, he7⟩ := zr_M0 hSh
  refine va_callv (va_runV (As := [.int (nI j)]) (rest := []) ⟨hx, hb, hml, hown, hG⟩ (k_Mo_prepareJV l D g ad N0 zG zO zX zY zA zB zM zI zL zK zN (nI 0) zQ j kc hj hkc hci) (aw_wV 1 hG gw_11_6 gw_11_4 gw_0_10 gw_11_5 gw_p_12 rfl rfl hd_Mo_prepare ⟨Nat.le_of_ble_eq_true rfl, Nat.le_of_ble_eq_true rfl⟩) (ag_qV (va_recv hK hP rfl he7) hP hD hSh hU hS) rfl rfl hl.1 rfl (lv_room (Nat.le_of_ble_eq_true rfl)) d_Mo_take_47 ⟨Nat.le_of_ble_eq_true rfl, Nat.le_of_ble_eq_true rfl⟩) hS (fun _ _ h => h) (fun _ h => h) ?_
  clear hP hD hSh hS he7
  intro u8 t8 H locs ht _ _ hB _ _ hS
  obtain ⟨L, hP, hD, hSh⟩ := hB
  rw [ht] at hP
  clear ht
  obtain ⟨zI8, ezI8⟩ : ∃ z : Nat → Nat → Int32, v_Mo_prepareJV_zI zI zL j kc = z := ⟨_, rfl⟩
  rw [ezI8] at hSh
  refine lv_iconst (v := nI 0) hx hb d_Mo_take_50 (by decide +kernel) ?_
  refine lv_istore hx hb d_Mo_take_51 hl (by decide) rfl (fun ls hl => ?_)
  have hl : lv_has ls 6 [(5, .int (nI 0)), (4, .int (nI 1)), (0, .ref (aw_m ad 0)), (1, .int (nI j)), (2, .int (nI k)), (3, .int (nI mm))] := hl
  have L53 : ∀ (d t : Nat) (H : Heap) (locs : List Loc) (L : va_W) (ls : Array Slot), t + d = mm → va_P D aw_C L H → va_D (aw_Z N0) L → az_Sh g ad zG zO zX zY zA zB zM ((v_Mo_take1V_L53 zI zL j kc k mm t).1) ((v_Mo_take1V_L53 zI zL j kc k mm t).2) (nI kc) (az_wn kc) (nI 0) zQ L → va_S (aw_Z N0) s.heap H locs → lv_has ls 6 [(0, .ref (aw_m ad 0)), (1, .int (nI j)), (2, .int (nI k)), (3, .int (nI mm)), (4, .int (nI 1)), (5, .int (nI t))] → W p l e (headSpec ws_Mo_take1V rm_Mo_take1V).room s m ([.ref (aw_m ad 0), .int (nI j), .int (nI k), .int (nI mm)] : List Value).toArray below meth c H locs 0 0 (MQ below (va_Qi (fun r (_ : Unit) => r = v_Mo_take1V zI zL j kc k mm) (fun (_ : Unit) t => ag_H D N0 (az_Sh g ad zG zO zX zY zA zB zM (v_Mo_take1V_zI zI zL j kc k mm) (v_Mo_take1V_zL zI zL j kc k mm) (nI kc) (az_wn kc) (nI 0) zQ) t.heap) (aw_Z N0)) ([.ref (aw_m ad 0), .int (nI j), .int (nI k), .int (nI mm)] : List Value).toArray s 0 0 (aw_Z N0)) (F0 m 53 ls []) := by
    clear hl hP hD hSh hS
    intro d
    induction d with
    | zero =>
      intro t H locs L ls ht0 hP hD hSh hS hl
      have ht1 : t = mm := by omega
      rw [ht1] at hl
      rw [ht1] at hSh
      refine lv_iload hx hb d_Mo_take_53 (lv_at hl 5 rfl) ?_
      refine lv_iload_n hx hb d_Mo_take_55 rfl (lv_at hl 3 rfl) ?_
      refine lv_icmp_ge (tgt := 159) hx hb d_Mo_take_56 (by decide) (fun _ => ?_) (fun h => absurd (show nI mm ≤ nI mm from (nI_leI (by omega) (by omega)).mpr (by omega)) h)
      refine lv_aload_n hx hb d_Mo_take_159 rfl (lv_at hl 0 rfl) ?_
      obtain ⟨hsd10, he9⟩ := zr_M0 hSh
      refine va_get (C := R_Mo) (T := T_Mo) (N := 19) (v := .ref (aw_m ad 11)) hx hb hG in_Mo hown hK hP 67 he9 rfl 11 (by decide) (hG _ gw_9_36) (fun _ h => h) rfl d_Mo_take_160 ?_
      clear he9
      refine lv_iload_n hx hb d_Mo_take_163 rfl (lv_at hl 1 rfl) ?_
      refine lv_aload_n hx hb d_Mo_take_164 rfl (lv_at hl 0 rfl) ?_
      obtain ⟨hsd12, he11⟩ := zr_M0 hSh
      refine va_get (C := R_Mo) (T := T_Mo) (N := 19) (v := .ref (aw_m ad 11)) hx hb hG in_Mo hown hK hP 67 he11 rfl 11 (by decide) (hG _ gw_9_36) (fun _ h => h) rfl d_Mo_take_165 ?_
      clear he11
      refine lv_iload_n hx hb d_Mo_take_168 rfl (lv_at hl 1 rfl) ?_
      have he13 := zr_M11 hSh
      refine aw_ild hx hb hK hP 78 0 he13 rfl (k := j) (by omega) (by decide) d_Mo_take_169 ?_
      clear he13
      refine ag_topi (fun x14 ex14 => ?_)
      refine lv_iload_n hx hb d_Mo_take_170 rfl (lv_at hl 3 rfl) ?_
      refine lv_iadd hx hb d_Mo_take_171 ?_
      refine ag_topi (fun x15 ex15 => ?_)
      have he16 := zr_M11 hSh
      refine ag_ist hx hb hK hP hD hS 78 0 he16 rfl (k := j) (by omega) (by decide) d_Mo_take_172 (zw_I11w hSh j x15) ?_
      clear hP hD hSh hS he16
      intro H locs L hP hD hSh hS
      obtain ⟨zI17, ezI17⟩ : ∃ z : Nat → Nat → Int32, az_v ((v_Mo_take1V_L53 zI zL j kc k mm mm).1) 11 j x15 = z := ⟨_, rfl⟩
      rw [ezI17] at hSh
      refine lv_aload_n hx hb d_Mo_take_173 rfl (lv_at hl 0 rfl) ?_
      obtain ⟨hsd19, he18⟩ := zr_M0 hSh
      refine va_get (C := R_Mo) (T := T_Mo) (N := 19) (v := .ref (aw_m ad 11)) hx hb hG in_Mo hown hK hP 67 he18 rfl 11 (by decide) (hG _ gw_9_36) (fun _ h => h) rfl d_Mo_take_174 ?_
      clear he18
      refine lv_iload_n hx hb d_Mo_take_177 rfl (lv_at hl 1 rfl) ?_
      have he20 := zr_M11 hSh
      refine aw_ild hx hb hK hP 78 0 he20 rfl (k := j) (by omega) (by decide) d_Mo_take_178 ?_
      clear he20
      refine ag_topi (fun x21 ex21 => ?_)
      have gzI : zI17 = v_Mo_take1V_zI zI zL j kc k mm := by subst ex21 ezI17 ex15 ex14 ezI8; rfl
      have gzL : (v_Mo_take1V_L53 zI zL j kc k mm mm).2 = v_Mo_take1V_zL zI zL j kc k mm := by subst ex21 ezI17 ex15 ex14 ezI8; rfl
      have hSh : az_Sh g ad zG zO zX zY zA zB zM (v_Mo_take1V_zI zI zL j kc k mm) (v_Mo_take1V_zL zI zL j kc k mm) (nI kc) (az_wn kc) (nI 0) zQ L := by rw [← gzI, ← gzL]; exact hSh
      exact W.iret hx hb hr (fun t ht hW => ⟨⟨_, (), rfl, (by subst ex21 ezI17 ex15 ex14 ezI8; rfl), ag_Hr ht hP hD hSh⟩, hS.F ht⟩) hS.2.2 d_Mo_take_179
    | succ d ih =>
      intro t H locs L ls ht0 hP hD hSh hS hl
      refine lv_iload hx hb d_Mo_take_53 (lv_at hl 5 rfl) ?_
      refine lv_iload_n hx hb d_Mo_take_55 rfl (lv_at hl 3 rfl) ?_
      refine lv_icmp_ge (tgt := 159) hx hb d_Mo_take_56 (by decide) (fun h => absurd h (show ¬ nI mm ≤ nI t from fun h9 => absurd ((nI_leI (by omega) (by omega)).mp h9) (by omega))) (fun _ => ?_)
      refine lv_aload_n hx hb d_Mo_take_59 rfl (lv_at hl 0 rfl) ?_
      obtain ⟨hsd23, he22⟩ := zr_M0 hSh
      refine va_get (C := R_Mo) (T := T_Mo) (N := 19) (v := .ref (aw_m ad 14)) hx hb hG in_Mo hown hK hP 67 he22 rfl 14 (by decide) (hG _ gw_9_39) (fun _ h => h) rfl d_Mo_take_60 ?_
      clear he22
      refine lv_iload_n hx hb d_Mo_take_63 rfl (lv_at hl 1 rfl) ?_
      have he24 := zr_M14 hSh
      refine aw_ild hx hb hK hP 81 0 he24 rfl (k := j) (by omega) (by decide) d_Mo_take_64 ?_
      clear he24
      refine ag_topi (fun x25 ex25 => ?_)
      refine lv_bipush (v := nI 8) hx hb d_Mo_take_65 (by decide +kernel) ?_
      refine lv_icmp_ne (tgt := 107) hx hb d_Mo_take_67 (by decide) (fun hb26 => ?_) (fun hb26 => ?_)
      · refine lv_aload_n hx hb d_Mo_take_107 rfl (lv_at hl 0 rfl) ?_
        obtain ⟨hsd28, he27⟩ := zr_M0 hSh
        refine va_get (C := R_Mo) (T := T_Mo) (N := 19) (v := .ref (aw_m ad 13)) hx hb hG in_Mo hown hK hP 67 he27 rfl 13 (by decide) (hG _ gw_9_38) (fun _ h => h) rfl d_Mo_take_108 ?_
        clear he27
        refine lv_iload_n hx hb d_Mo_take_111 rfl (lv_at hl 1 rfl) ?_
        refine lv_aload_n hx hb d_Mo_take_112 rfl (lv_at hl 0 rfl) ?_
        obtain ⟨hsd30, he29⟩ := zr_M0 hSh
        refine va_get (C := R_Mo) (T := T_Mo) (N := 19) (v := .ref (aw_m ad 13)) hx hb hG in_Mo hown hK hP 67 he29 rfl 13 (by decide) (hG _ gw_9_38) (fun _ h => h) rfl d_Mo_take_113 ?_
        clear he29
        refine lv_iload_n hx hb d_Mo_take_116 rfl (lv_at hl 1 rfl) ?_
        have he31 := zr_M13 hSh
        refine aw_lld hx hb hK hP 80 1 he31 rfl (k := j) (by omega) (by decide) d_Mo_take_117 ?_
        clear he31
        refine ag_topl (fun y32 ey32 => ?_)
        refine lv_aload_n hx hb d_Mo_take_118 rfl (lv_at hl 0 rfl) ?_
        obtain ⟨hsd34, he33⟩ := zr_M0 hSh
        refine va_get (C := R_Mo) (T := T_Mo) (N := 19) (v := .ref (aw_m ad 1)) hx hb hG in_Mo hown hK hP 67 he33 rfl 1 (by decide) (hG _ gw_9_26) (fun _ h => h) rfl d_Mo_take_119 ?_
        clear he33
        refine lv_iload_n hx hb d_Mo_take_122 rfl (lv_at hl 2 rfl) ?_
        refine lv_iload hx hb d_Mo_take_123 (lv_at hl 5 rfl) ?_
        refine lv_iadd hx hb d_Mo_take_125 ?_
        refine aw_ti (nI_add k t) ?_
        have he35 := zr_M1 hSh
        refine aw_ild hx hb hK hP 68 0 he35 rfl (k := (k + t)) (by omega) (by decide) d_Mo_take_126 ?_
        clear he35
        refine ag_topi (fun x36 ex36 => ?_)
        refine lv_i2l hx hb d_Mo_take_127 rfl ?_
        refine ag_topl (fun y37 ey37 => ?_)
        refine lv_bipush (v := nI 56) hx hb d_Mo_take_128 (by decide +kernel) ?_
        refine lv_bipush (v := nI 8) hx hb d_Mo_take_130 (by decide +kernel) ?_
        refine lv_aload_n hx hb d_Mo_take_132 rfl (lv_at hl 0 rfl) ?_
        obtain ⟨hsd39, he38⟩ := zr_M0 hSh
        refine va_get (C := R_Mo) (T := T_Mo) (N := 19) (v := .ref (aw_m ad 14)) hx hb hG in_Mo hown hK hP 67 he38 rfl 14 (by decide) (hG _ gw_9_39) (fun _ h => h) rfl d_Mo_take_133 ?_
        clear he38
        refine lv_iload_n hx hb d_Mo_take_136 rfl (lv_at hl 1 rfl) ?_
        have he40 := zr_M14 hSh
        refine aw_ild hx hb hK hP 81 0 he40 rfl (k := j) (by omega) (by decide) d_Mo_take_137 ?_
        clear he40
        refine ag_topi (fun x41 ex41 => ?_)
        refine lv_imul hx hb d_Mo_take_138 ?_
        refine ag_topi (fun x42 ex42 => ?_)
        refine lv_isub hx hb d_Mo_take_139 ?_
        refine ag_topi (fun x43 ex43 => ?_)
        refine lv_lshl hx hb d_Mo_take_140 rfl ?_
        refine ag_topl (fun y44 ey44 => ?_)
        refine lv_lor hx hb d_Mo_take_141 ?_
        refine ag_topl (fun y45 ey45 => ?_)
        have he46 := zr_M13 hSh
        refine ag_lst hx hb hK hP hD hS 80 1 he46 rfl (k := j) (by omega) (by decide) d_Mo_take_142 (zw_L13w hSh j y45) ?_
        clear hP hD hSh hS he46
        intro H locs L hP hD hSh hS
        obtain ⟨zL47, ezL47⟩ : ∃ z : Nat → Nat → Int64, az_vl ((v_Mo_take1V_L53 zI zL j kc k mm t).2) 13 j y45 = z := ⟨_, rfl⟩
        rw [ezL47] at hSh
        refine lv_aload_n hx hb d_Mo_take_143 rfl (lv_at hl 0 rfl) ?_
        obtain ⟨hsd49, he48⟩ := zr_M0 hSh
        refine va_get (C := R_Mo) (T := T_Mo) (N := 19) (v := .ref (aw_m ad 14)) hx hb hG in_Mo hown hK hP 67 he48 rfl 14 (by decide) (hG _ gw_9_39) (fun _ h => h) rfl d_Mo_take_144 ?_
        clear he48
        refine lv_iload_n hx hb d_Mo_take_147 rfl (lv_at hl 1 rfl) ?_
        refine lv_dup2_11 hx hb d_Mo_take_148 rfl rfl ?_
        have he50 := zr_M14 hSh
        refine aw_ild hx hb hK hP 81 0 he50 rfl (k := j) (by omega) (by decide) d_Mo_take_149 ?_
        clear he50
        refine ag_topi (fun x51 ex51 => ?_)
        refine lv_iconst (v := nI 1) hx hb d_Mo_take_150 (by decide +kernel) ?_
        refine lv_iadd hx hb d_Mo_take_151 ?_
        refine ag_topi (fun x52 ex52 => ?_)
        have he53 := zr_M14 hSh
        refine ag_ist hx hb hK hP hD hS 81 0 he53 rfl (k := j) (by omega) (by decide) d_Mo_take_152 (zw_I14w hSh j x52) ?_
        clear hP hD hSh hS he53
        intro H locs L hP hD hSh hS
        obtain ⟨zI54, ezI54⟩ : ∃ z : Nat → Nat → Int32, az_v ((v_Mo_take1V_L53 zI zL j kc k mm t).1) 14 j x52 = z := ⟨_, rfl⟩
        rw [ezI54] at hSh
        refine lv_iinc (k := 5) (v := nI (t + 1)) hx hb d_Mo_take_153 hl rfl (aw_inc t 1 1 (by decide +kernel)) (by decide) rfl (fun ls hl => ?_)
        have hl : lv_has ls 6 [(5, .int (nI (t + 1))), (0, .ref (aw_m ad 0)), (1, .int (nI j)), (2, .int (nI k)), (3, .int (nI mm)), (4, .int (nI 1))] := hl
        refine lv_goto (tgt := 53) hx hb d_Mo_take_156 (by decide) ?_
        have hl := lv_sub hl (l' := [(0, .ref (aw_m ad 0)), (1, .int (nI j)), (2, .int (nI k)), (3, .int (nI mm)), (4, .int (nI 1)), (5, .int (nI (t + 1)))]) [1, 2, 3, 4, 5, 0] rfl
        have g0 : zI54 = (v_Mo_take1V_L53 zI zL j kc k mm (t + 1)).1 := by subst ezI54 ex52 ex51 ezL47 ey45 ey44 ex43 ex42 ex41 ey37 ex36 ey32 ex25 ezI8; (rw [v_Mo_take1V_L53_s, if_neg hb26]) <;> rfl
        have g1 : zL47 = (v_Mo_take1V_L53 zI zL j kc k mm (t + 1)).2 := by subst ezI54 ex52 ex51 ezL47 ey45 ey44 ex43 ex42 ex41 ey37 ex36 ey32 ex25 ezI8; (rw [v_Mo_take1V_L53_s, if_neg hb26]) <;> rfl
        have hSh : az_Sh g ad zG zO zX zY zA zB zM ((v_Mo_take1V_L53 zI zL j kc k mm (t + 1)).1) ((v_Mo_take1V_L53 zI zL j kc k mm (t + 1)).2) (nI kc) (az_wn kc) (nI 0) zQ L := by rw [← g0, ← g1]; exact hSh
        exact ih (t + 1) H locs L ls (by omega) hP hD hSh hS (by first | exact hl | simpa [Nat.add_assoc, Nat.mul_add, Nat.add_comm] using hl)
      · refine lv_aload_n hx hb d_Mo_take_70 rfl (lv_at hl 0 rfl) ?_
        obtain ⟨hsd56, he55⟩ := zr_M0 hSh
        refine va_get (C := R_Mo) (T := T_Mo) (N := 19) (v := .ref (aw_m ad 12)) hx hb hG in_Mo hown hK hP 67 he55 rfl 12 (by decide) (hG _ gw_9_37) (fun _ h => h) rfl d_Mo_take_71 ?_
        clear he55
        refine lv_iload_n hx hb d_Mo_take_74 rfl (lv_at hl 1 rfl) ?_
        refine lv_aload_n hx hb d_Mo_take_75 rfl (lv_at hl 0 rfl) ?_
        refine lv_aload_n hx hb d_Mo_take_76 rfl (lv_at hl 0 rfl) ?_
        obtain ⟨hsd58, he57⟩ := zr_M0 hSh
        refine va_get (C := R_Mo) (T := T_Mo) (N := 19) (v := .ref (aw_m ad 12)) hx hb hG in_Mo hown hK hP 67 he57 rfl 12 (by decide) (hG _ gw_9_37) (fun _ h => h) rfl d_Mo_take_77 ?_
        clear he57
        refine lv_iload_n hx hb d_Mo_take_80 rfl (lv_at hl 1 rfl) ?_
        have he59 := zr_M12 hSh
        refine aw_lld hx hb hK hP 79 1 he59 rfl (k := j) (by omega) (by decide) d_Mo_take_81 ?_
        clear he59
        refine ag_topl (fun y60 ey60 => ?_)
        refine lv_aload_n hx hb d_Mo_take_82 rfl (lv_at hl 0 rfl) ?_
        obtain ⟨hsd62, he61⟩ := zr_M0 hSh
        refine va_get (C := R_Mo) (T := T_Mo) (N := 19) (v := .ref (aw_m ad 13)) hx hb hG in_Mo hown hK hP 67 he61 rfl 13 (by decide) (hG _ gw_9_38) (fun _ h => h) rfl d_Mo_take_83 ?_
        clear he61
        refine lv_iload_n hx hb d_Mo_take_86 rfl (lv_at hl 1 rfl) ?_
        have he63 := zr_M13 hSh
        refine aw_lld hx hb hK hP 80 1 he63 rfl (k := j) (by omega) (by decide) d_Mo_take_87 ?_
        clear he63
        refine ag_topl (fun y64 ey64 => ?_)
        refine lv_lxor hx hb d_Mo_take_88 ?_
        refine ag_topl (fun y65 ey65 => ?_)
        obtain ⟨_, he66⟩ := zr_M0 hSh
        refine va_calll (va_runV (As := [.long y65]) (rest := [.int (nI j), .ref (aw_m ad 12)]) ⟨hx, hb, hml, hown, hG⟩ (k_Mo_onJV l D g ad N0 zG zO zX zY zA zB zM ((v_Mo_take1V_L53 zI zL j kc k mm t).1) ((v_Mo_take1V_L53 zI zL j kc k mm t).2) (az_wn kc) (nI 0) zQ kc y65 hkc) (aw_wV 1 hG gw_12_4 gw_12_2 gw_0_10 gw_12_3 gw_p_18 rfl rfl hd_Mo_on ⟨Nat.le_of_ble_eq_true rfl, Nat.le_of_ble_eq_true rfl⟩) (ag_qV (va_recv hK hP rfl he66) hP hD hSh hU hS) rfl rfl hl.1 rfl (lv_room (Nat.le_of_ble_eq_true rfl)) d_Mo_take_89 ⟨Nat.le_of_ble_eq_true rfl, Nat.le_of_ble_eq_true rfl⟩) hS (fun _ _ h => h) (fun _ h => h) ?_
        clear hP hD hSh hS he66
        intro y67 u8 t8 H locs ht _ ey67 hB _ _ hS
        obtain ⟨L, hP, hD, hSh⟩ := hB
        rw [ht] at hP
        clear ht
        have ey67 := ey67.symm
        have he68 := zr_M12 hSh
        refine ag_lst hx hb hK hP hD hS 79 1 he68 rfl (k := j) (by omega) (by decide) d_Mo_take_92 (zw_L12w hSh j y67) ?_
        clear hP hD hSh hS he68
        intro H locs L hP hD hSh hS
        obtain ⟨zL69, ezL69⟩ : ∃ z : Nat → Nat → Int64, az_vl ((v_Mo_take1V_L53 zI zL j kc k mm t).2) 12 j y67 = z := ⟨_, rfl⟩
        rw [ezL69] at hSh
        refine lv_aload_n hx hb d_Mo_take_93 rfl (lv_at hl 0 rfl) ?_
        obtain ⟨hsd71, he70⟩ := zr_M0 hSh
        refine va_get (C := R_Mo) (T := T_Mo) (N := 19) (v := .ref (aw_m ad 13)) hx hb hG in_Mo hown hK hP 67 he70 rfl 13 (by decide) (hG _ gw_9_38) (fun _ h => h) rfl d_Mo_take_94 ?_
        clear he70
        refine lv_iload_n hx hb d_Mo_take_97 rfl (lv_at hl 1 rfl) ?_
        refine lv_lconst (v := 0) hx hb d_Mo_take_98 (by decide +kernel) ?_
        have he72 := zr_M13 hSh
        refine ag_lst hx hb hK hP hD hS 80 1 he72 rfl (k := j) (by omega) (by decide) d_Mo_take_99 (zw_L13w hSh j 0) ?_
        clear hP hD hSh hS he72
        intro H locs L hP hD hSh hS
        obtain ⟨zL73, ezL73⟩ : ∃ z : Nat → Nat → Int64, az_vl zL69 13 j 0 = z := ⟨_, rfl⟩
        rw [ezL73] at hSh
        refine lv_aload_n hx hb d_Mo_take_100 rfl (lv_at hl 0 rfl) ?_
        obtain ⟨hsd75, he74⟩ := zr_M0 hSh
        refine va_get (C := R_Mo) (T := T_Mo) (N := 19) (v := .ref (aw_m ad 14)) hx hb hG in_Mo hown hK hP 67 he74 rfl 14 (by decide) (hG _ gw_9_39) (fun _ h => h) rfl d_Mo_take_101 ?_
        clear he74
        refine lv_iload_n hx hb d_Mo_take_104 rfl (lv_at hl 1 rfl) ?_
        refine lv_iconst (v := nI 0) hx hb d_Mo_take_105 (by decide +kernel) ?_
        have he76 := zr_M14 hSh
        refine ag_ist hx hb hK hP hD hS 81 0 he76 rfl (k := j) (by omega) (by decide) d_Mo_take_106 (zw_I14w hSh j (nI 0)) ?_
        clear hP hD hSh hS he76
        intro H locs L hP hD hSh hS
        obtain ⟨zI77, ezI77⟩ : ∃ z : Nat → Nat → Int32, az_v ((v_Mo_take1V_L53 zI zL j kc k mm t).1) 14 j (nI 0) = z := ⟨_, rfl⟩
        rw [ezI77] at hSh
        refine lv_aload_n hx hb d_Mo_take_107 rfl (lv_at hl 0 rfl) ?_
        obtain ⟨hsd79, he78⟩ := zr_M0 hSh
        refine va_get (C := R_Mo) (T := T_Mo) (N := 19) (v := .ref (aw_m ad 13)) hx hb hG in_Mo hown hK hP 67 he78 rfl 13 (by decide) (hG _ gw_9_38) (fun _ h => h) rfl d_Mo_take_108 ?_
        clear he78
        refine lv_iload_n hx hb d_Mo_take_111 rfl (lv_at hl 1 rfl) ?_
        refine lv_aload_n hx hb d_Mo_take_112 rfl (lv_at hl 0 rfl) ?_
        obtain ⟨hsd81, he80⟩ := zr_M0 hSh
        refine va_get (C := R_Mo) (T := T_Mo) (N := 19) (v := .ref (aw_m ad 13)) hx hb hG in_Mo hown hK hP 67 he80 rfl 13 (by decide) (hG _ gw_9_38) (fun _ h => h) rfl d_Mo_take_113 ?_
        clear he80
        refine lv_iload_n hx hb d_Mo_take_116 rfl (lv_at hl 1 rfl) ?_
        have he82 := zr_M13 hSh
        refine aw_lld hx hb hK hP 80 1 he82 rfl (k := j) (by omega) (by decide) d_Mo_take_117 ?_
        clear he82
        refine ag_topl (fun y83 ey83 => ?_)
        refine lv_aload_n hx hb d_Mo_take_118 rfl (lv_at hl 0 rfl) ?_
        obtain ⟨hsd85, he84⟩ := zr_M0 hSh
        refine va_get (C := R_Mo) (T := T_Mo) (N := 19) (v := .ref (aw_m ad 1)) hx hb hG in_Mo hown hK hP 67 he84 rfl 1 (by decide) (hG _ gw_9_26) (fun _ h => h) rfl d_Mo_take_119 ?_
        clear he84
        refine lv_iload_n hx hb d_Mo_take_122 rfl (lv_at hl 2 rfl) ?_
        refine lv_iload hx hb d_Mo_take_123 (lv_at hl 5 rfl) ?_
        refine lv_iadd hx hb d_Mo_take_125 ?_
        refine aw_ti (nI_add k t) ?_
        have he86 := zr_M1 hSh
        refine aw_ild hx hb hK hP 68 0 he86 rfl (k := (k + t)) (by omega) (by decide) d_Mo_take_126 ?_
        clear he86
        refine ag_topi (fun x87 ex87 => ?_)
        refine lv_i2l hx hb d_Mo_take_127 rfl ?_
        refine ag_topl (fun y88 ey88 => ?_)
        refine lv_bipush (v := nI 56) hx hb d_Mo_take_128 (by decide +kernel) ?_
        refine lv_bipush (v := nI 8) hx hb d_Mo_take_130 (by decide +kernel) ?_
        refine lv_aload_n hx hb d_Mo_take_132 rfl (lv_at hl 0 rfl) ?_
        obtain ⟨hsd90, he89⟩ := zr_M0 hSh
        refine va_get (C := R_Mo) (T := T_Mo) (N := 19) (v := .ref (aw_m ad 14)) hx hb hG in_Mo hown hK hP 67 he89 rfl 14 (by decide) (hG _ gw_9_39) (fun _ h => h) rfl d_Mo_take_133 ?_
        clear he89
        refine lv_iload_n hx hb d_Mo_take_136 rfl (lv_at hl 1 rfl) ?_
        have he91 := zr_M14 hSh
        refine aw_ild hx hb hK hP 81 0 he91 rfl (k := j) (by omega) (by decide) d_Mo_take_137 ?_
        clear he91
        refine ag_topi (fun x92 ex92 => ?_)
        refine lv_imul hx hb d_Mo_take_138 ?_
        refine ag_topi (fun x93 ex93 => ?_)
        refine lv_isub hx hb d_Mo_take_139 ?_
        refine ag_topi (fun x94 ex94 => ?_)
        refine lv_lshl hx hb d_Mo_take_140 rfl ?_
        refine ag_topl (fun y95 ey95 => ?_)
        refine lv_lor hx hb d_Mo_take_141 ?_
        refine ag_topl (fun y96 ey96 => ?_)
        have he97 := zr_M13 hSh
        refine ag_lst hx hb hK hP hD hS 80 1 he97 rfl (k := j) (by omega) (by decide) d_Mo_take_142 (zw_L13w hSh j y96) ?_
        clear hP hD hSh hS he97
        intro H locs L hP hD hSh hS
        obtain ⟨zL98, ezL98⟩ : ∃ z : Nat → Nat → Int64, az_vl zL73 13 j y96 = z := ⟨_, rfl⟩
        rw [ezL98] at hSh
        refine lv_aload_n hx hb d_Mo_take_143 rfl (lv_at hl 0 rfl) ?_
        obtain ⟨hsd100, he99⟩ := zr_M0 hSh
        refine va_get (C := R_Mo) (T := T_Mo) (N := 19) (v := .ref (aw_m ad 14)) hx hb hG in_Mo hown hK hP 67 he99 rfl 14 (by decide) (hG _ gw_9_39) (fun _ h => h) rfl d_Mo_take_144 ?_
        clear he99
        refine lv_iload_n hx hb d_Mo_take_147 rfl (lv_at hl 1 rfl) ?_
        refine lv_dup2_11 hx hb d_Mo_take_148 rfl rfl ?_
        have he101 := zr_M14 hSh
        refine aw_ild hx hb hK hP 81 0 he101 rfl (k := j) (by omega) (by decide) d_Mo_take_149 ?_
        clear he101
        refine ag_topi (fun x102 ex102 => ?_)
        refine lv_iconst (v := nI 1) hx hb d_Mo_take_150 (by decide +kernel) ?_
        refine lv_iadd hx hb d_Mo_take_151 ?_
        refine ag_topi (fun x103 ex103 => ?_)
        have he104 := zr_M14 hSh
        refine ag_ist hx hb hK hP hD hS 81 0 he104 rfl (k := j) (by omega) (by decide) d_Mo_take_152 (zw_I14w hSh j x103) ?_
        clear hP hD hSh hS he104
        intro H locs L hP hD hSh hS
        obtain ⟨zI105, ezI105⟩ : ∃ z : Nat → Nat → Int32, az_v zI77 14 j x103 = z := ⟨_, rfl⟩
        rw [ezI105] at hSh
        refine lv_iinc (k := 5) (v := nI (t + 1)) hx hb d_Mo_take_153 hl rfl (aw_inc t 1 1 (by decide +kernel)) (by decide) rfl (fun ls hl => ?_)
        have hl : lv_has ls 6 [(5, .int (nI (t + 1))), (0, .ref (aw_m ad 0)), (1, .int (nI j)), (2, .int (nI k)), (3, .int (nI mm)), (4, .int (nI 1))] := hl
        refine lv_goto (tgt := 53) hx hb d_Mo_take_156 (by decide) ?_
        have hl := lv_sub hl (l' := [(0, .ref (aw_m ad 0)), (1, .int (nI j)), (2, .int (nI k)), (3, .int (nI mm)), (4, .int (nI 1)), (5, .int (nI (t + 1)))]) [1, 2, 3, 4, 5, 0] rfl
        have g0 : zI105 = (v_Mo_take1V_L53 zI zL j kc k mm (t + 1)).1 := by subst ezI105 ex103 ex102 ezL98 ey96 ey95 ex94 ex93 ex92 ey88 ex87 ey83 ezI77 ezL73 ezL69 ey67 ey65 ey64 ey60 ex25 ezI8; (rw [v_Mo_take1V_L53_s, if_pos hb26]) <;> rfl
        have g1 : zL98 = (v_Mo_take1V_L53 zI zL j kc k mm (t + 1)).2 := by subst ezI105 ex103 ex102 ezL98 ey96 ey95 ex94 ex93 ex92 ey88 ex87 ey83 ezI77 ezL73 ezL69 ey67 ey65 ey64 ey60 ex25 ezI8; (rw [v_Mo_take1V_L53_s, if_pos hb26]) <;> rfl
        have hSh : az_Sh g ad zG zO zX zY zA zB zM ((v_Mo_take1V_L53 zI zL j kc k mm (t + 1)).1) ((v_Mo_take1V_L53 zI zL j kc k mm (t + 1)).2) (nI kc) (az_wn kc) (nI 0) zQ L := by rw [← g0, ← g1]; exact hSh
        exact ih (t + 1) H locs L ls (by omega) hP hD hSh hS (by first | exact hl | simpa [Nat.add_assoc, Nat.mul_add, Nat.add_comm] using hl)
  have hl := lv_sub hl (l' := [(0, .ref (aw_m ad 0)), (1, .int (nI j)), (2, .int (nI k)), (3, .int (nI mm)), (4, .int (nI 1)), (5, .int (nI 0))]) [2, 3, 4, 5, 1, 0] rfl
  have g0 : zI8 = (v_Mo_take1V_L53 zI zL j kc k mm 0).1 := by subst ezI8; (rw [v_Mo_take1V_L53_z]) <;> rfl
  have g1 : zL = (v_Mo_take1V_L53 zI zL j kc k mm 0).2 := by subst ezI8; (rw [v_Mo_take1V_L53_z]) <;> rfl
  have hSh : az_Sh g ad zG zO zX zY zA zB zM ((v_Mo_take1V_L53 zI zL j kc k mm 0).1) ((v_Mo_take1V_L53 zI zL j kc k mm 0).2) (nI kc) (az_wn kc) (nI 0) zQ L := by rw [← g0, ← g1]; exact hSh
  exact L53 mm 0 _ _ L ls (by omega) hP hD hSh hS (by first | exact hl | simpa using hl)
noncomputable def v_Mo_tagXcV  : Int64 := 0
abbrev ws_Mo_tagXcV : List Cond := Cond.code y_Mo_tag b_Mo_tag 8 (some .long) :: aw_G
abbrev rm_Mo_tagXcV : Room := { frames := 1, cells := 0, slots := 0, locals := 21 }
set_option maxHeartbeats 4000000 in
set_option maxRecDepth 100000 in
theorem k_Mo_tagXcV (l : Launch) (D : va_G) (g : Nat → ClassId) (ad : Nat → Nat) (N0 : Nat) (zG : Nat → Nat × Nat) (zO : Nat → Nat) (zX : Nat → Nat → Int64) (zY : Nat → Nat → Int32) (zA : Nat → Nat → Nat → Int32) (zB : Nat → Int32) (zM : Nat → Nat × Nat) (zI : Nat → Nat → Int32) (zL : Nat → Nat → Int64) (zK : Int32) (zN : Nat) (zF : Int32) (zQ : Int64) (c0 : Int32) (hc : c0 < 0 ∨ (¬ c0 < 0 ∧ ¬ c0 < nI 4)) : Met l y_Mo_tag ws_Mo_tagXcV rm_Mo_tagXcV (va_Pc ([.ref (aw_m ad 0), .int c0] : List Value) (ag_B D g N0 (az_Sh g ad zG zO zX zY zA zB zM zI zL zK zN zF zQ))) (va_Ql (fun r (_ : Unit) => r = v_Mo_tagXcV ) (fun (_ : Unit) t => ag_H D N0 (az_Sh g ad zG zO zX zY zA zB zM zI zL zK zN (nI 1) zQ) t.heap) (aw_Z N0)) 0 0 (aw_Z N0) := by
  refine Met.ofW (cc := b_Mo_tag) (maxL := 8) (ret := (some .long)) (by decide) rfl ?_
  intro p e s m args below meth c s₁ B hml hv
  obtain ⟨rfl, ⟨L, hP, hD, hSh⟩, hU⟩ := hv
  have hx := B.exec
  have hb := B.bytes
  have hr := B.returns
  have hG : ∀ w ∈ aw_G, w.before _ s = true := fun w h => atoms_spec (ws := ws_Mo_tagXcV) B.pre w (List.mem_cons_of_mem _ h)
  have hown : s.vm.findClass "RuleCiphersModel" = some m.cls := findClass_of_methodNamed B.named
  have hlocks := B.notSynchronized
  have hE := hU.1
  have hK := hE.1
  have hN := hE.2.1
  have hS : va_S (aw_Z N0) s.heap s.heap [] := va_S.rf
  have hl := lv_entry ([.ref (aw_m ad 0), .int c0] : List Value) (n := 8) (Nat.le_of_ble_eq_true rfl)
  rw [lg_entry_eq]
  generalize (lg_sl ([.ref (aw_m ad 0), .int c0] : List Value) ++ List.replicate (8 - (lg_sl ([.ref (aw_m ad 0), .int c0] : List Value)).length) Slot.unset).toArray = ls at hl ⊢
  have hl : lv_has ls 8 [(0, .ref (aw_m ad 0)), (1, .int c0)] := hl
  refine lv_aload_n hx hb d_Mo_tag_0 rfl (lv_at hl 0 rfl) ?_
  refine lv_iload_n hx hb d_Mo_tag_1 rfl (lv_at hl 1 rfl) ?_
  refine aw_ci ((va_runS (As := [.int c0]) (rest := [.ref (aw_m ad 0)]) ⟨hx, hb, hml, hown, hG⟩ (k_Mo_isContext0 l c0 hc) (aw_wS 1 hG gw_10_34 gw_10_32 gw_0_10 gw_10_33 rfl rfl hd_Mo_isContext ⟨Nat.le_of_ble_eq_true rfl, Nat.le_of_ble_eq_true rfl⟩) aw_p0 rfl rfl hl.1 rfl (lv_room (Nat.le_of_ble_eq_true rfl)) d_Mo_tag_2 ⟨Nat.le_of_ble_eq_true rfl, Nat.le_of_ble_eq_true rfl⟩).run) (fun x1 hx1 => ?_)
  subst hx1
  refine lv_if_ne (tgt := 12) hx hb d_Mo_tag_5 (by decide) (fun h => absurd (by decide +kernel) h) (fun _ => ?_)
  refine lv_iconst (v := nI 1) hx hb d_Mo_tag_8 (by decide +kernel) ?_
  refine lv_goto (tgt := 17) hx hb d_Mo_tag_9 (by decide) ?_
  obtain ⟨_, he2⟩ := zr_M0 hSh
  refine va_calli (va_runV (As := [.int (nI 1)]) (rest := []) ⟨hx, hb, hml, hown, hG⟩ (k_Mo_refused1V l D g ad N0 zG zO zX zY zA zB zM zI zL zK zN zF zQ 1 (by omega)) (aw_wV 1 hG gw_10_37 gw_10_35 gw_0_10 gw_10_36 gw_p_9 rfl rfl hd_Mo_refused ⟨Nat.le_of_ble_eq_true rfl, Nat.le_of_ble_eq_true rfl⟩) (ag_qV (va_recv hK hP rfl he2) hP hD hSh hU hS) rfl rfl hl.1 rfl (lv_room (Nat.le_of_ble_eq_true rfl)) d_Mo_tag_17 ⟨Nat.le_of_ble_eq_true rfl, Nat.le_of_ble_eq_true rfl⟩) hS (fun _ _ h => h) (fun _ h => h) ?_
  clear hP hD hSh hS he2
  intro x3 u8 t8 H locs ht _ ex3 hB _ _ hS
  obtain ⟨L, hP, hD, hSh⟩ := hB
  rw [ht] at hP
  clear ht
  subst ex3
  refine lv_if_eq (tgt := 25) hx hb d_Mo_tag_20 (by decide) (fun h => absurd h (by decide +kernel)) (fun _ => ?_)
  refine lv_lconst (v := 0) hx hb d_Mo_tag_23 (by decide +kernel) ?_
  exact W.lret hx hb hr (fun t ht hW => ⟨⟨_, (), rfl, (by rfl), ag_Hr ht hP hD hSh⟩, hS.F ht⟩) hS.2.2 d_Mo_tag_24
noncomputable def v_Mo_tagXsV  : Int64 := 0
abbrev ws_Mo_tagXsV : List Cond := Cond.code y_Mo_tag b_Mo_tag 8 (some .long) :: aw_G
abbrev rm_Mo_tagXsV : Room := { frames := 1, cells := 0, slots := 0, locals := 21 }
set_option maxHeartbeats 4000000 in
set_option maxRecDepth 100000 in
theorem k_Mo_tagXsV (l : Launch) (D : va_G) (g : Nat → ClassId) (ad : Nat → Nat) (N0 : Nat) (zG : Nat → Nat × Nat) (zO : Nat → Nat) (zX : Nat → Nat → Int64) (zY : Nat → Nat → Int32) (zA : Nat → Nat → Nat → Int32) (zB : Nat → Int32) (zM : Nat → Nat × Nat) (zI : Nat → Nat → Int32) (zL : Nat → Nat → Int64) (zK : Int32) (zN : Nat) (zF : Int32) (zQ : Int64) (j : Nat) (hj : j < 4) (hs : (zM j).1 ≤ 2 ∨ ((zM j).1 = 3 ∧ (zM j).2 ≠ 5)) : Met l y_Mo_tag ws_Mo_tagXsV rm_Mo_tagXsV (va_Pc ([.ref (aw_m ad 0), .int (nI j)] : List Value) (ag_B D g N0 (az_Sh g ad zG zO zX zY zA zB zM zI zL zK zN zF zQ))) (va_Ql (fun r (_ : Unit) => r = v_Mo_tagXsV ) (fun (_ : Unit) t => ag_H D N0 (az_Sh g ad zG zO zX zY zA zB zM zI zL zK zN (nI 2) zQ) t.heap) (aw_Z N0)) 0 0 (aw_Z N0) := by
  refine Met.ofW (cc := b_Mo_tag) (maxL := 8) (ret := (some .long)) (by decide) rfl ?_
  intro p e s m args below meth c s₁ B hml hv
  obtain ⟨rfl, ⟨L, hP, hD, hSh⟩, hU⟩ := hv
  have hx := B.exec
  have hb := B.bytes
  have hr := B.returns
  have hG : ∀ w ∈ aw_G, w.before _ s = true := fun w h => atoms_spec (ws := ws_Mo_tagXsV) B.pre w (List.mem_cons_of_mem _ h)
  have hown : s.vm.findClass "RuleCiphersModel" = some m.cls := findClass_of_methodNamed B.named
  have hlocks := B.notSynchronized
  have hE := hU.1
  have hK := hE.1
  have hN := hE.2.1
  have hS : va_S (aw_Z N0) s.heap s.heap [] := va_S.rf
  have hl := lv_entry ([.ref (aw_m ad 0), .int (nI j)] : List Value) (n := 8) (Nat.le_of_ble_eq_true rfl)
  rw [lg_entry_eq]
  generalize (lg_sl ([.ref (aw_m ad 0), .int (nI j)] : List Value) ++ List.replicate (8 - (lg_sl ([.ref (aw_m ad 0), .int (nI j)] : List Value)).length) Slot.unset).toArray = ls at hl ⊢
  have hl : lv_has ls 8 [(0, .ref (aw_m ad 0)), (1, .int (nI j))] := hl
  refine lv_aload_n hx hb d_Mo_tag_0 rfl (lv_at hl 0 rfl) ?_
  refine lv_iload_n hx hb d_Mo_tag_1 rfl (lv_at hl 1 rfl) ?_
  refine aw_ci ((va_runS (As := [.int (nI j)]) (rest := [.ref (aw_m ad 0)]) ⟨hx, hb, hml, hown, hG⟩ (k_Mo_isContext1 l j hj) (aw_wS 1 hG gw_10_34 gw_10_32 gw_0_10 gw_10_33 rfl rfl hd_Mo_isContext ⟨Nat.le_of_ble_eq_true rfl, Nat.le_of_ble_eq_true rfl⟩) aw_p0 rfl rfl hl.1 rfl (lv_room (Nat.le_of_ble_eq_true rfl)) d_Mo_tag_2 ⟨Nat.le_of_ble_eq_true rfl, Nat.le_of_ble_eq_true rfl⟩).run) (fun x1 hx1 => ?_)
  subst hx1
  refine lv_if_ne (tgt := 12) hx hb d_Mo_tag_5 (by decide) (fun _ => ?_) (fun h => absurd h (by decide +kernel))
  refine lv_aload_n hx hb d_Mo_tag_12 rfl (lv_at hl 0 rfl) ?_
  refine lv_iload_n hx hb d_Mo_tag_13 rfl (lv_at hl 1 rfl) ?_
  obtain ⟨_, he2⟩ := zr_M0 hSh
  refine va_calli (va_runV (As := [.int (nI j)]) (rest := [.ref (aw_m ad 0)]) ⟨hx, hb, hml, hown, hG⟩ (k_Mo_wrongTake2V l D g ad N0 zG zO zX zY zA zB zM zI zL zK zN zF zQ j hj hs) (aw_wV 1 hG gw_12_52 gw_12_50 gw_0_10 gw_12_51 gw_p_24 rfl rfl hd_Mo_wrongTake ⟨Nat.le_of_ble_eq_true rfl, Nat.le_of_ble_eq_true rfl⟩) (ag_qV (va_recv hK hP rfl he2) hP hD hSh hU hS) rfl rfl hl.1 rfl (lv_room (Nat.le_of_ble_eq_true rfl)) d_Mo_tag_14 ⟨Nat.le_of_ble_eq_true rfl, Nat.le_of_ble_eq_true rfl⟩) hS (fun _ _ h => h) (fun _ h => h) ?_
  clear hP hD hSh hS he2
  intro x3 u8 t8 H locs ht _ ex3 hB _ _ hS
  obtain ⟨L, hP, hD, hSh⟩ := hB
  rw [ht] at hP
  clear ht
  subst ex3
  obtain ⟨_, he4⟩ := zr_M0 hSh
  refine va_calli (va_runV (As := [.int (nI 2)]) (rest := []) ⟨hx, hb, hml, hown, hG⟩ (k_Mo_refused1V l D g ad N0 zG zO zX zY zA zB zM zI zL zK zN zF zQ 2 (by omega)) (aw_wV 1 hG gw_10_37 gw_10_35 gw_0_10 gw_10_36 gw_p_9 rfl rfl hd_Mo_refused ⟨Nat.le_of_ble_eq_true rfl, Nat.le_of_ble_eq_true rfl⟩) (ag_qV (va_recv hK hP rfl he4) hP hD hSh hU hS) rfl rfl hl.1 rfl (lv_room (Nat.le_of_ble_eq_true rfl)) d_Mo_tag_17 ⟨Nat.le_of_ble_eq_true rfl, Nat.le_of_ble_eq_true rfl⟩) hS (fun _ _ h => h) (fun _ h => h) ?_
  clear hP hD hSh hS he4
  intro x5 u8 t8 H locs ht _ ex5 hB _ _ hS
  obtain ⟨L, hP, hD, hSh⟩ := hB
  rw [ht] at hP
  clear ht
  subst ex5
  refine lv_if_eq (tgt := 25) hx hb d_Mo_tag_20 (by decide) (fun h => absurd h (by decide +kernel)) (fun _ => ?_)
  refine lv_lconst (v := 0) hx hb d_Mo_tag_23 (by decide +kernel) ?_
  exact W.lret hx hb hr (fun t ht hW => ⟨⟨_, (), rfl, (by rfl), ag_Hr ht hP hD hSh⟩, hS.F ht⟩) hS.2.2 d_Mo_tag_24
noncomputable def v_Mo_tag1V (zI : Nat → Nat → Int32) (zL : Nat → Nat → Int64) (j : Nat) (kc : Nat) : Int64 := (if ((v_Mo_prepareJV_zI zI zL j kc) 14 j) = (nI 8) then v_Mo_onJV (v_Mo_prepareJV_zI zI zL j kc) kc ((zL 12 j) ^^^ ((zL 13 j) ^^^ (v_Mo_twiceV (v_Mo_onJV (v_Mo_prepareJV_zI zI zL j kc) kc 0)))) else v_Mo_onJV (v_Mo_prepareJV_zI zI zL j kc) kc ((zL 12 j) ^^^ (((zL 13 j) ||| (jL_shl 128 ((nI 56) - ((nI 8) * ((v_Mo_prepareJV_zI zI zL j kc) 14 j))))) ^^^ (v_Mo_twiceV (v_Mo_twiceV (v_Mo_onJV (v_Mo_prepareJV_zI zI zL j kc) kc 0))))))
noncomputable def v_Mo_tag1V_zI (zI : Nat → Nat → Int32) (zL : Nat → Nat → Int64) (j : Nat) (kc : Nat) : Nat → Nat → Int32 := (if ((v_Mo_prepareJV_zI zI zL j kc) 14 j) = (nI 8) then v_Mo_emptyV_zI (v_Mo_prepareJV_zI zI zL j kc) zL j else v_Mo_emptyV_zI (v_Mo_prepareJV_zI zI zL j kc) zL j)
noncomputable def v_Mo_tag1V_zL (zI : Nat → Nat → Int32) (zL : Nat → Nat → Int64) (j : Nat) (kc : Nat) : Nat → Nat → Int64 := (if ((v_Mo_prepareJV_zI zI zL j kc) 14 j) = (nI 8) then v_Mo_emptyV_zL (v_Mo_prepareJV_zI zI zL j kc) zL j else v_Mo_emptyV_zL (v_Mo_prepareJV_zI zI zL j kc) zL j)
abbrev ws_Mo_tag1V : List Cond := Cond.code y_Mo_tag b_Mo_tag 8 (some .long) :: aw_G
abbrev rm_Mo_tag1V : Room := { frames := 4, cells := 0, slots := 0, locals := 94 }
set_option maxHeartbeats 4000000 in
set_option maxRecDepth 100000 in
theorem k_Mo_tag1V (l : Launch) (D : va_G) (g : Nat → ClassId) (ad : Nat → Nat) (N0 : Nat) (zG : Nat → Nat × Nat) (zO : Nat → Nat) (zX : Nat → Nat → Int64) (zY : Nat → Nat → Int32) (zA : Nat → Nat → Nat → Int32) (zB : Nat → Int32) (zM : Nat → Nat × Nat) (zI : Nat → Nat → Int32) (zL : Nat → Nat → Int64) (zK : Int32) (zN : Nat) (zF : Int32) (zQ : Int64) (j : Nat) (kc : Nat) (hj : j < 4) (hs : (zM j).1 = 3 ∧ (zM j).2 = 5) (hkc : kc < 5) (hci : zI 3 j = nI kc) : Met l y_Mo_tag ws_Mo_tag1V rm_Mo_tag1V (va_Pc ([.ref (aw_m ad 0), .int (nI j)] : List Value) (ag_B D g N0 (az_Sh g ad zG zO zX zY zA zB zM zI zL zK zN zF zQ))) (va_Ql (fun r (_ : Unit) => r = v_Mo_tag1V zI zL j kc) (fun (_ : Unit) t => ag_H D N0 (az_Sh g ad zG zO zX zY zA zB zM (v_Mo_tag1V_zI zI zL j kc) (v_Mo_tag1V_zL zI zL j kc) (nI kc) (az_wn kc) (nI 0) zQ) t.heap) (aw_Z N0)) 0 0 (aw_Z N0) := by
  refine Met.ofW (cc := b_Mo_tag) (maxL := 8) (ret := (some .long)) (by decide) rfl ?_
  intro p e s m args below meth c s₁ B hml hv
  obtain ⟨rfl, ⟨L, hP, hD, hSh⟩, hU⟩ := hv
  have hx := B.exec
  have hb := B.bytes
  have hr := B.returns
  have hG : ∀ w ∈ aw_G, w.before _ s = true := fun w h => atoms_spec (ws := ws_Mo_tag1V) B.pre w (List.mem_cons_of_mem _ h)
  have hown : s.vm.findClass "RuleCiphersModel" = some m.cls := findClass_of_methodNamed B.named
  have hlocks := B.notSynchronized
  have hE := hU.1
  have hK := hE.1
  have hN := hE.2.1
  have hS : va_S (aw_Z N0) s.heap s.heap [] := va_S.rf
  have hl := lv_entry ([.ref (aw_m ad 0), .int (nI j)] : List Value) (n := 8) (Nat.le_of_ble_eq_true rfl)
  rw [lg_entry_eq]
  generalize (lg_sl ([.ref (aw_m ad 0), .int (nI j)] : List Value) ++ List.replicate (8 - (lg_sl ([.ref (aw_m ad 0), .int (nI j)] : List Value)).length) Slot.unset).toArray = ls at hl ⊢
  have hl : lv_has ls 8 [(0, .ref (aw_m ad 0)), (1, .int (nI j))] := hl
  refine lv_aload_n hx hb d_Mo_tag_0 rfl (lv_at hl 0 rfl) ?_
  refine lv_iload_n hx hb d_Mo_tag_1 rfl (lv_at hl 1 rfl) ?_
  refine aw_ci ((va_runS (As := [.int (nI j)]) (rest := [.ref (aw_m ad 0)]) ⟨hx, hb, hml, hown, hG⟩ (k_Mo_isContext1 l j hj) (aw_wS 1 hG gw_10_34 gw_10_32 gw_0_10 gw_10_33 rfl rfl hd_Mo_isContext ⟨Nat.le_of_ble_eq_true rfl, Nat.le_of_ble_eq_true rfl⟩) aw_p0 rfl rfl hl.1 rfl (lv_room (Nat.le_of_ble_eq_true rfl)) d_Mo_tag_2 ⟨Nat.le_of_ble_eq_true rfl, Nat.le_of_ble_eq_true rfl⟩).run) (fun x1 hx1 => ?_)
  subst hx1
  refine lv_if_ne (tgt := 12) hx hb d_Mo_tag_5 (by decide) (fun _ => ?_) (fun h => absurd h (by decide +kernel))
  refine lv_aload_n hx hb d_Mo_tag_12 rfl (lv_at hl 0 rfl) ?_
  refine lv_iload_n hx hb d_Mo_tag_13 rfl (lv_at hl 1 rfl) ?_
  obtain ⟨_, he2⟩ := zr_M0 hSh
  refine va_calli (va_runV (As := [.int (nI j)]) (rest := [.ref (aw_m ad 0)]) ⟨hx, hb, hml, hown, hG⟩ (k_Mo_wrongTake0V l D g ad N0 zG zO zX zY zA zB zM zI zL zK zN zF zQ j hj hs) (aw_wV 1 hG gw_12_52 gw_12_50 gw_0_10 gw_12_51 gw_p_24 rfl rfl hd_Mo_wrongTake ⟨Nat.le_of_ble_eq_true rfl, Nat.le_of_ble_eq_true rfl⟩) (ag_qV (va_recv hK hP rfl he2) hP hD hSh hU hS) rfl rfl hl.1 rfl (lv_room (Nat.le_of_ble_eq_true rfl)) d_Mo_tag_14 ⟨Nat.le_of_ble_eq_true rfl, Nat.le_of_ble_eq_true rfl⟩) hS (fun _ _ h => h) (fun _ h => h) ?_
  clear hP hD hSh hS he2
  intro x3 u8 t8 H locs ht _ ex3 hB _ _ hS
  obtain ⟨L, hP, hD, hSh⟩ := hB
  rw [ht] at hP
  clear ht
  subst ex3
  obtain ⟨_, he4⟩ := zr_M0 hSh
  refine va_calli (va_runV (As := [.int (nI 0)]) (rest := []) ⟨hx, hb, hml, hown, hG⟩ (k_Mo_refused0V l D g ad N0 zG zO zX zY zA zB zM zI zL zK zN zF zQ) (aw_wV 1 hG gw_10_37 gw_10_35 gw_0_10 gw_10_36 gw_p_9 rfl rfl hd_Mo_refused ⟨Nat.le_of_ble_eq_true rfl, Nat.le_of_ble_eq_true rfl⟩) (ag_qV (va_recv hK hP rfl he4) hP hD hSh hU hS) rfl rfl hl.1 rfl (lv_room (Nat.le_of_ble_eq_true rfl)) d_Mo_tag_17 ⟨Nat.le_of_ble_eq_true rfl, Nat.le_of_ble_eq_true rfl⟩) hS (fun _ _ h => h) (fun _ h => h) ?_
  clear hP hD hSh hS he4
  intro x5 u8 t8 H locs ht _ ex5 hB _ _ hS
  obtain ⟨L, hP, hD, hSh⟩ := hB
  rw [ht] at hP
  clear ht
  subst ex5
  refine lv_if_eq (tgt := 25) hx hb d_Mo_tag_20 (by decide) (fun _ => ?_) (fun h => absurd (by decide +kernel) h)
  refine lv_aload_n hx hb d_Mo_tag_25 rfl (lv_at hl 0 rfl) ?_
  refine lv_iload_n hx hb d_Mo_tag_26 rfl (lv_at hl 1 rfl) ?_
  obtain ⟨_, he6⟩ := zr_M0 hSh
  refine va_callv (va_runV (As := [.int (nI j)]) (rest := []) ⟨hx, hb, hml, hown, hG⟩ (k_Mo_prepareJV l D g ad N0 zG zO zX zY zA zB zM zI zL zK zN (nI 0) zQ j kc hj hkc hci) (aw_wV 1 hG gw_11_6 gw_11_4 gw_0_10 gw_11_5 gw_p_12 rfl rfl hd_Mo_prepare ⟨Nat.le_of_ble_eq_true rfl, Nat.le_of_ble_eq_true rfl⟩) (ag_qV (va_recv hK hP rfl he6) hP hD hSh hU hS) rfl rfl hl.1 rfl (lv_room (Nat.le_of_ble_eq_true rfl)) d_Mo_tag_27 ⟨Nat.le_of_ble_eq_true rfl, Nat.le_of_ble_eq_true rfl⟩) hS (fun _ _ h => h) (fun _ h => h) ?_
  clear hP hD hSh hS he6
  intro u8 t8 H locs ht _ _ hB _ _ hS
  obtain ⟨L, hP, hD, hSh⟩ := hB
  rw [ht] at hP
  clear ht
  obtain ⟨zI7, ezI7⟩ : ∃ z : Nat → Nat → Int32, v_Mo_prepareJV_zI zI zL j kc = z := ⟨_, rfl⟩
  rw [ezI7] at hSh
  refine lv_aload_n hx hb d_Mo_tag_30 rfl (lv_at hl 0 rfl) ?_
  refine lv_lconst (v := 0) hx hb d_Mo_tag_31 (by decide +kernel) ?_
  obtain ⟨_, he8⟩ := zr_M0 hSh
  refine va_calll (va_runV (As := [.long 0]) (rest := []) ⟨hx, hb, hml, hown, hG⟩ (k_Mo_onJV l D g ad N0 zG zO zX zY zA zB zM zI7 zL (az_wn kc) (nI 0) zQ kc 0 hkc) (aw_wV 1 hG gw_12_4 gw_12_2 gw_0_10 gw_12_3 gw_p_18 rfl rfl hd_Mo_on ⟨Nat.le_of_ble_eq_true rfl, Nat.le_of_ble_eq_true rfl⟩) (ag_qV (va_recv hK hP rfl he8) hP hD hSh hU hS) rfl rfl hl.1 rfl (lv_room (Nat.le_of_ble_eq_true rfl)) d_Mo_tag_32 ⟨Nat.le_of_ble_eq_true rfl, Nat.le_of_ble_eq_true rfl⟩) hS (fun _ _ h => h) (fun _ h => h) ?_
  clear hP hD hSh hS he8
  intro y9 u8 t8 H locs ht _ ey9 hB _ _ hS
  obtain ⟨L, hP, hD, hSh⟩ := hB
  rw [ht] at hP
  clear ht
  have ey9 := ey9.symm
  refine aw_cl ((va_runS (As := [.long y9]) (rest := []) ⟨hx, hb, hml, hown, hG⟩ (k_Mo_twiceV l y9) (aw_wS 1 hG gw_12_59 gw_12_57 gw_0_10 gw_12_58 rfl rfl hd_Mo_twice ⟨Nat.le_of_ble_eq_true rfl, Nat.le_of_ble_eq_true rfl⟩) aw_p0 rfl rfl hl.1 rfl (lv_room (Nat.le_of_ble_eq_true rfl)) d_Mo_tag_35 ⟨Nat.le_of_ble_eq_true rfl, Nat.le_of_ble_eq_true rfl⟩).run) (fun y10 ey10 => ?_)
  have ey10 := ey10.symm
  refine lv_lstore_n hx hb d_Mo_tag_38 rfl hl (by decide) rfl (fun ls hl => ?_)
  have hl : lv_has ls 8 [(2, .long y10), (0, .ref (aw_m ad 0)), (1, .int (nI j))] := hl
  refine lv_aload_n hx hb d_Mo_tag_39 rfl (lv_at hl 1 rfl) ?_
  obtain ⟨hsd12, he11⟩ := zr_M0 hSh
  refine va_get (C := R_Mo) (T := T_Mo) (N := 19) (v := .ref (aw_m ad 14)) hx hb hG in_Mo hown hK hP 67 he11 rfl 14 (by decide) (hG _ gw_9_39) (fun _ h => h) rfl d_Mo_tag_40 ?_
  clear he11
  refine lv_iload_n hx hb d_Mo_tag_43 rfl (lv_at hl 2 rfl) ?_
  have he13 := zr_M14 hSh
  refine aw_ild hx hb hK hP 81 0 he13 rfl (k := j) (by omega) (by decide) d_Mo_tag_44 ?_
  clear he13
  refine ag_topi (fun x14 ex14 => ?_)
  refine lv_bipush (v := nI 8) hx hb d_Mo_tag_45 (by decide +kernel) ?_
  refine lv_icmp_ne (tgt := 61) hx hb d_Mo_tag_47 (by decide) (fun hb15 => ?_) (fun hb15 => ?_)
  · refine lv_aload_n hx hb d_Mo_tag_61 rfl (lv_at hl 1 rfl) ?_
    obtain ⟨hsd17, he16⟩ := zr_M0 hSh
    refine va_get (C := R_Mo) (T := T_Mo) (N := 19) (v := .ref (aw_m ad 13)) hx hb hG in_Mo hown hK hP 67 he16 rfl 13 (by decide) (hG _ gw_9_38) (fun _ h => h) rfl d_Mo_tag_62 ?_
    clear he16
    refine lv_iload_n hx hb d_Mo_tag_65 rfl (lv_at hl 2 rfl) ?_
    have he18 := zr_M13 hSh
    refine aw_lld hx hb hK hP 80 1 he18 rfl (k := j) (by omega) (by decide) d_Mo_tag_66 ?_
    clear he18
    refine ag_topl (fun y19 ey19 => ?_)
    refine lv_ldc2 (v := 128) hx hb hown (hG _ gw_13_2) d_Mo_tag_67 ?_
    refine lv_bipush (v := nI 56) hx hb d_Mo_tag_70 (by decide +kernel) ?_
    refine lv_bipush (v := nI 8) hx hb d_Mo_tag_72 (by decide +kernel) ?_
    refine lv_aload_n hx hb d_Mo_tag_74 rfl (lv_at hl 1 rfl) ?_
    obtain ⟨hsd21, he20⟩ := zr_M0 hSh
    refine va_get (C := R_Mo) (T := T_Mo) (N := 19) (v := .ref (aw_m ad 14)) hx hb hG in_Mo hown hK hP 67 he20 rfl 14 (by decide) (hG _ gw_9_39) (fun _ h => h) rfl d_Mo_tag_75 ?_
    clear he20
    refine lv_iload_n hx hb d_Mo_tag_78 rfl (lv_at hl 2 rfl) ?_
    have he22 := zr_M14 hSh
    refine aw_ild hx hb hK hP 81 0 he22 rfl (k := j) (by omega) (by decide) d_Mo_tag_79 ?_
    clear he22
    refine ag_topi (fun x23 ex23 => ?_)
    refine lv_imul hx hb d_Mo_tag_80 ?_
    refine ag_topi (fun x24 ex24 => ?_)
    refine lv_isub hx hb d_Mo_tag_81 ?_
    refine ag_topi (fun x25 ex25 => ?_)
    refine lv_lshl hx hb d_Mo_tag_82 rfl ?_
    refine ag_topl (fun y26 ey26 => ?_)
    refine lv_lor hx hb d_Mo_tag_83 ?_
    refine ag_topl (fun y27 ey27 => ?_)
    refine lv_lload_n hx hb d_Mo_tag_84 rfl (lv_at hl 0 rfl) ?_
    refine aw_cl ((va_runS (As := [.long y10]) (rest := [.long y27]) ⟨hx, hb, hml, hown, hG⟩ (k_Mo_twiceV l y10) (aw_wS 1 hG gw_12_59 gw_12_57 gw_0_10 gw_12_58 rfl rfl hd_Mo_twice ⟨Nat.le_of_ble_eq_true rfl, Nat.le_of_ble_eq_true rfl⟩) aw_p0 rfl rfl hl.1 rfl (lv_room (Nat.le_of_ble_eq_true rfl)) d_Mo_tag_85 ⟨Nat.le_of_ble_eq_true rfl, Nat.le_of_ble_eq_true rfl⟩).run) (fun y28 ey28 => ?_)
    have ey28 := ey28.symm
    refine lv_lxor hx hb d_Mo_tag_88 ?_
    refine ag_topl (fun y29 ey29 => ?_)
    refine lv_lstore hx hb d_Mo_tag_89 hl (by decide) rfl (fun ls hl => ?_)
    have hl : lv_has ls 8 [(4, .long y29), (2, .long y10), (0, .ref (aw_m ad 0)), (1, .int (nI j))] := hl
    refine lv_aload_n hx hb d_Mo_tag_91 rfl (lv_at hl 2 rfl) ?_
    refine lv_aload_n hx hb d_Mo_tag_92 rfl (lv_at hl 2 rfl) ?_
    obtain ⟨hsd31, he30⟩ := zr_M0 hSh
    refine va_get (C := R_Mo) (T := T_Mo) (N := 19) (v := .ref (aw_m ad 12)) hx hb hG in_Mo hown hK hP 67 he30 rfl 12 (by decide) (hG _ gw_9_37) (fun _ h => h) rfl d_Mo_tag_93 ?_
    clear he30
    refine lv_iload_n hx hb d_Mo_tag_96 rfl (lv_at hl 3 rfl) ?_
    have he32 := zr_M12 hSh
    refine aw_lld hx hb hK hP 79 1 he32 rfl (k := j) (by omega) (by decide) d_Mo_tag_97 ?_
    clear he32
    refine ag_topl (fun y33 ey33 => ?_)
    refine lv_lload hx hb d_Mo_tag_98 (lv_at hl 0 rfl) ?_
    refine lv_lxor hx hb d_Mo_tag_100 ?_
    refine ag_topl (fun y34 ey34 => ?_)
    obtain ⟨_, he35⟩ := zr_M0 hSh
    refine va_calll (va_runV (As := [.long y34]) (rest := []) ⟨hx, hb, hml, hown, hG⟩ (k_Mo_onJV l D g ad N0 zG zO zX zY zA zB zM zI7 zL (az_wn kc) (nI 0) zQ kc y34 hkc) (aw_wV 1 hG gw_12_4 gw_12_2 gw_0_10 gw_12_3 gw_p_18 rfl rfl hd_Mo_on ⟨Nat.le_of_ble_eq_true rfl, Nat.le_of_ble_eq_true rfl⟩) (ag_qV (va_recv hK hP rfl he35) hP hD hSh hU hS) rfl rfl hl.1 rfl (lv_room (Nat.le_of_ble_eq_true rfl)) d_Mo_tag_101 ⟨Nat.le_of_ble_eq_true rfl, Nat.le_of_ble_eq_true rfl⟩) hS (fun _ _ h => h) (fun _ h => h) ?_
    clear hP hD hSh hS he35
    intro y36 u8 t8 H locs ht _ ey36 hB _ _ hS
    obtain ⟨L, hP, hD, hSh⟩ := hB
    rw [ht] at hP
    clear ht
    have ey36 := ey36.symm
    refine lv_lstore hx hb d_Mo_tag_104 hl (by decide) rfl (fun ls hl => ?_)
    have hl : lv_has ls 8 [(6, .long y36), (4, .long y29), (2, .long y10), (0, .ref (aw_m ad 0)), (1, .int (nI j))] := hl
    refine lv_aload_n hx hb d_Mo_tag_106 rfl (lv_at hl 3 rfl) ?_
    refine lv_iload_n hx hb d_Mo_tag_107 rfl (lv_at hl 4 rfl) ?_
    obtain ⟨_, he37⟩ := zr_M0 hSh
    refine va_callv (va_runV (As := [.int (nI j)]) (rest := []) ⟨hx, hb, hml, hown, hG⟩ (k_Mo_emptyV l D g ad N0 zG zO zX zY zA zB zM zI7 zL (nI kc) (az_wn kc) (nI 0) zQ j hj) (aw_wV 1 hG gw_10_51 gw_10_49 gw_0_10 gw_10_50 gw_p_11 rfl rfl hd_Mo_empty ⟨Nat.le_of_ble_eq_true rfl, Nat.le_of_ble_eq_true rfl⟩) (ag_qV (va_recv hK hP rfl he37) hP hD hSh hU hS) rfl rfl hl.1 rfl (lv_room (Nat.le_of_ble_eq_true rfl)) d_Mo_tag_108 ⟨Nat.le_of_ble_eq_true rfl, Nat.le_of_ble_eq_true rfl⟩) hS (fun _ _ h => h) (fun _ h => h) ?_
    clear hP hD hSh hS he37
    intro u8 t8 H locs ht _ _ hB _ _ hS
    obtain ⟨L, hP, hD, hSh⟩ := hB
    rw [ht] at hP
    clear ht
    obtain ⟨zI38, ezI38⟩ : ∃ z : Nat → Nat → Int32, v_Mo_emptyV_zI zI7 zL j = z := ⟨_, rfl⟩
    rw [ezI38] at hSh
    obtain ⟨zL39, ezL39⟩ : ∃ z : Nat → Nat → Int64, v_Mo_emptyV_zL zI7 zL j = z := ⟨_, rfl⟩
    rw [ezL39] at hSh
    refine lv_lload hx hb d_Mo_tag_111 (lv_at hl 0 rfl) ?_
    have gzI : zI38 = v_Mo_tag1V_zI zI zL j kc := by subst ezL39 ezI38 ey36 ey34 ey33 ey29 ey28 ey27 ey26 ex25 ex24 ex23 ey19 ex14 ey10 ey9 ezI7; unfold v_Mo_tag1V_zI; rw [if_neg hb15]
    have gzL : zL39 = v_Mo_tag1V_zL zI zL j kc := by subst ezL39 ezI38 ey36 ey34 ey33 ey29 ey28 ey27 ey26 ex25 ex24 ex23 ey19 ex14 ey10 ey9 ezI7; unfold v_Mo_tag1V_zL; rw [if_neg hb15]
    have hSh : az_Sh g ad zG zO zX zY zA zB zM (v_Mo_tag1V_zI zI zL j kc) (v_Mo_tag1V_zL zI zL j kc) (nI kc) (az_wn kc) (nI 0) zQ L := by rw [← gzI, ← gzL]; exact hSh
    exact W.lret hx hb hr (fun t ht hW => ⟨⟨_, (), rfl, (by subst ezL39 ezI38 ey36 ey34 ey33 ey29 ey28 ey27 ey26 ex25 ex24 ex23 ey19 ex14 ey10 ey9 ezI7; unfold v_Mo_tag1V; rw [if_neg hb15]), ag_Hr ht hP hD hSh⟩, hS.F ht⟩) hS.2.2 d_Mo_tag_113
  · refine lv_aload_n hx hb d_Mo_tag_50 rfl (lv_at hl 1 rfl) ?_
    obtain ⟨hsd41, he40⟩ := zr_M0 hSh
    refine va_get (C := R_Mo) (T := T_Mo) (N := 19) (v := .ref (aw_m ad 13)) hx hb hG in_Mo hown hK hP 67 he40 rfl 13 (by decide) (hG _ gw_9_38) (fun _ h => h) rfl d_Mo_tag_51 ?_
    clear he40
    refine lv_iload_n hx hb d_Mo_tag_54 rfl (lv_at hl 2 rfl) ?_
    have he42 := zr_M13 hSh
    refine aw_lld hx hb hK hP 80 1 he42 rfl (k := j) (by omega) (by decide) d_Mo_tag_55 ?_
    clear he42
    refine ag_topl (fun y43 ey43 => ?_)
    refine lv_lload_n hx hb d_Mo_tag_56 rfl (lv_at hl 0 rfl) ?_
    refine lv_lxor hx hb d_Mo_tag_57 ?_
    refine ag_topl (fun y44 ey44 => ?_)
    refine lv_goto (tgt := 89) hx hb d_Mo_tag_58 (by decide) ?_
    refine lv_lstore hx hb d_Mo_tag_89 hl (by decide) rfl (fun ls hl => ?_)
    have hl : lv_has ls 8 [(4, .long y44), (2, .long y10), (0, .ref (aw_m ad 0)), (1, .int (nI j))] := hl
    refine lv_aload_n hx hb d_Mo_tag_91 rfl (lv_at hl 2 rfl) ?_
    refine lv_aload_n hx hb d_Mo_tag_92 rfl (lv_at hl 2 rfl) ?_
    obtain ⟨hsd46, he45⟩ := zr_M0 hSh
    refine va_get (C := R_Mo) (T := T_Mo) (N := 19) (v := .ref (aw_m ad 12)) hx hb hG in_Mo hown hK hP 67 he45 rfl 12 (by decide) (hG _ gw_9_37) (fun _ h => h) rfl d_Mo_tag_93 ?_
    clear he45
    refine lv_iload_n hx hb d_Mo_tag_96 rfl (lv_at hl 3 rfl) ?_
    have he47 := zr_M12 hSh
    refine aw_lld hx hb hK hP 79 1 he47 rfl (k := j) (by omega) (by decide) d_Mo_tag_97 ?_
    clear he47
    refine ag_topl (fun y48 ey48 => ?_)
    refine lv_lload hx hb d_Mo_tag_98 (lv_at hl 0 rfl) ?_
    refine lv_lxor hx hb d_Mo_tag_100 ?_
    refine ag_topl (fun y49 ey49 => ?_)
    obtain ⟨_, he50⟩ := zr_M0 hSh
    refine va_calll (va_runV (As := [.long y49]) (rest := []) ⟨hx, hb, hml, hown, hG⟩ (k_Mo_onJV l D g ad N0 zG zO zX zY zA zB zM zI7 zL (az_wn kc) (nI 0) zQ kc y49 hkc) (aw_wV 1 hG gw_12_4 gw_12_2 gw_0_10 gw_12_3 gw_p_18 rfl rfl hd_Mo_on ⟨Nat.le_of_ble_eq_true rfl, Nat.le_of_ble_eq_true rfl⟩) (ag_qV (va_recv hK hP rfl he50) hP hD hSh hU hS) rfl rfl hl.1 rfl (lv_room (Nat.le_of_ble_eq_true rfl)) d_Mo_tag_101 ⟨Nat.le_of_ble_eq_true rfl, Nat.le_of_ble_eq_true rfl⟩) hS (fun _ _ h => h) (fun _ h => h) ?_
    clear hP hD hSh hS he50
    intro y51 u8 t8 H locs ht _ ey51 hB _ _ hS
    obtain ⟨L, hP, hD, hSh⟩ := hB
    rw [ht] at hP
    clear ht
    have ey51 := ey51.symm
    refine lv_lstore hx hb d_Mo_tag_104 hl (by decide) rfl (fun ls hl => ?_)
    have hl : lv_has ls 8 [(6, .long y51), (4, .long y44), (2, .long y10), (0, .ref (aw_m ad 0)), (1, .int (nI j))] := hl
    refine lv_aload_n hx hb d_Mo_tag_106 rfl (lv_at hl 3 rfl) ?_
    refine lv_iload_n hx hb d_Mo_tag_107 rfl (lv_at hl 4 rfl) ?_
    obtain ⟨_, he52⟩ := zr_M0 hSh
    refine va_callv (va_runV (As := [.int (nI j)]) (rest := []) ⟨hx, hb, hml, hown, hG⟩ (k_Mo_emptyV l D g ad N0 zG zO zX zY zA zB zM zI7 zL (nI kc) (az_wn kc) (nI 0) zQ j hj) (aw_wV 1 hG gw_10_51 gw_10_49 gw_0_10 gw_10_50 gw_p_11 rfl rfl hd_Mo_empty ⟨Nat.le_of_ble_eq_true rfl, Nat.le_of_ble_eq_true rfl⟩) (ag_qV (va_recv hK hP rfl he52) hP hD hSh hU hS) rfl rfl hl.1 rfl (lv_room (Nat.le_of_ble_eq_true rfl)) d_Mo_tag_108 ⟨Nat.le_of_ble_eq_true rfl, Nat.le_of_ble_eq_true rfl⟩) hS (fun _ _ h => h) (fun _ h => h) ?_
    clear hP hD hSh hS he52
    intro u8 t8 H locs ht _ _ hB _ _ hS
    obtain ⟨L, hP, hD, hSh⟩ := hB
    rw [ht] at hP
    clear ht
    obtain ⟨zI53, ezI53⟩ : ∃ z : Nat → Nat → Int32, v_Mo_emptyV_zI zI7 zL j = z := ⟨_, rfl⟩
    rw [ezI53] at hSh
    obtain ⟨zL54, ezL54⟩ : ∃ z : Nat → Nat → Int64, v_Mo_emptyV_zL zI7 zL j = z := ⟨_, rfl⟩
    rw [ezL54] at hSh
    refine lv_lload hx hb d_Mo_tag_111 (lv_at hl 0 rfl) ?_
    have gzI : zI53 = v_Mo_tag1V_zI zI zL j kc := by subst ezL54 ezI53 ey51 ey49 ey48 ey44 ey43 ex14 ey10 ey9 ezI7; unfold v_Mo_tag1V_zI; rw [if_pos hb15]
    have gzL : zL54 = v_Mo_tag1V_zL zI zL j kc := by subst ezL54 ezI53 ey51 ey49 ey48 ey44 ey43 ex14 ey10 ey9 ezI7; unfold v_Mo_tag1V_zL; rw [if_pos hb15]
    have hSh : az_Sh g ad zG zO zX zY zA zB zM (v_Mo_tag1V_zI zI zL j kc) (v_Mo_tag1V_zL zI zL j kc) (nI kc) (az_wn kc) (nI 0) zQ L := by rw [← gzI, ← gzL]; exact hSh
    exact W.lret hx hb hr (fun t ht hW => ⟨⟨_, (), rfl, (by subst ezL54 ezI53 ey51 ey49 ey48 ey44 ey43 ex14 ey10 ey9 ezI7; unfold v_Mo_tag1V; rw [if_pos hb15]), ag_Hr ht hP hD hSh⟩, hS.F ht⟩) hS.2.2 d_Mo_tag_113
