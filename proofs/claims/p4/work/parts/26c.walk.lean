abbrev ws_Ru_feedXcV : List Cond := Cond.code y_Ru_feed b_Ru_feed 6 (some .int) :: aw_G
abbrev rm_Ru_feedXcV : Room := { frames := 7, cells := 1, slots := 6, locals := 111 }
set_option maxHeartbeats 4000000 in
set_option maxRecDepth 100000 in
theorem k_Ru_feedXcV (l : Launch) (hst : l.stackTraces = false) (D : va_G) (g : Nat → ClassId) (ad : Nat → Nat) (N0 : Nat) (zG : Nat → Nat × Nat) (zO : Nat → Nat) (zX : Nat → Nat → Int64) (zY : Nat → Nat → Int32) (zA : Nat → Nat → Nat → Int32) (zB : Nat → Int32) (zM : Nat → Nat × Nat) (zI : Nat → Nat → Int32) (zL : Nat → Nat → Int64) (zK : Int32) (zN : Nat) (zF : Int32) (zQ : Int64) (c0 : Int32) (bk : Int32) (fr : Int32) (m0 : Int32) (hc : c0 < 0 ∨ (¬ c0 < 0 ∧ ¬ c0 < nI 4)) : vx_Met l y_Ru_feed ws_Ru_feedXcV rm_Ru_feedXcV (va_Pc ([.ref (aw_r ad 0), .int c0, .int bk, .int fr, .int m0] : List Value) (ag_B D g N0 (az_Sh g ad zG zO zX zY zA zB zM zI zL zK zN zF zQ))) (va_Qv (fun (_ : Unit) => False) (fun (_ : Unit) _ => True) (aw_Z N0)) (vx_X (fun (_ : Unit) => True) (fun E (_ : Unit) t => E = "java/lang/IndexOutOfBoundsException" ∧ ag_H D N0 (az_Sh g ad zG zO zX zY zA zB zM zI zL zK zN zF zQ) t.heap) (aw_Z N0)) 1 6 (aw_Z N0) := by
  refine vx_ofW (cc := b_Ru_feed) (maxL := 6) (ret := (some .int)) (by decide) rfl ?_
  intro p e s m args below meth c s₁ B hml hex hv
  obtain ⟨rfl, ⟨L, hP, hD, hSh⟩, hU⟩ := hv
  have hx := B.exec
  have hb := B.bytes
  have hr := B.returns
  have hG : ∀ w ∈ aw_G, w.before _ s = true := fun w h => atoms_spec (ws := ws_Ru_feedXcV) B.pre w (List.mem_cons_of_mem _ h)
  have hown : s.vm.findClass "RuleCiphers" = some m.cls := findClass_of_methodNamed B.named
  have hlocks := B.notSynchronized
  have hE := hU.1
  have hK := hE.1
  have hN := hE.2.1
  have hS : va_S (aw_Z N0) s.heap s.heap [] := va_S.rf
  have hl := lv_entry ([.ref (aw_r ad 0), .int c0, .int bk, .int fr, .int m0] : List Value) (n := 6) (Nat.le_of_ble_eq_true rfl)
  rw [lg_entry_eq]
  generalize (lg_sl ([.ref (aw_r ad 0), .int c0, .int bk, .int fr, .int m0] : List Value) ++ List.replicate (6 - (lg_sl ([.ref (aw_r ad 0), .int c0, .int bk, .int fr, .int m0] : List Value)).length) Slot.unset).toArray = ls at hl ⊢
  have hl : lv_has ls 6 [(0, .ref (aw_r ad 0)), (1, .int c0), (2, .int bk), (3, .int fr), (4, .int m0)] := hl
  refine lv_aload_n hx hb d_Ru_feed_0 rfl (lv_at hl 0 rfl) ?_
  refine lv_iload_n hx hb d_Ru_feed_1 rfl (lv_at hl 1 rfl) ?_
  have he1 := zr_R0 hSh
  refine vx_callv (vx_runV (As := [.int c0]) (rest := []) ⟨hx, hb, hml, hown, hG⟩ (k_Ru_contextAtXV l hst D g ad N0 zG zO zX zY zA zB zM zI zL zK zN zF zQ c0 hc) (aw_wV 1 hG gw_2_47 gw_2_45 gw_0_1 gw_2_46 gw_p_0 rfl rfl hd_Ru_contextAt ⟨Nat.le_of_ble_eq_true rfl, Nat.le_of_ble_eq_true rfl⟩) (ag_qV (va_recv hK hP rfl he1) hP hD hSh hU hS) rfl rfl hl.1 rfl (lv_room (Nat.le_of_ble_eq_true rfl)) d_Ru_feed_2 ⟨Nat.le_of_ble_eq_true rfl, Nat.le_of_ble_eq_true rfl⟩) hS (fun _ _ h => h) (fun _ h => h) (fun _ _ h => h) (fun E ce q9 u t H locs ht _ _ hBX _ _ hS hce hcv hcl => ?_) (fun u t H locs _ _ hF _ _ _ _ => hF.elim)
  obtain ⟨rfl, L, hP, hD, hSh⟩ := hBX
  rw [ht] at hP
  exact vx_out (fun x h => (hex x h).elim) hlocks hce hcv hcl (fun t9 ht9 _ => ⟨(), trivial, ⟨rfl, ag_Hr ht9 hP hD hSh⟩, hS.F ht9⟩) hS.2.2 (Nat.le_of_ble_eq_true rfl) (Nat.le_of_ble_eq_true rfl)
abbrev ws_Ru_feedXbV : List Cond := Cond.code y_Ru_feed b_Ru_feed 6 (some .int) :: aw_G
abbrev rm_Ru_feedXbV : Room := { frames := 7, cells := 1, slots := 6, locals := 112 }
set_option maxHeartbeats 4000000 in
set_option maxRecDepth 100000 in
theorem k_Ru_feedXbV (l : Launch) (hst : l.stackTraces = false) (D : va_G) (g : Nat → ClassId) (ad : Nat → Nat) (N0 : Nat) (zG : Nat → Nat × Nat) (zO : Nat → Nat) (zX : Nat → Nat → Int64) (zY : Nat → Nat → Int32) (zA : Nat → Nat → Nat → Int32) (zB : Nat → Int32) (zM : Nat → Nat × Nat) (zI : Nat → Nat → Int32) (zL : Nat → Nat → Int64) (zK : Int32) (zN : Nat) (zF : Int32) (zQ : Int64) (j : Nat) (bk : Int32) (fr : Int32) (m0 : Int32) (hj : j < 4) (hi : m0 < 0 ∨ (0 < m0 ∧ fr < 0) ∨ (0 < m0 ∧ ¬ fr < 0 ∧ nI 64 - fr < m0)) : vx_Met l y_Ru_feed ws_Ru_feedXbV rm_Ru_feedXbV (va_Pc ([.ref (aw_r ad 0), .int (nI j), .int bk, .int fr, .int m0] : List Value) (ag_B D g N0 (az_Sh g ad zG zO zX zY zA zB zM zI zL zK zN zF zQ))) (va_Qv (fun (_ : Unit) => False) (fun (_ : Unit) _ => True) (aw_Z N0)) (vx_X (fun (_ : Unit) => True) (fun E (_ : Unit) t => E = "java/lang/IndexOutOfBoundsException" ∧ ag_H D N0 (az_Sh g ad zG zO zX zY zA zB zM zI zL zK zN zF zQ) t.heap) (aw_Z N0)) 1 6 (aw_Z N0) := by
  refine vx_ofW (cc := b_Ru_feed) (maxL := 6) (ret := (some .int)) (by decide) rfl ?_
  intro p e s m args below meth c s₁ B hml hex hv
  obtain ⟨rfl, ⟨L, hP, hD, hSh⟩, hU⟩ := hv
  have hx := B.exec
  have hb := B.bytes
  have hr := B.returns
  have hG : ∀ w ∈ aw_G, w.before _ s = true := fun w h => atoms_spec (ws := ws_Ru_feedXbV) B.pre w (List.mem_cons_of_mem _ h)
  have hown : s.vm.findClass "RuleCiphers" = some m.cls := findClass_of_methodNamed B.named
  have hlocks := B.notSynchronized
  have hE := hU.1
  have hK := hE.1
  have hN := hE.2.1
  have hS : va_S (aw_Z N0) s.heap s.heap [] := va_S.rf
  have hl := lv_entry ([.ref (aw_r ad 0), .int (nI j), .int bk, .int fr, .int m0] : List Value) (n := 6) (Nat.le_of_ble_eq_true rfl)
  rw [lg_entry_eq]
  generalize (lg_sl ([.ref (aw_r ad 0), .int (nI j), .int bk, .int fr, .int m0] : List Value) ++ List.replicate (6 - (lg_sl ([.ref (aw_r ad 0), .int (nI j), .int bk, .int fr, .int m0] : List Value)).length) Slot.unset).toArray = ls at hl ⊢
  have hl : lv_has ls 6 [(0, .ref (aw_r ad 0)), (1, .int (nI j)), (2, .int bk), (3, .int fr), (4, .int m0)] := hl
  refine lv_aload_n hx hb d_Ru_feed_0 rfl (lv_at hl 0 rfl) ?_
  refine lv_iload_n hx hb d_Ru_feed_1 rfl (lv_at hl 1 rfl) ?_
  have he1 := zr_R0 hSh
  refine va_callr (va_runV (As := [.int (nI j)]) (rest := []) ⟨hx, hb, hml, hown, hG⟩ (k_Ru_contextAt1V l D g ad N0 zG zO zX zY zA zB zM zI zL zK zN zF zQ j hj) (aw_wV 1 hG gw_2_47 gw_2_45 gw_0_1 gw_2_46 gw_p_0 rfl rfl hd_Ru_contextAt ⟨Nat.le_of_ble_eq_true rfl, Nat.le_of_ble_eq_true rfl⟩) (ag_qV (va_recv hK hP rfl he1) hP hD hSh hU hS) rfl rfl hl.1 rfl (lv_room (Nat.le_of_ble_eq_true rfl)) d_Ru_feed_2 ⟨Nat.le_of_ble_eq_true rfl, Nat.le_of_ble_eq_true rfl⟩) hS (fun _ _ h => h) (fun _ h => h) ?_
  clear hP hD hSh hS he1
  intro u8 q2 t8 H locs ht _ _ hB _ _ hS
  obtain ⟨eq2, hB⟩ := hB
  obtain ⟨L, hP, hD, hSh⟩ := hB
  rw [ht] at hP
  clear ht
  subst eq2
  refine lv_astore hx hb d_Ru_feed_5 hl (by decide) rfl (fun ls hl => ?_)
  have hl : lv_has ls 6 [(5, .ref (aw_c ad j 0)), (0, .ref (aw_r ad 0)), (1, .int (nI j)), (2, .int bk), (3, .int fr), (4, .int m0)] := hl
  refine lv_iload_n hx hb d_Ru_feed_7 rfl (lv_at hl 4 rfl) ?_
  refine lv_iload hx hb d_Ru_feed_8 (lv_at hl 5 rfl) ?_
  refine vx_callv (vx_runS (As := [.int fr, .int m0]) (rest := []) ⟨hx, hb, hml, hown, hG⟩ (k_Ru_requireInBufferXV l hst D g ad N0 zG zO zX zY zA zB zM zI zL zK zN zF zQ fr m0 hi) (aw_wS 2 hG gw_7_49 gw_7_47 gw_0_1 gw_7_48 rfl rfl hd_Ru_requireInBuffer ⟨Nat.le_of_ble_eq_true rfl, Nat.le_of_ble_eq_true rfl⟩) (ag_qS hP hD hSh hU hS) rfl rfl hl.1 rfl (lv_room (Nat.le_of_ble_eq_true rfl)) d_Ru_feed_10 ⟨Nat.le_of_ble_eq_true rfl, Nat.le_of_ble_eq_true rfl⟩) hS (fun _ _ h => h) (fun _ h => h) (fun _ _ h => h) (fun E ce q9 u t H locs ht _ _ hBX _ _ hS hce hcv hcl => ?_) (fun u t H locs _ _ hF _ _ _ _ => hF.elim)
  obtain ⟨rfl, L, hP, hD, hSh⟩ := hBX
  rw [ht] at hP
  exact vx_out (fun x h => (hex x h).elim) hlocks hce hcv hcl (fun t9 ht9 _ => ⟨(), trivial, ⟨rfl, ag_Hr ht9 hP hD hSh⟩, hS.F ht9⟩) hS.2.2 (Nat.le_of_ble_eq_true rfl) (Nat.le_of_ble_eq_true rfl)
abbrev ws_Ru_feedXs0V : List Cond := Cond.code y_Ru_feed b_Ru_feed 6 (some .int) :: aw_G
abbrev rm_Ru_feedXs0V : Room := { frames := 6, cells := 1, slots := 6, locals := 90 }
set_option maxHeartbeats 4000000 in
set_option maxRecDepth 100000 in
theorem k_Ru_feedXs0V (l : Launch) (hst : l.stackTraces = false) (D : va_G) (g : Nat → ClassId) (ad : Nat → Nat) (N0 : Nat) (zG : Nat → Nat × Nat) (zO : Nat → Nat) (zX : Nat → Nat → Int64) (zY : Nat → Nat → Int32) (zA : Nat → Nat → Nat → Int32) (zB : Nat → Int32) (zM : Nat → Nat × Nat) (zI : Nat → Nat → Int32) (zL : Nat → Nat → Int64) (zK : Int32) (zN : Nat) (zF : Int32) (zQ : Int64) (j : Nat) (bk : Int32) (fr : Int32) (hj : j < 4) (hs : (zG j).1 ≤ 2 ∨ ((zG j).1 = 3 ∧ (zG j).2 = 5)) : vx_Met l y_Ru_feed ws_Ru_feedXs0V rm_Ru_feedXs0V (va_Pc ([.ref (aw_r ad 0), .int (nI j), .int bk, .int fr, .int (nI 0)] : List Value) (ag_B D g N0 (az_Sh g ad zG zO zX zY zA zB zM zI zL zK zN zF zQ))) (va_Qv (fun (_ : Unit) => False) (fun (_ : Unit) _ => True) (aw_Z N0)) (vx_X (fun (_ : Unit) => True) (fun E (_ : Unit) t => E = "java/lang/IllegalStateException" ∧ ag_H D N0 (az_Sh g ad zG zO zX zY zA zB zM zI zL zK zN zF zQ) t.heap) (aw_Z N0)) 1 6 (aw_Z N0) := by
  refine vx_ofW (cc := b_Ru_feed) (maxL := 6) (ret := (some .int)) (by decide) rfl ?_
  intro p e s m args below meth c s₁ B hml hex hv
  obtain ⟨rfl, ⟨L, hP, hD, hSh⟩, hU⟩ := hv
  have hx := B.exec
  have hb := B.bytes
  have hr := B.returns
  have hG : ∀ w ∈ aw_G, w.before _ s = true := fun w h => atoms_spec (ws := ws_Ru_feedXs0V) B.pre w (List.mem_cons_of_mem _ h)
  have hown : s.vm.findClass "RuleCiphers" = some m.cls := findClass_of_methodNamed B.named
  have hlocks := B.notSynchronized
  have hE := hU.1
  have hK := hE.1
  have hN := hE.2.1
  have hS : va_S (aw_Z N0) s.heap s.heap [] := va_S.rf
  have hl := lv_entry ([.ref (aw_r ad 0), .int (nI j), .int bk, .int fr, .int (nI 0)] : List Value) (n := 6) (Nat.le_of_ble_eq_true rfl)
  rw [lg_entry_eq]
  generalize (lg_sl ([.ref (aw_r ad 0), .int (nI j), .int bk, .int fr, .int (nI 0)] : List Value) ++ List.replicate (6 - (lg_sl ([.ref (aw_r ad 0), .int (nI j), .int bk, .int fr, .int (nI 0)] : List Value)).length) Slot.unset).toArray = ls at hl ⊢
  have hl : lv_has ls 6 [(0, .ref (aw_r ad 0)), (1, .int (nI j)), (2, .int bk), (3, .int fr), (4, .int (nI 0))] := hl
  rcases hs with hs | hs
  · refine lv_aload_n hx hb d_Ru_feed_0 rfl (lv_at hl 0 rfl) ?_
    refine lv_iload_n hx hb d_Ru_feed_1 rfl (lv_at hl 1 rfl) ?_
    have he1 := zr_R0 hSh
    refine va_callr (va_runV (As := [.int (nI j)]) (rest := []) ⟨hx, hb, hml, hown, hG⟩ (k_Ru_contextAt1V l D g ad N0 zG zO zX zY zA zB zM zI zL zK zN zF zQ j hj) (aw_wV 1 hG gw_2_47 gw_2_45 gw_0_1 gw_2_46 gw_p_0 rfl rfl hd_Ru_contextAt ⟨Nat.le_of_ble_eq_true rfl, Nat.le_of_ble_eq_true rfl⟩) (ag_qV (va_recv hK hP rfl he1) hP hD hSh hU hS) rfl rfl hl.1 rfl (lv_room (Nat.le_of_ble_eq_true rfl)) d_Ru_feed_2 ⟨Nat.le_of_ble_eq_true rfl, Nat.le_of_ble_eq_true rfl⟩) hS (fun _ _ h => h) (fun _ h => h) ?_
    clear hP hD hSh hS he1
    intro u8 q2 t8 H locs ht _ _ hB _ _ hS
    obtain ⟨eq2, hB⟩ := hB
    obtain ⟨L, hP, hD, hSh⟩ := hB
    rw [ht] at hP
    clear ht
    subst eq2
    refine lv_astore hx hb d_Ru_feed_5 hl (by decide) rfl (fun ls hl => ?_)
    have hl : lv_has ls 6 [(5, .ref (aw_c ad j 0)), (0, .ref (aw_r ad 0)), (1, .int (nI j)), (2, .int bk), (3, .int fr), (4, .int (nI 0))] := hl
    refine lv_iload_n hx hb d_Ru_feed_7 rfl (lv_at hl 4 rfl) ?_
    refine lv_iload hx hb d_Ru_feed_8 (lv_at hl 5 rfl) ?_
    refine aw_cv ((va_runS (As := [.int fr, .int (nI 0)]) (rest := []) ⟨hx, hb, hml, hown, hG⟩ (k_Ru_requireInBuffer0 l fr) (aw_wS 2 hG gw_7_49 gw_7_47 gw_0_1 gw_7_48 rfl rfl hd_Ru_requireInBuffer ⟨Nat.le_of_ble_eq_true rfl, Nat.le_of_ble_eq_true rfl⟩) aw_p0 rfl rfl hl.1 rfl (lv_room (Nat.le_of_ble_eq_true rfl)) d_Ru_feed_10 ⟨Nat.le_of_ble_eq_true rfl, Nat.le_of_ble_eq_true rfl⟩).run) ?_
    refine lv_aload hx hb d_Ru_feed_13 (lv_at hl 0 rfl) ?_
    obtain ⟨hsd4, he3⟩ := zr_C0 hSh hj
    have hg := hSh.2.2.2.2.1 j hj
    refine va_get (C := R_Cx) (T := T_Cx) (N := 10) (v := .int (nI ((zG j).1))) hx hb hG in_Cx hown hK hP (3 + 16 * j + 0) he3 rfl 2 (by decide) (hG _ gw_1_57) (fun _ h => h) rfl d_Ru_feed_15 ?_
    clear he3
    refine lv_iconst (v := nI 3) hx hb d_Ru_feed_18 (by decide +kernel) ?_
    refine lv_icmp_ne (tgt := 31) hx hb d_Ru_feed_19 (by decide) (fun _ => ?_) (fun h => absurd h (show ¬ nI ((zG j).1) = nI 3 from fun h9 => absurd ((nI_eq (by omega) (by omega)).mp h9) (by omega)))
    obtain ⟨sa5, hsa5⟩ := hU.2.1.2.2 (84, "the context is not set to a mode that is fed") (by decide)
    exact ag_thr hx hb hst (names := ["java/lang/RuntimeException", "java/lang/Exception"]) hown (by decide +kernel) (by decide +kernel) (hG _ gw_3_59) (hG _ gw_0_16) hsa5 (aw_hat_Ru_39 hG hE) (by decide +kernel) hU hP hD hSh hS (by rw [hml]; exact hl.1) d_Ru_feed_31 d_Ru_feed_34 d_Ru_feed_35 d_Ru_feed_37 d_Ru_feed_40 (fun x h => (hex x h).elim) (by decide) (Nat.le_of_ble_eq_true rfl) (Nat.le_of_ble_eq_true rfl) (Nat.le_of_ble_eq_true rfl) hlocks (Nat.le_of_ble_eq_true rfl) (Nat.le_of_ble_eq_true rfl)
  · refine lv_aload_n hx hb d_Ru_feed_0 rfl (lv_at hl 0 rfl) ?_
    refine lv_iload_n hx hb d_Ru_feed_1 rfl (lv_at hl 1 rfl) ?_
    have he6 := zr_R0 hSh
    refine va_callr (va_runV (As := [.int (nI j)]) (rest := []) ⟨hx, hb, hml, hown, hG⟩ (k_Ru_contextAt1V l D g ad N0 zG zO zX zY zA zB zM zI zL zK zN zF zQ j hj) (aw_wV 1 hG gw_2_47 gw_2_45 gw_0_1 gw_2_46 gw_p_0 rfl rfl hd_Ru_contextAt ⟨Nat.le_of_ble_eq_true rfl, Nat.le_of_ble_eq_true rfl⟩) (ag_qV (va_recv hK hP rfl he6) hP hD hSh hU hS) rfl rfl hl.1 rfl (lv_room (Nat.le_of_ble_eq_true rfl)) d_Ru_feed_2 ⟨Nat.le_of_ble_eq_true rfl, Nat.le_of_ble_eq_true rfl⟩) hS (fun _ _ h => h) (fun _ h => h) ?_
    clear hP hD hSh hS he6
    intro u8 q7 t8 H locs ht _ _ hB _ _ hS
    obtain ⟨eq7, hB⟩ := hB
    obtain ⟨L, hP, hD, hSh⟩ := hB
    rw [ht] at hP
    clear ht
    subst eq7
    refine lv_astore hx hb d_Ru_feed_5 hl (by decide) rfl (fun ls hl => ?_)
    have hl : lv_has ls 6 [(5, .ref (aw_c ad j 0)), (0, .ref (aw_r ad 0)), (1, .int (nI j)), (2, .int bk), (3, .int fr), (4, .int (nI 0))] := hl
    refine lv_iload_n hx hb d_Ru_feed_7 rfl (lv_at hl 4 rfl) ?_
    refine lv_iload hx hb d_Ru_feed_8 (lv_at hl 5 rfl) ?_
    refine aw_cv ((va_runS (As := [.int fr, .int (nI 0)]) (rest := []) ⟨hx, hb, hml, hown, hG⟩ (k_Ru_requireInBuffer0 l fr) (aw_wS 2 hG gw_7_49 gw_7_47 gw_0_1 gw_7_48 rfl rfl hd_Ru_requireInBuffer ⟨Nat.le_of_ble_eq_true rfl, Nat.le_of_ble_eq_true rfl⟩) aw_p0 rfl rfl hl.1 rfl (lv_room (Nat.le_of_ble_eq_true rfl)) d_Ru_feed_10 ⟨Nat.le_of_ble_eq_true rfl, Nat.le_of_ble_eq_true rfl⟩).run) ?_
    refine lv_aload hx hb d_Ru_feed_13 (lv_at hl 0 rfl) ?_
    obtain ⟨hsd9, he8⟩ := zr_C0 hSh hj
    have hg := hSh.2.2.2.2.1 j hj
    refine va_get (C := R_Cx) (T := T_Cx) (N := 10) (v := .int (nI ((zG j).1))) hx hb hG in_Cx hown hK hP (3 + 16 * j + 0) he8 rfl 2 (by decide) (hG _ gw_1_57) (fun _ h => h) rfl d_Ru_feed_15 ?_
    clear he8
    refine lv_iconst (v := nI 3) hx hb d_Ru_feed_18 (by decide +kernel) ?_
    refine lv_icmp_ne (tgt := 31) hx hb d_Ru_feed_19 (by decide) (fun h => absurd (show nI ((zG j).1) = nI 3 from (nI_eq (by omega) (by omega)).mpr (by omega)) h) (fun _ => ?_)
    refine lv_aload hx hb d_Ru_feed_22 (lv_at hl 0 rfl) ?_
    obtain ⟨hsd11, he10⟩ := zr_C0 hSh hj
    have hg := hSh.2.2.2.2.1 j hj
    refine va_get (C := R_Cx) (T := T_Cx) (N := 10) (v := .int (nI ((zG j).2))) hx hb hG in_Cx hown hK hP (3 + 16 * j + 0) he10 rfl 3 (by decide) (hG _ gw_1_59) (fun _ h => h) rfl d_Ru_feed_24 ?_
    clear he10
    refine lv_iconst (v := nI 5) hx hb d_Ru_feed_27 (by decide +kernel) ?_
    refine lv_icmp_ne (tgt := 41) hx hb d_Ru_feed_28 (by decide) (fun h => absurd (show nI ((zG j).2) = nI 5 from (nI_eq (by omega) (by omega)).mpr (by omega)) h) (fun _ => ?_)
    obtain ⟨sa12, hsa12⟩ := hU.2.1.2.2 (84, "the context is not set to a mode that is fed") (by decide)
    exact ag_thr hx hb hst (names := ["java/lang/RuntimeException", "java/lang/Exception"]) hown (by decide +kernel) (by decide +kernel) (hG _ gw_3_59) (hG _ gw_0_16) hsa12 (aw_hat_Ru_39 hG hE) (by decide +kernel) hU hP hD hSh hS (by rw [hml]; exact hl.1) d_Ru_feed_31 d_Ru_feed_34 d_Ru_feed_35 d_Ru_feed_37 d_Ru_feed_40 (fun x h => (hex x h).elim) (by decide) (Nat.le_of_ble_eq_true rfl) (Nat.le_of_ble_eq_true rfl) (Nat.le_of_ble_eq_true rfl) hlocks (Nat.le_of_ble_eq_true rfl) (Nat.le_of_ble_eq_true rfl)
abbrev ws_Ru_feedXs1V : List Cond := Cond.code y_Ru_feed b_Ru_feed 6 (some .int) :: aw_G
abbrev rm_Ru_feedXs1V : Room := { frames := 6, cells := 1, slots := 6, locals := 90 }
set_option maxHeartbeats 4000000 in
set_option maxRecDepth 100000 in
theorem k_Ru_feedXs1V (l : Launch) (hst : l.stackTraces = false) (D : va_G) (g : Nat → ClassId) (ad : Nat → Nat) (N0 : Nat) (zG : Nat → Nat × Nat) (zO : Nat → Nat) (zX : Nat → Nat → Int64) (zY : Nat → Nat → Int32) (zA : Nat → Nat → Nat → Int32) (zB : Nat → Int32) (zM : Nat → Nat × Nat) (zI : Nat → Nat → Int32) (zL : Nat → Nat → Int64) (zK : Int32) (zN : Nat) (zF : Int32) (zQ : Int64) (j : Nat) (bk : Int32) (k : Nat) (mm : Nat) (hj : j < 4) (h0 : 0 < mm) (hk : k + mm ≤ 64) (hs : (zG j).1 ≤ 2 ∨ ((zG j).1 = 3 ∧ (zG j).2 = 5)) : vx_Met l y_Ru_feed ws_Ru_feedXs1V rm_Ru_feedXs1V (va_Pc ([.ref (aw_r ad 0), .int (nI j), .int bk, .int (nI k), .int (nI mm)] : List Value) (ag_B D g N0 (az_Sh g ad zG zO zX zY zA zB zM zI zL zK zN zF zQ))) (va_Qv (fun (_ : Unit) => False) (fun (_ : Unit) _ => True) (aw_Z N0)) (vx_X (fun (_ : Unit) => True) (fun E (_ : Unit) t => E = "java/lang/IllegalStateException" ∧ ag_H D N0 (az_Sh g ad zG zO zX zY zA zB zM zI zL zK zN zF zQ) t.heap) (aw_Z N0)) 1 6 (aw_Z N0) := by
  refine vx_ofW (cc := b_Ru_feed) (maxL := 6) (ret := (some .int)) (by decide) rfl ?_
  intro p e s m args below meth c s₁ B hml hex hv
  obtain ⟨rfl, ⟨L, hP, hD, hSh⟩, hU⟩ := hv
  have hx := B.exec
  have hb := B.bytes
  have hr := B.returns
  have hG : ∀ w ∈ aw_G, w.before _ s = true := fun w h => atoms_spec (ws := ws_Ru_feedXs1V) B.pre w (List.mem_cons_of_mem _ h)
  have hown : s.vm.findClass "RuleCiphers" = some m.cls := findClass_of_methodNamed B.named
  have hlocks := B.notSynchronized
  have hE := hU.1
  have hK := hE.1
  have hN := hE.2.1
  have hS : va_S (aw_Z N0) s.heap s.heap [] := va_S.rf
  have hl := lv_entry ([.ref (aw_r ad 0), .int (nI j), .int bk, .int (nI k), .int (nI mm)] : List Value) (n := 6) (Nat.le_of_ble_eq_true rfl)
  rw [lg_entry_eq]
  generalize (lg_sl ([.ref (aw_r ad 0), .int (nI j), .int bk, .int (nI k), .int (nI mm)] : List Value) ++ List.replicate (6 - (lg_sl ([.ref (aw_r ad 0), .int (nI j), .int bk, .int (nI k), .int (nI mm)] : List Value)).length) Slot.unset).toArray = ls at hl ⊢
  have hl : lv_has ls 6 [(0, .ref (aw_r ad 0)), (1, .int (nI j)), (2, .int bk), (3, .int (nI k)), (4, .int (nI mm))] := hl
  rcases hs with hs | hs
  · refine lv_aload_n hx hb d_Ru_feed_0 rfl (lv_at hl 0 rfl) ?_
    refine lv_iload_n hx hb d_Ru_feed_1 rfl (lv_at hl 1 rfl) ?_
    have he1 := zr_R0 hSh
    refine va_callr (va_runV (As := [.int (nI j)]) (rest := []) ⟨hx, hb, hml, hown, hG⟩ (k_Ru_contextAt1V l D g ad N0 zG zO zX zY zA zB zM zI zL zK zN zF zQ j hj) (aw_wV 1 hG gw_2_47 gw_2_45 gw_0_1 gw_2_46 gw_p_0 rfl rfl hd_Ru_contextAt ⟨Nat.le_of_ble_eq_true rfl, Nat.le_of_ble_eq_true rfl⟩) (ag_qV (va_recv hK hP rfl he1) hP hD hSh hU hS) rfl rfl hl.1 rfl (lv_room (Nat.le_of_ble_eq_true rfl)) d_Ru_feed_2 ⟨Nat.le_of_ble_eq_true rfl, Nat.le_of_ble_eq_true rfl⟩) hS (fun _ _ h => h) (fun _ h => h) ?_
    clear hP hD hSh hS he1
    intro u8 q2 t8 H locs ht _ _ hB _ _ hS
    obtain ⟨eq2, hB⟩ := hB
    obtain ⟨L, hP, hD, hSh⟩ := hB
    rw [ht] at hP
    clear ht
    subst eq2
    refine lv_astore hx hb d_Ru_feed_5 hl (by decide) rfl (fun ls hl => ?_)
    have hl : lv_has ls 6 [(5, .ref (aw_c ad j 0)), (0, .ref (aw_r ad 0)), (1, .int (nI j)), (2, .int bk), (3, .int (nI k)), (4, .int (nI mm))] := hl
    refine lv_iload_n hx hb d_Ru_feed_7 rfl (lv_at hl 4 rfl) ?_
    refine lv_iload hx hb d_Ru_feed_8 (lv_at hl 5 rfl) ?_
    refine aw_cv ((va_runS (As := [.int (nI k), .int (nI mm)]) (rest := []) ⟨hx, hb, hml, hown, hG⟩ (k_Ru_requireInBuffer1 l k mm h0 hk) (aw_wS 2 hG gw_7_49 gw_7_47 gw_0_1 gw_7_48 rfl rfl hd_Ru_requireInBuffer ⟨Nat.le_of_ble_eq_true rfl, Nat.le_of_ble_eq_true rfl⟩) aw_p0 rfl rfl hl.1 rfl (lv_room (Nat.le_of_ble_eq_true rfl)) d_Ru_feed_10 ⟨Nat.le_of_ble_eq_true rfl, Nat.le_of_ble_eq_true rfl⟩).run) ?_
    refine lv_aload hx hb d_Ru_feed_13 (lv_at hl 0 rfl) ?_
    obtain ⟨hsd4, he3⟩ := zr_C0 hSh hj
    have hg := hSh.2.2.2.2.1 j hj
    refine va_get (C := R_Cx) (T := T_Cx) (N := 10) (v := .int (nI ((zG j).1))) hx hb hG in_Cx hown hK hP (3 + 16 * j + 0) he3 rfl 2 (by decide) (hG _ gw_1_57) (fun _ h => h) rfl d_Ru_feed_15 ?_
    clear he3
    refine lv_iconst (v := nI 3) hx hb d_Ru_feed_18 (by decide +kernel) ?_
    refine lv_icmp_ne (tgt := 31) hx hb d_Ru_feed_19 (by decide) (fun _ => ?_) (fun h => absurd h (show ¬ nI ((zG j).1) = nI 3 from fun h9 => absurd ((nI_eq (by omega) (by omega)).mp h9) (by omega)))
    obtain ⟨sa5, hsa5⟩ := hU.2.1.2.2 (84, "the context is not set to a mode that is fed") (by decide)
    exact ag_thr hx hb hst (names := ["java/lang/RuntimeException", "java/lang/Exception"]) hown (by decide +kernel) (by decide +kernel) (hG _ gw_3_59) (hG _ gw_0_16) hsa5 (aw_hat_Ru_39 hG hE) (by decide +kernel) hU hP hD hSh hS (by rw [hml]; exact hl.1) d_Ru_feed_31 d_Ru_feed_34 d_Ru_feed_35 d_Ru_feed_37 d_Ru_feed_40 (fun x h => (hex x h).elim) (by decide) (Nat.le_of_ble_eq_true rfl) (Nat.le_of_ble_eq_true rfl) (Nat.le_of_ble_eq_true rfl) hlocks (Nat.le_of_ble_eq_true rfl) (Nat.le_of_ble_eq_true rfl)
  · refine lv_aload_n hx hb d_Ru_feed_0 rfl (lv_at hl 0 rfl) ?_
    refine lv_iload_n hx hb d_Ru_feed_1 rfl (lv_at hl 1 rfl) ?_
    have he6 := zr_R0 hSh
    refine va_callr (va_runV (As := [.int (nI j)]) (rest := []) ⟨hx, hb, hml, hown, hG⟩ (k_Ru_contextAt1V l D g ad N0 zG zO zX zY zA zB zM zI zL zK zN zF zQ j hj) (aw_wV 1 hG gw_2_47 gw_2_45 gw_0_1 gw_2_46 gw_p_0 rfl rfl hd_Ru_contextAt ⟨Nat.le_of_ble_eq_true rfl, Nat.le_of_ble_eq_true rfl⟩) (ag_qV (va_recv hK hP rfl he6) hP hD hSh hU hS) rfl rfl hl.1 rfl (lv_room (Nat.le_of_ble_eq_true rfl)) d_Ru_feed_2 ⟨Nat.le_of_ble_eq_true rfl, Nat.le_of_ble_eq_true rfl⟩) hS (fun _ _ h => h) (fun _ h => h) ?_
    clear hP hD hSh hS he6
    intro u8 q7 t8 H locs ht _ _ hB _ _ hS
    obtain ⟨eq7, hB⟩ := hB
    obtain ⟨L, hP, hD, hSh⟩ := hB
    rw [ht] at hP
    clear ht
    subst eq7
    refine lv_astore hx hb d_Ru_feed_5 hl (by decide) rfl (fun ls hl => ?_)
    have hl : lv_has ls 6 [(5, .ref (aw_c ad j 0)), (0, .ref (aw_r ad 0)), (1, .int (nI j)), (2, .int bk), (3, .int (nI k)), (4, .int (nI mm))] := hl
    refine lv_iload_n hx hb d_Ru_feed_7 rfl (lv_at hl 4 rfl) ?_
    refine lv_iload hx hb d_Ru_feed_8 (lv_at hl 5 rfl) ?_
    refine aw_cv ((va_runS (As := [.int (nI k), .int (nI mm)]) (rest := []) ⟨hx, hb, hml, hown, hG⟩ (k_Ru_requireInBuffer1 l k mm h0 hk) (aw_wS 2 hG gw_7_49 gw_7_47 gw_0_1 gw_7_48 rfl rfl hd_Ru_requireInBuffer ⟨Nat.le_of_ble_eq_true rfl, Nat.le_of_ble_eq_true rfl⟩) aw_p0 rfl rfl hl.1 rfl (lv_room (Nat.le_of_ble_eq_true rfl)) d_Ru_feed_10 ⟨Nat.le_of_ble_eq_true rfl, Nat.le_of_ble_eq_true rfl⟩).run) ?_
    refine lv_aload hx hb d_Ru_feed_13 (lv_at hl 0 rfl) ?_
    obtain ⟨hsd9, he8⟩ := zr_C0 hSh hj
    have hg := hSh.2.2.2.2.1 j hj
    refine va_get (C := R_Cx) (T := T_Cx) (N := 10) (v := .int (nI ((zG j).1))) hx hb hG in_Cx hown hK hP (3 + 16 * j + 0) he8 rfl 2 (by decide) (hG _ gw_1_57) (fun _ h => h) rfl d_Ru_feed_15 ?_
    clear he8
    refine lv_iconst (v := nI 3) hx hb d_Ru_feed_18 (by decide +kernel) ?_
    refine lv_icmp_ne (tgt := 31) hx hb d_Ru_feed_19 (by decide) (fun h => absurd (show nI ((zG j).1) = nI 3 from (nI_eq (by omega) (by omega)).mpr (by omega)) h) (fun _ => ?_)
    refine lv_aload hx hb d_Ru_feed_22 (lv_at hl 0 rfl) ?_
    obtain ⟨hsd11, he10⟩ := zr_C0 hSh hj
    have hg := hSh.2.2.2.2.1 j hj
    refine va_get (C := R_Cx) (T := T_Cx) (N := 10) (v := .int (nI ((zG j).2))) hx hb hG in_Cx hown hK hP (3 + 16 * j + 0) he10 rfl 3 (by decide) (hG _ gw_1_59) (fun _ h => h) rfl d_Ru_feed_24 ?_
    clear he10
    refine lv_iconst (v := nI 5) hx hb d_Ru_feed_27 (by decide +kernel) ?_
    refine lv_icmp_ne (tgt := 41) hx hb d_Ru_feed_28 (by decide) (fun h => absurd (show nI ((zG j).2) = nI 5 from (nI_eq (by omega) (by omega)).mpr (by omega)) h) (fun _ => ?_)
    obtain ⟨sa12, hsa12⟩ := hU.2.1.2.2 (84, "the context is not set to a mode that is fed") (by decide)
    exact ag_thr hx hb hst (names := ["java/lang/RuntimeException", "java/lang/Exception"]) hown (by decide +kernel) (by decide +kernel) (hG _ gw_3_59) (hG _ gw_0_16) hsa12 (aw_hat_Ru_39 hG hE) (by decide +kernel) hU hP hD hSh hS (by rw [hml]; exact hl.1) d_Ru_feed_31 d_Ru_feed_34 d_Ru_feed_35 d_Ru_feed_37 d_Ru_feed_40 (fun x h => (hex x h).elim) (by decide) (Nat.le_of_ble_eq_true rfl) (Nat.le_of_ble_eq_true rfl) (Nat.le_of_ble_eq_true rfl) hlocks (Nat.le_of_ble_eq_true rfl) (Nat.le_of_ble_eq_true rfl)
abbrev ws_Ru_feedXaV : List Cond := Cond.code y_Ru_feed b_Ru_feed 6 (some .int) :: aw_G
abbrev rm_Ru_feedXaV : Room := { frames := 6, cells := 1, slots := 6, locals := 90 }
set_option maxHeartbeats 4000000 in
set_option maxRecDepth 100000 in
theorem k_Ru_feedXaV (l : Launch) (hst : l.stackTraces = false) (D : va_G) (g : Nat → ClassId) (ad : Nat → Nat) (N0 : Nat) (zG : Nat → Nat × Nat) (zO : Nat → Nat) (zX : Nat → Nat → Int64) (zY : Nat → Nat → Int32) (zA : Nat → Nat → Nat → Int32) (zB : Nat → Int32) (zM : Nat → Nat × Nat) (zI : Nat → Nat → Int32) (zL : Nat → Nat → Int64) (zK : Int32) (zN : Nat) (zF : Int32) (zQ : Int64) (j : Nat) (bk : Int32) (k : Nat) (mm : Nat) (hj : j < 4) (h0 : 0 < mm) (hk : k + mm ≤ 64) (hs : (zG j).1 = 3) (hm : (zG j).2 ≤ 1) (hr8 : mm % 8 ≠ 0) : vx_Met l y_Ru_feed ws_Ru_feedXaV rm_Ru_feedXaV (va_Pc ([.ref (aw_r ad 0), .int (nI j), .int bk, .int (nI k), .int (nI mm)] : List Value) (ag_B D g N0 (az_Sh g ad zG zO zX zY zA zB zM zI zL zK zN zF zQ))) (va_Qv (fun (_ : Unit) => False) (fun (_ : Unit) _ => True) (aw_Z N0)) (vx_X (fun (_ : Unit) => True) (fun E (_ : Unit) t => E = "java/lang/IllegalArgumentException" ∧ ag_H D N0 (az_Sh g ad zG zO zX zY zA zB zM zI zL zK zN zF zQ) t.heap) (aw_Z N0)) 1 6 (aw_Z N0) := by
  refine vx_ofW (cc := b_Ru_feed) (maxL := 6) (ret := (some .int)) (by decide) rfl ?_
  intro p e s m args below meth c s₁ B hml hex hv
  obtain ⟨rfl, ⟨L, hP, hD, hSh⟩, hU⟩ := hv
  have hx := B.exec
  have hb := B.bytes
  have hr := B.returns
  have hG : ∀ w ∈ aw_G, w.before _ s = true := fun w h => atoms_spec (ws := ws_Ru_feedXaV) B.pre w (List.mem_cons_of_mem _ h)
  have hown : s.vm.findClass "RuleCiphers" = some m.cls := findClass_of_methodNamed B.named
  have hlocks := B.notSynchronized
  have hE := hU.1
  have hK := hE.1
  have hN := hE.2.1
  have hS : va_S (aw_Z N0) s.heap s.heap [] := va_S.rf
  have hl := lv_entry ([.ref (aw_r ad 0), .int (nI j), .int bk, .int (nI k), .int (nI mm)] : List Value) (n := 6) (Nat.le_of_ble_eq_true rfl)
  rw [lg_entry_eq]
  generalize (lg_sl ([.ref (aw_r ad 0), .int (nI j), .int bk, .int (nI k), .int (nI mm)] : List Value) ++ List.replicate (6 - (lg_sl ([.ref (aw_r ad 0), .int (nI j), .int bk, .int (nI k), .int (nI mm)] : List Value)).length) Slot.unset).toArray = ls at hl ⊢
  have hl : lv_has ls 6 [(0, .ref (aw_r ad 0)), (1, .int (nI j)), (2, .int bk), (3, .int (nI k)), (4, .int (nI mm))] := hl
  refine lv_aload_n hx hb d_Ru_feed_0 rfl (lv_at hl 0 rfl) ?_
  refine lv_iload_n hx hb d_Ru_feed_1 rfl (lv_at hl 1 rfl) ?_
  have he1 := zr_R0 hSh
  refine va_callr (va_runV (As := [.int (nI j)]) (rest := []) ⟨hx, hb, hml, hown, hG⟩ (k_Ru_contextAt1V l D g ad N0 zG zO zX zY zA zB zM zI zL zK zN zF zQ j hj) (aw_wV 1 hG gw_2_47 gw_2_45 gw_0_1 gw_2_46 gw_p_0 rfl rfl hd_Ru_contextAt ⟨Nat.le_of_ble_eq_true rfl, Nat.le_of_ble_eq_true rfl⟩) (ag_qV (va_recv hK hP rfl he1) hP hD hSh hU hS) rfl rfl hl.1 rfl (lv_room (Nat.le_of_ble_eq_true rfl)) d_Ru_feed_2 ⟨Nat.le_of_ble_eq_true rfl, Nat.le_of_ble_eq_true rfl⟩) hS (fun _ _ h => h) (fun _ h => h) ?_
  clear hP hD hSh hS he1
  intro u8 q2 t8 H locs ht _ _ hB _ _ hS
  obtain ⟨eq2, hB⟩ := hB
  obtain ⟨L, hP, hD, hSh⟩ := hB
  rw [ht] at hP
  clear ht
  subst eq2
  refine lv_astore hx hb d_Ru_feed_5 hl (by decide) rfl (fun ls hl => ?_)
  have hl : lv_has ls 6 [(5, .ref (aw_c ad j 0)), (0, .ref (aw_r ad 0)), (1, .int (nI j)), (2, .int bk), (3, .int (nI k)), (4, .int (nI mm))] := hl
  refine lv_iload_n hx hb d_Ru_feed_7 rfl (lv_at hl 4 rfl) ?_
  refine lv_iload hx hb d_Ru_feed_8 (lv_at hl 5 rfl) ?_
  refine aw_cv ((va_runS (As := [.int (nI k), .int (nI mm)]) (rest := []) ⟨hx, hb, hml, hown, hG⟩ (k_Ru_requireInBuffer1 l k mm h0 hk) (aw_wS 2 hG gw_7_49 gw_7_47 gw_0_1 gw_7_48 rfl rfl hd_Ru_requireInBuffer ⟨Nat.le_of_ble_eq_true rfl, Nat.le_of_ble_eq_true rfl⟩) aw_p0 rfl rfl hl.1 rfl (lv_room (Nat.le_of_ble_eq_true rfl)) d_Ru_feed_10 ⟨Nat.le_of_ble_eq_true rfl, Nat.le_of_ble_eq_true rfl⟩).run) ?_
  refine lv_aload hx hb d_Ru_feed_13 (lv_at hl 0 rfl) ?_
  obtain ⟨hsd4, he3⟩ := zr_C0 hSh hj
  have hg := hSh.2.2.2.2.1 j hj
  refine va_get (C := R_Cx) (T := T_Cx) (N := 10) (v := .int (nI ((zG j).1))) hx hb hG in_Cx hown hK hP (3 + 16 * j + 0) he3 rfl 2 (by decide) (hG _ gw_1_57) (fun _ h => h) rfl d_Ru_feed_15 ?_
  clear he3
  refine lv_iconst (v := nI 3) hx hb d_Ru_feed_18 (by decide +kernel) ?_
  refine lv_icmp_ne (tgt := 31) hx hb d_Ru_feed_19 (by decide) (fun h => absurd (show nI ((zG j).1) = nI 3 from (nI_eq (by omega) (by omega)).mpr (by omega)) h) (fun _ => ?_)
  refine lv_aload hx hb d_Ru_feed_22 (lv_at hl 0 rfl) ?_
  obtain ⟨hsd6, he5⟩ := zr_C0 hSh hj
  have hg := hSh.2.2.2.2.1 j hj
  refine va_get (C := R_Cx) (T := T_Cx) (N := 10) (v := .int (nI ((zG j).2))) hx hb hG in_Cx hown hK hP (3 + 16 * j + 0) he5 rfl 3 (by decide) (hG _ gw_1_59) (fun _ h => h) rfl d_Ru_feed_24 ?_
  clear he5
  refine lv_iconst (v := nI 5) hx hb d_Ru_feed_27 (by decide +kernel) ?_
  refine lv_icmp_ne (tgt := 41) hx hb d_Ru_feed_28 (by decide) (fun _ => ?_) (fun h => absurd h (show ¬ nI ((zG j).2) = nI 5 from fun h9 => absurd ((nI_eq (by omega) (by omega)).mp h9) (by omega)))
  refine lv_aload hx hb d_Ru_feed_41 (lv_at hl 0 rfl) ?_
  obtain ⟨_, he7⟩ := zr_C0 hSh hj
  refine va_calli (va_runV (As := []) (rest := []) ⟨hx, hb, hml, hown, hG⟩ (k_Cx_feedsWholeBlocks1V l D g ad N0 zG zO zX zY zA zB zM zI zL zK zN zF zQ j hj hm) (aw_wV 0 hG gw_7_53 gw_7_50 gw_0_2 gw_7_51 gw_7_52 rfl rfl hd_Cx_feedsWholeBlocks ⟨Nat.le_of_ble_eq_true rfl, Nat.le_of_ble_eq_true rfl⟩) (ag_qV (va_recv hK hP rfl he7) hP hD hSh hU hS) rfl rfl hl.1 rfl (lv_room (Nat.le_of_ble_eq_true rfl)) d_Ru_feed_43 ⟨Nat.le_of_ble_eq_true rfl, Nat.le_of_ble_eq_true rfl⟩) hS (fun _ _ h => h) (fun _ h => h) ?_
  clear hP hD hSh hS he7
  intro x8 u8 t8 H locs ht _ ex8 hB _ _ hS
  obtain ⟨L, hP, hD, hSh⟩ := hB
  rw [ht] at hP
  clear ht
  subst ex8
  refine lv_if_eq (tgt := 67) hx hb d_Ru_feed_46 (by decide) (fun h => absurd h (by decide +kernel)) (fun _ => ?_)
  refine lv_iload hx hb d_Ru_feed_49 (lv_at hl 5 rfl) ?_
  refine lv_bipush (v := nI 8) hx hb d_Ru_feed_51 (by decide +kernel) ?_
  refine lv_irem hx hb d_Ru_feed_53 (by decide +kernel) ?_
  refine aw_ti (pk_rem (a := mm) (d := 8) (by omega) (by omega) (by omega)) ?_
  refine lv_if_eq (tgt := 67) hx hb d_Ru_feed_54 (by decide) (fun h => absurd h (show ¬ nI (mm % 8) = nI 0 from fun h9 => absurd ((nI_eq (by omega) (by omega)).mp h9) (by omega))) (fun _ => ?_)
  obtain ⟨sa9, hsa9⟩ := hU.2.1.2.2 (90, "the mode is fed whole blocks alone") (by decide)
  exact ag_thr hx hb hst (names := ["java/lang/RuntimeException", "java/lang/Exception"]) hown (by decide +kernel) (by decide +kernel) (hG _ gw_3_45) (hG _ gw_0_15) hsa9 (aw_hat_Ru_28 hG hE) (by decide +kernel) hU hP hD hSh hS (by rw [hml]; exact hl.1) d_Ru_feed_57 d_Ru_feed_60 d_Ru_feed_61 d_Ru_feed_63 d_Ru_feed_66 (fun x h => (hex x h).elim) (by decide) (Nat.le_of_ble_eq_true rfl) (Nat.le_of_ble_eq_true rfl) (Nat.le_of_ble_eq_true rfl) hlocks (Nat.le_of_ble_eq_true rfl) (Nat.le_of_ble_eq_true rfl)
noncomputable def v_Ru_feed10bV (zY : Nat → Nat → Int32) (j : Nat) : Int32 := v_Cx_feedBytes0bV zY j
noncomputable def v_Ru_feed10bV_zY (zY : Nat → Nat → Int32) (j : Nat) : Nat → Nat → Int32 := v_Cx_feedBytes0bV_zY zY j
abbrev ws_Ru_feed10bV : List Cond := Cond.code y_Ru_feed b_Ru_feed 6 (some .int) :: aw_G
abbrev rm_Ru_feed10bV : Room := { frames := 2, cells := 0, slots := 0, locals := 46 }
set_option maxHeartbeats 4000000 in
set_option maxRecDepth 100000 in
theorem k_Ru_feed10bV (l : Launch) (D : va_G) (g : Nat → ClassId) (ad : Nat → Nat) (N0 : Nat) (zG : Nat → Nat × Nat) (zO : Nat → Nat) (zX : Nat → Nat → Int64) (zY : Nat → Nat → Int32) (zA : Nat → Nat → Nat → Int32) (zB : Nat → Int32) (zM : Nat → Nat × Nat) (zI : Nat → Nat → Int32) (zL : Nat → Nat → Int64) (zK : Int32) (zN : Nat) (zF : Int32) (zQ : Int64) (j : Nat) (bk : Int32) (fr : Int32) (hj : j < 4) (hs : (zG j).1 = 3) (hm : (zG j).2 ≤ 1) : Met l y_Ru_feed ws_Ru_feed10bV rm_Ru_feed10bV (va_Pc ([.ref (aw_r ad 0), .int (nI j), .int bk, .int fr, .int (nI 0)] : List Value) (ag_B D g N0 (az_Sh g ad zG zO zX zY zA zB zM zI zL zK zN zF zQ))) (va_Qi (fun r (_ : Unit) => r = v_Ru_feed10bV zY j) (fun (_ : Unit) t => ag_H D N0 (az_Sh g ad zG zO zX (v_Ru_feed10bV_zY zY j) zA zB zM zI zL zK zN zF zQ) t.heap) (aw_Z N0)) 0 0 (aw_Z N0) := by
  refine Met.ofW (cc := b_Ru_feed) (maxL := 6) (ret := (some .int)) (by decide) rfl ?_
  intro p e s m args below meth c s₁ B hml hv
  obtain ⟨rfl, ⟨L, hP, hD, hSh⟩, hU⟩ := hv
  have hx := B.exec
  have hb := B.bytes
  have hr := B.returns
  have hG : ∀ w ∈ aw_G, w.before _ s = true := fun w h => atoms_spec (ws := ws_Ru_feed10bV) B.pre w (List.mem_cons_of_mem _ h)
  have hown : s.vm.findClass "RuleCiphers" = some m.cls := findClass_of_methodNamed B.named
  have hlocks := B.notSynchronized
  have hE := hU.1
  have hK := hE.1
  have hN := hE.2.1
  have hS : va_S (aw_Z N0) s.heap s.heap [] := va_S.rf
  have hl := lv_entry ([.ref (aw_r ad 0), .int (nI j), .int bk, .int fr, .int (nI 0)] : List Value) (n := 6) (Nat.le_of_ble_eq_true rfl)
  rw [lg_entry_eq]
  generalize (lg_sl ([.ref (aw_r ad 0), .int (nI j), .int bk, .int fr, .int (nI 0)] : List Value) ++ List.replicate (6 - (lg_sl ([.ref (aw_r ad 0), .int (nI j), .int bk, .int fr, .int (nI 0)] : List Value)).length) Slot.unset).toArray = ls at hl ⊢
  have hl : lv_has ls 6 [(0, .ref (aw_r ad 0)), (1, .int (nI j)), (2, .int bk), (3, .int fr), (4, .int (nI 0))] := hl
  refine lv_aload_n hx hb d_Ru_feed_0 rfl (lv_at hl 0 rfl) ?_
  refine lv_iload_n hx hb d_Ru_feed_1 rfl (lv_at hl 1 rfl) ?_
  have he1 := zr_R0 hSh
  refine va_callr (va_runV (As := [.int (nI j)]) (rest := []) ⟨hx, hb, hml, hown, hG⟩ (k_Ru_contextAt1V l D g ad N0 zG zO zX zY zA zB zM zI zL zK zN zF zQ j hj) (aw_wV 1 hG gw_2_47 gw_2_45 gw_0_1 gw_2_46 gw_p_0 rfl rfl hd_Ru_contextAt ⟨Nat.le_of_ble_eq_true rfl, Nat.le_of_ble_eq_true rfl⟩) (ag_qV (va_recv hK hP rfl he1) hP hD hSh hU hS) rfl rfl hl.1 rfl (lv_room (Nat.le_of_ble_eq_true rfl)) d_Ru_feed_2 ⟨Nat.le_of_ble_eq_true rfl, Nat.le_of_ble_eq_true rfl⟩) hS (fun _ _ h => h) (fun _ h => h) ?_
  clear hP hD hSh hS he1
  intro u8 q2 t8 H locs ht _ _ hB _ _ hS
  obtain ⟨eq2, hB⟩ := hB
  obtain ⟨L, hP, hD, hSh⟩ := hB
  rw [ht] at hP
  clear ht
  subst eq2
  refine lv_astore hx hb d_Ru_feed_5 hl (by decide) rfl (fun ls hl => ?_)
  have hl : lv_has ls 6 [(5, .ref (aw_c ad j 0)), (0, .ref (aw_r ad 0)), (1, .int (nI j)), (2, .int bk), (3, .int fr), (4, .int (nI 0))] := hl
  refine lv_iload_n hx hb d_Ru_feed_7 rfl (lv_at hl 4 rfl) ?_
  refine lv_iload hx hb d_Ru_feed_8 (lv_at hl 5 rfl) ?_
  refine aw_cv ((va_runS (As := [.int fr, .int (nI 0)]) (rest := []) ⟨hx, hb, hml, hown, hG⟩ (k_Ru_requireInBuffer0 l fr) (aw_wS 2 hG gw_7_49 gw_7_47 gw_0_1 gw_7_48 rfl rfl hd_Ru_requireInBuffer ⟨Nat.le_of_ble_eq_true rfl, Nat.le_of_ble_eq_true rfl⟩) aw_p0 rfl rfl hl.1 rfl (lv_room (Nat.le_of_ble_eq_true rfl)) d_Ru_feed_10 ⟨Nat.le_of_ble_eq_true rfl, Nat.le_of_ble_eq_true rfl⟩).run) ?_
  refine lv_aload hx hb d_Ru_feed_13 (lv_at hl 0 rfl) ?_
  obtain ⟨hsd4, he3⟩ := zr_C0 hSh hj
  have hg := hSh.2.2.2.2.1 j hj
  refine va_get (C := R_Cx) (T := T_Cx) (N := 10) (v := .int (nI ((zG j).1))) hx hb hG in_Cx hown hK hP (3 + 16 * j + 0) he3 rfl 2 (by decide) (hG _ gw_1_57) (fun _ h => h) rfl d_Ru_feed_15 ?_
  clear he3
  refine lv_iconst (v := nI 3) hx hb d_Ru_feed_18 (by decide +kernel) ?_
  refine lv_icmp_ne (tgt := 31) hx hb d_Ru_feed_19 (by decide) (fun h => absurd (show nI ((zG j).1) = nI 3 from (nI_eq (by omega) (by omega)).mpr (by omega)) h) (fun _ => ?_)
  refine lv_aload hx hb d_Ru_feed_22 (lv_at hl 0 rfl) ?_
  obtain ⟨hsd6, he5⟩ := zr_C0 hSh hj
  have hg := hSh.2.2.2.2.1 j hj
  refine va_get (C := R_Cx) (T := T_Cx) (N := 10) (v := .int (nI ((zG j).2))) hx hb hG in_Cx hown hK hP (3 + 16 * j + 0) he5 rfl 3 (by decide) (hG _ gw_1_59) (fun _ h => h) rfl d_Ru_feed_24 ?_
  clear he5
  refine lv_iconst (v := nI 5) hx hb d_Ru_feed_27 (by decide +kernel) ?_
  refine lv_icmp_ne (tgt := 41) hx hb d_Ru_feed_28 (by decide) (fun _ => ?_) (fun h => absurd h (show ¬ nI ((zG j).2) = nI 5 from fun h9 => absurd ((nI_eq (by omega) (by omega)).mp h9) (by omega)))
  refine lv_aload hx hb d_Ru_feed_41 (lv_at hl 0 rfl) ?_
  obtain ⟨_, he7⟩ := zr_C0 hSh hj
  refine va_calli (va_runV (As := []) (rest := []) ⟨hx, hb, hml, hown, hG⟩ (k_Cx_feedsWholeBlocks1V l D g ad N0 zG zO zX zY zA zB zM zI zL zK zN zF zQ j hj hm) (aw_wV 0 hG gw_7_53 gw_7_50 gw_0_2 gw_7_51 gw_7_52 rfl rfl hd_Cx_feedsWholeBlocks ⟨Nat.le_of_ble_eq_true rfl, Nat.le_of_ble_eq_true rfl⟩) (ag_qV (va_recv hK hP rfl he7) hP hD hSh hU hS) rfl rfl hl.1 rfl (lv_room (Nat.le_of_ble_eq_true rfl)) d_Ru_feed_43 ⟨Nat.le_of_ble_eq_true rfl, Nat.le_of_ble_eq_true rfl⟩) hS (fun _ _ h => h) (fun _ h => h) ?_
  clear hP hD hSh hS he7
  intro x8 u8 t8 H locs ht _ ex8 hB _ _ hS
  obtain ⟨L, hP, hD, hSh⟩ := hB
  rw [ht] at hP
  clear ht
  subst ex8
  refine lv_if_eq (tgt := 67) hx hb d_Ru_feed_46 (by decide) (fun h => absurd h (by decide +kernel)) (fun _ => ?_)
  refine lv_iload hx hb d_Ru_feed_49 (lv_at hl 5 rfl) ?_
  refine lv_bipush (v := nI 8) hx hb d_Ru_feed_51 (by decide +kernel) ?_
  refine lv_irem hx hb d_Ru_feed_53 (by decide +kernel) ?_
  refine aw_ti (y := nI 0) (by decide +kernel) ?_
  refine lv_if_eq (tgt := 67) hx hb d_Ru_feed_54 (by decide) (fun _ => ?_) (fun h => absurd (by decide +kernel) h)
  refine lv_aload hx hb d_Ru_feed_67 (lv_at hl 0 rfl) ?_
  refine lv_iload_n hx hb d_Ru_feed_69 rfl (lv_at hl 3 rfl) ?_
  refine lv_aload_n hx hb d_Ru_feed_70 rfl (lv_at hl 1 rfl) ?_
  have he9 := zr_R0 hSh
  refine va_get (C := R_Ru) (T := T_Ru) (N := 2) (v := .ref (aw_r ad 2)) hx hb hG in_Ru hown hK hP 0 he9 rfl 1 (by decide) (hG _ gw_2_29) (fun _ h => h) rfl d_Ru_feed_71 ?_
  clear he9
  refine lv_iload_n hx hb d_Ru_feed_74 rfl (lv_at hl 4 rfl) ?_
  refine lv_iload hx hb d_Ru_feed_75 (lv_at hl 5 rfl) ?_
  obtain ⟨_, he10⟩ := zr_C0 hSh hj
  refine va_calli (va_runV (As := [.int bk, .ref (aw_r ad 2), .int fr, .int (nI 0)]) (rest := []) ⟨hx, hb, hml, hown, hG⟩ (k_Cx_feedBytes0bV l D g ad N0 zG zO zX zY zA zB zM zI zL zK zN zF zQ j bk fr hj hm) (aw_wV 4 hG gw_7_57 gw_7_54 gw_0_2 gw_7_55 gw_7_56 rfl rfl hd_Cx_feedBytes ⟨Nat.le_of_ble_eq_true rfl, Nat.le_of_ble_eq_true rfl⟩) (ag_qV (va_recv hK hP rfl he10) hP hD hSh hU hS) rfl rfl hl.1 rfl (lv_room (Nat.le_of_ble_eq_true rfl)) d_Ru_feed_77 ⟨Nat.le_of_ble_eq_true rfl, Nat.le_of_ble_eq_true rfl⟩) hS (fun _ _ h => h) (fun _ h => h) ?_
  clear hP hD hSh hS he10
  intro x11 u8 t8 H locs ht _ ex11 hB _ _ hS
  obtain ⟨L, hP, hD, hSh⟩ := hB
  rw [ht] at hP
  clear ht
  obtain ⟨zY12, ezY12⟩ : ∃ z : Nat → Nat → Int32, v_Cx_feedBytes0bV_zY zY j = z := ⟨_, rfl⟩
  rw [ezY12] at hSh
  have ex11 := ex11.symm
  have gzY : zY12 = v_Ru_feed10bV_zY zY j := by subst ex11 ezY12; rfl
  have hSh : az_Sh g ad zG zO zX (v_Ru_feed10bV_zY zY j) zA zB zM zI zL zK zN zF zQ L := by rw [← gzY]; exact hSh
  exact W.iret hx hb hr (fun t ht hW => ⟨⟨_, (), rfl, (by subst ex11 ezY12; rfl), ag_Hr ht hP hD hSh⟩, hS.F ht⟩) hS.2.2 d_Ru_feed_80
noncomputable def v_Ru_feed10V (zY : Nat → Nat → Int32) (j : Nat) : Int32 := v_Cx_feedBytes0V zY j
noncomputable def v_Ru_feed10V_zY (zY : Nat → Nat → Int32) (j : Nat) : Nat → Nat → Int32 := v_Cx_feedBytes0V_zY zY j
abbrev ws_Ru_feed10V : List Cond := Cond.code y_Ru_feed b_Ru_feed 6 (some .int) :: aw_G
abbrev rm_Ru_feed10V : Room := { frames := 2, cells := 0, slots := 0, locals := 46 }
set_option maxHeartbeats 4000000 in
set_option maxRecDepth 100000 in
theorem k_Ru_feed10V (l : Launch) (D : va_G) (g : Nat → ClassId) (ad : Nat → Nat) (N0 : Nat) (zG : Nat → Nat × Nat) (zO : Nat → Nat) (zX : Nat → Nat → Int64) (zY : Nat → Nat → Int32) (zA : Nat → Nat → Nat → Int32) (zB : Nat → Int32) (zM : Nat → Nat × Nat) (zI : Nat → Nat → Int32) (zL : Nat → Nat → Int64) (zK : Int32) (zN : Nat) (zF : Int32) (zQ : Int64) (j : Nat) (bk : Int32) (fr : Int32) (hj : j < 4) (hs : (zG j).1 = 3) (hm : 2 ≤ (zG j).2) (hm5 : (zG j).2 ≤ 4) : Met l y_Ru_feed ws_Ru_feed10V rm_Ru_feed10V (va_Pc ([.ref (aw_r ad 0), .int (nI j), .int bk, .int fr, .int (nI 0)] : List Value) (ag_B D g N0 (az_Sh g ad zG zO zX zY zA zB zM zI zL zK zN zF zQ))) (va_Qi (fun r (_ : Unit) => r = v_Ru_feed10V zY j) (fun (_ : Unit) t => ag_H D N0 (az_Sh g ad zG zO zX (v_Ru_feed10V_zY zY j) zA zB zM zI zL zK zN zF zQ) t.heap) (aw_Z N0)) 0 0 (aw_Z N0) := by
  refine Met.ofW (cc := b_Ru_feed) (maxL := 6) (ret := (some .int)) (by decide) rfl ?_
  intro p e s m args below meth c s₁ B hml hv
  obtain ⟨rfl, ⟨L, hP, hD, hSh⟩, hU⟩ := hv
  have hx := B.exec
  have hb := B.bytes
  have hr := B.returns
  have hG : ∀ w ∈ aw_G, w.before _ s = true := fun w h => atoms_spec (ws := ws_Ru_feed10V) B.pre w (List.mem_cons_of_mem _ h)
  have hown : s.vm.findClass "RuleCiphers" = some m.cls := findClass_of_methodNamed B.named
  have hlocks := B.notSynchronized
  have hE := hU.1
  have hK := hE.1
  have hN := hE.2.1
  have hS : va_S (aw_Z N0) s.heap s.heap [] := va_S.rf
  have hl := lv_entry ([.ref (aw_r ad 0), .int (nI j), .int bk, .int fr, .int (nI 0)] : List Value) (n := 6) (Nat.le_of_ble_eq_true rfl)
  rw [lg_entry_eq]
  generalize (lg_sl ([.ref (aw_r ad 0), .int (nI j), .int bk, .int fr, .int (nI 0)] : List Value) ++ List.replicate (6 - (lg_sl ([.ref (aw_r ad 0), .int (nI j), .int bk, .int fr, .int (nI 0)] : List Value)).length) Slot.unset).toArray = ls at hl ⊢
  have hl : lv_has ls 6 [(0, .ref (aw_r ad 0)), (1, .int (nI j)), (2, .int bk), (3, .int fr), (4, .int (nI 0))] := hl
  refine lv_aload_n hx hb d_Ru_feed_0 rfl (lv_at hl 0 rfl) ?_
  refine lv_iload_n hx hb d_Ru_feed_1 rfl (lv_at hl 1 rfl) ?_
  have he1 := zr_R0 hSh
  refine va_callr (va_runV (As := [.int (nI j)]) (rest := []) ⟨hx, hb, hml, hown, hG⟩ (k_Ru_contextAt1V l D g ad N0 zG zO zX zY zA zB zM zI zL zK zN zF zQ j hj) (aw_wV 1 hG gw_2_47 gw_2_45 gw_0_1 gw_2_46 gw_p_0 rfl rfl hd_Ru_contextAt ⟨Nat.le_of_ble_eq_true rfl, Nat.le_of_ble_eq_true rfl⟩) (ag_qV (va_recv hK hP rfl he1) hP hD hSh hU hS) rfl rfl hl.1 rfl (lv_room (Nat.le_of_ble_eq_true rfl)) d_Ru_feed_2 ⟨Nat.le_of_ble_eq_true rfl, Nat.le_of_ble_eq_true rfl⟩) hS (fun _ _ h => h) (fun _ h => h) ?_
  clear hP hD hSh hS he1
  intro u8 q2 t8 H locs ht _ _ hB _ _ hS
  obtain ⟨eq2, hB⟩ := hB
  obtain ⟨L, hP, hD, hSh⟩ := hB
  rw [ht] at hP
  clear ht
  subst eq2
  refine lv_astore hx hb d_Ru_feed_5 hl (by decide) rfl (fun ls hl => ?_)
  have hl : lv_has ls 6 [(5, .ref (aw_c ad j 0)), (0, .ref (aw_r ad 0)), (1, .int (nI j)), (2, .int bk), (3, .int fr), (4, .int (nI 0))] := hl
  refine lv_iload_n hx hb d_Ru_feed_7 rfl (lv_at hl 4 rfl) ?_
  refine lv_iload hx hb d_Ru_feed_8 (lv_at hl 5 rfl) ?_
  refine aw_cv ((va_runS (As := [.int fr, .int (nI 0)]) (rest := []) ⟨hx, hb, hml, hown, hG⟩ (k_Ru_requireInBuffer0 l fr) (aw_wS 2 hG gw_7_49 gw_7_47 gw_0_1 gw_7_48 rfl rfl hd_Ru_requireInBuffer ⟨Nat.le_of_ble_eq_true rfl, Nat.le_of_ble_eq_true rfl⟩) aw_p0 rfl rfl hl.1 rfl (lv_room (Nat.le_of_ble_eq_true rfl)) d_Ru_feed_10 ⟨Nat.le_of_ble_eq_true rfl, Nat.le_of_ble_eq_true rfl⟩).run) ?_
  refine lv_aload hx hb d_Ru_feed_13 (lv_at hl 0 rfl) ?_
  obtain ⟨hsd4, he3⟩ := zr_C0 hSh hj
  have hg := hSh.2.2.2.2.1 j hj
  refine va_get (C := R_Cx) (T := T_Cx) (N := 10) (v := .int (nI ((zG j).1))) hx hb hG in_Cx hown hK hP (3 + 16 * j + 0) he3 rfl 2 (by decide) (hG _ gw_1_57) (fun _ h => h) rfl d_Ru_feed_15 ?_
  clear he3
  refine lv_iconst (v := nI 3) hx hb d_Ru_feed_18 (by decide +kernel) ?_
  refine lv_icmp_ne (tgt := 31) hx hb d_Ru_feed_19 (by decide) (fun h => absurd (show nI ((zG j).1) = nI 3 from (nI_eq (by omega) (by omega)).mpr (by omega)) h) (fun _ => ?_)
  refine lv_aload hx hb d_Ru_feed_22 (lv_at hl 0 rfl) ?_
  obtain ⟨hsd6, he5⟩ := zr_C0 hSh hj
  have hg := hSh.2.2.2.2.1 j hj
  refine va_get (C := R_Cx) (T := T_Cx) (N := 10) (v := .int (nI ((zG j).2))) hx hb hG in_Cx hown hK hP (3 + 16 * j + 0) he5 rfl 3 (by decide) (hG _ gw_1_59) (fun _ h => h) rfl d_Ru_feed_24 ?_
  clear he5
  refine lv_iconst (v := nI 5) hx hb d_Ru_feed_27 (by decide +kernel) ?_
  refine lv_icmp_ne (tgt := 41) hx hb d_Ru_feed_28 (by decide) (fun _ => ?_) (fun h => absurd h (show ¬ nI ((zG j).2) = nI 5 from fun h9 => absurd ((nI_eq (by omega) (by omega)).mp h9) (by omega)))
  refine lv_aload hx hb d_Ru_feed_41 (lv_at hl 0 rfl) ?_
  obtain ⟨_, he7⟩ := zr_C0 hSh hj
  refine va_calli (va_runV (As := []) (rest := []) ⟨hx, hb, hml, hown, hG⟩ (k_Cx_feedsWholeBlocks0V l D g ad N0 zG zO zX zY zA zB zM zI zL zK zN zF zQ j hj hm) (aw_wV 0 hG gw_7_53 gw_7_50 gw_0_2 gw_7_51 gw_7_52 rfl rfl hd_Cx_feedsWholeBlocks ⟨Nat.le_of_ble_eq_true rfl, Nat.le_of_ble_eq_true rfl⟩) (ag_qV (va_recv hK hP rfl he7) hP hD hSh hU hS) rfl rfl hl.1 rfl (lv_room (Nat.le_of_ble_eq_true rfl)) d_Ru_feed_43 ⟨Nat.le_of_ble_eq_true rfl, Nat.le_of_ble_eq_true rfl⟩) hS (fun _ _ h => h) (fun _ h => h) ?_
  clear hP hD hSh hS he7
  intro x8 u8 t8 H locs ht _ ex8 hB _ _ hS
  obtain ⟨L, hP, hD, hSh⟩ := hB
  rw [ht] at hP
  clear ht
  subst ex8
  refine lv_if_eq (tgt := 67) hx hb d_Ru_feed_46 (by decide) (fun _ => ?_) (fun h => absurd (by decide +kernel) h)
  refine lv_aload hx hb d_Ru_feed_67 (lv_at hl 0 rfl) ?_
  refine lv_iload_n hx hb d_Ru_feed_69 rfl (lv_at hl 3 rfl) ?_
  refine lv_aload_n hx hb d_Ru_feed_70 rfl (lv_at hl 1 rfl) ?_
  have he9 := zr_R0 hSh
  refine va_get (C := R_Ru) (T := T_Ru) (N := 2) (v := .ref (aw_r ad 2)) hx hb hG in_Ru hown hK hP 0 he9 rfl 1 (by decide) (hG _ gw_2_29) (fun _ h => h) rfl d_Ru_feed_71 ?_
  clear he9
  refine lv_iload_n hx hb d_Ru_feed_74 rfl (lv_at hl 4 rfl) ?_
  refine lv_iload hx hb d_Ru_feed_75 (lv_at hl 5 rfl) ?_
  obtain ⟨_, he10⟩ := zr_C0 hSh hj
  refine va_calli (va_runV (As := [.int bk, .ref (aw_r ad 2), .int fr, .int (nI 0)]) (rest := []) ⟨hx, hb, hml, hown, hG⟩ (k_Cx_feedBytes0V l D g ad N0 zG zO zX zY zA zB zM zI zL zK zN zF zQ j bk fr hj hm) (aw_wV 4 hG gw_7_57 gw_7_54 gw_0_2 gw_7_55 gw_7_56 rfl rfl hd_Cx_feedBytes ⟨Nat.le_of_ble_eq_true rfl, Nat.le_of_ble_eq_true rfl⟩) (ag_qV (va_recv hK hP rfl he10) hP hD hSh hU hS) rfl rfl hl.1 rfl (lv_room (Nat.le_of_ble_eq_true rfl)) d_Ru_feed_77 ⟨Nat.le_of_ble_eq_true rfl, Nat.le_of_ble_eq_true rfl⟩) hS (fun _ _ h => h) (fun _ h => h) ?_
  clear hP hD hSh hS he10
  intro x11 u8 t8 H locs ht _ ex11 hB _ _ hS
  obtain ⟨L, hP, hD, hSh⟩ := hB
  rw [ht] at hP
  clear ht
  obtain ⟨zY12, ezY12⟩ : ∃ z : Nat → Nat → Int32, v_Cx_feedBytes0V_zY zY j = z := ⟨_, rfl⟩
  rw [ezY12] at hSh
  have ex11 := ex11.symm
  have gzY : zY12 = v_Ru_feed10V_zY zY j := by subst ex11 ezY12; rfl
  have hSh : az_Sh g ad zG zO zX (v_Ru_feed10V_zY zY j) zA zB zM zI zL zK zN zF zQ L := by rw [← gzY]; exact hSh
  exact W.iret hx hb hr (fun t ht hW => ⟨⟨_, (), rfl, (by subst ex11 ezY12; rfl), ag_Hr ht hP hD hSh⟩, hS.F ht⟩) hS.2.2 d_Ru_feed_80
noncomputable def v_Ru_feed11V (zG : Nat → Nat × Nat) (zO : Nat → Nat) (zX : Nat → Nat → Int64) (zY : Nat → Nat → Int32) (zA : Nat → Nat → Nat → Int32) (zB : Nat → Int32) (j : Nat) (bk : Int32) (k : Nat) (mm : Nat) : Int32 := v_Cx_feedBytes1V zG zO zX zY zA zB j bk k mm
noncomputable def v_Ru_feed11V_zX (zG : Nat → Nat × Nat) (zO : Nat → Nat) (zX : Nat → Nat → Int64) (zY : Nat → Nat → Int32) (zA : Nat → Nat → Nat → Int32) (zB : Nat → Int32) (j : Nat) (bk : Int32) (k : Nat) (mm : Nat) : Nat → Nat → Int64 := v_Cx_feedBytes1V_zX zG zO zX zY zA zB j bk k mm
noncomputable def v_Ru_feed11V_zY (zG : Nat → Nat × Nat) (zO : Nat → Nat) (zX : Nat → Nat → Int64) (zY : Nat → Nat → Int32) (zA : Nat → Nat → Nat → Int32) (zB : Nat → Int32) (j : Nat) (bk : Int32) (k : Nat) (mm : Nat) : Nat → Nat → Int32 := v_Cx_feedBytes1V_zY zG zO zX zY zA zB j bk k mm
noncomputable def v_Ru_feed11V_zB (zG : Nat → Nat × Nat) (zO : Nat → Nat) (zX : Nat → Nat → Int64) (zY : Nat → Nat → Int32) (zA : Nat → Nat → Nat → Int32) (zB : Nat → Int32) (j : Nat) (bk : Int32) (k : Nat) (mm : Nat) : Nat → Int32 := v_Cx_feedBytes1V_zB zG zO zX zY zA zB j bk k mm
abbrev ws_Ru_feed11V : List Cond := Cond.code y_Ru_feed b_Ru_feed 6 (some .int) :: aw_G
abbrev rm_Ru_feed11V : Room := { frames := 6, cells := 0, slots := 0, locals := 151 }
set_option maxHeartbeats 4000000 in
set_option maxRecDepth 100000 in
theorem k_Ru_feed11V (l : Launch) (D : va_G) (g : Nat → ClassId) (ad : Nat → Nat) (N0 : Nat) (zG : Nat → Nat × Nat) (zO : Nat → Nat) (zX : Nat → Nat → Int64) (zY : Nat → Nat → Int32) (zA : Nat → Nat → Nat → Int32) (zB : Nat → Int32) (zM : Nat → Nat × Nat) (zI : Nat → Nat → Int32) (zL : Nat → Nat → Int64) (zK : Int32) (zN : Nat) (zF : Int32) (zQ : Int64) (j : Nat) (bk : Int32) (k : Nat) (mm : Nat) (hj : j < 4) (h0 : 0 < mm) (hk : k + mm ≤ 64) (hs : (zG j).1 = 3) (hm : 2 ≤ (zG j).2) (hm5 : (zG j).2 ≤ 4) : Met l y_Ru_feed ws_Ru_feed11V rm_Ru_feed11V (va_Pc ([.ref (aw_r ad 0), .int (nI j), .int bk, .int (nI k), .int (nI mm)] : List Value) (ag_B D g N0 (az_Sh g ad zG zO zX zY zA zB zM zI zL zK zN zF zQ))) (va_Qi (fun r (_ : Unit) => r = v_Ru_feed11V zG zO zX zY zA zB j bk k mm) (fun (_ : Unit) t => ag_H D N0 (az_Sh g ad zG zO (v_Ru_feed11V_zX zG zO zX zY zA zB j bk k mm) (v_Ru_feed11V_zY zG zO zX zY zA zB j bk k mm) zA (v_Ru_feed11V_zB zG zO zX zY zA zB j bk k mm) zM zI zL zK zN zF zQ) t.heap) (aw_Z N0)) 0 0 (aw_Z N0) := by
  refine Met.ofW (cc := b_Ru_feed) (maxL := 6) (ret := (some .int)) (by decide) rfl ?_
  intro p e s m args below meth c s₁ B hml hv
  obtain ⟨rfl, ⟨L, hP, hD, hSh⟩, hU⟩ := hv
  have hx := B.exec
  have hb := B.bytes
  have hr := B.returns
  have hG : ∀ w ∈ aw_G, w.before _ s = true := fun w h => atoms_spec (ws := ws_Ru_feed11V) B.pre w (List.mem_cons_of_mem _ h)
  have hown : s.vm.findClass "RuleCiphers" = some m.cls := findClass_of_methodNamed B.named
  have hlocks := B.notSynchronized
  have hE := hU.1
  have hK := hE.1
  have hN := hE.2.1
  have hS : va_S (aw_Z N0) s.heap s.heap [] := va_S.rf
  have hl := lv_entry ([.ref (aw_r ad 0), .int (nI j), .int bk, .int (nI k), .int (nI mm)] : List Value) (n := 6) (Nat.le_of_ble_eq_true rfl)
  rw [lg_entry_eq]
  generalize (lg_sl ([.ref (aw_r ad 0), .int (nI j), .int bk, .int (nI k), .int (nI mm)] : List Value) ++ List.replicate (6 - (lg_sl ([.ref (aw_r ad 0), .int (nI j), .int bk, .int (nI k), .int (nI mm)] : List Value)).length) Slot.unset).toArray = ls at hl ⊢
  have hl : lv_has ls 6 [(0, .ref (aw_r ad 0)), (1, .int (nI j)), (2, .int bk), (3, .int (nI k)), (4, .int (nI mm))] := hl
  refine lv_aload_n hx hb d_Ru_feed_0 rfl (lv_at hl 0 rfl) ?_
  refine lv_iload_n hx hb d_Ru_feed_1 rfl (lv_at hl 1 rfl) ?_
  have he1 := zr_R0 hSh
  refine va_callr (va_runV (As := [.int (nI j)]) (rest := []) ⟨hx, hb, hml, hown, hG⟩ (k_Ru_contextAt1V l D g ad N0 zG zO zX zY zA zB zM zI zL zK zN zF zQ j hj) (aw_wV 1 hG gw_2_47 gw_2_45 gw_0_1 gw_2_46 gw_p_0 rfl rfl hd_Ru_contextAt ⟨Nat.le_of_ble_eq_true rfl, Nat.le_of_ble_eq_true rfl⟩) (ag_qV (va_recv hK hP rfl he1) hP hD hSh hU hS) rfl rfl hl.1 rfl (lv_room (Nat.le_of_ble_eq_true rfl)) d_Ru_feed_2 ⟨Nat.le_of_ble_eq_true rfl, Nat.le_of_ble_eq_true rfl⟩) hS (fun _ _ h => h) (fun _ h => h) ?_
  clear hP hD hSh hS he1
  intro u8 q2 t8 H locs ht _ _ hB _ _ hS
  obtain ⟨eq2, hB⟩ := hB
  obtain ⟨L, hP, hD, hSh⟩ := hB
  rw [ht] at hP
  clear ht
  subst eq2
  refine lv_astore hx hb d_Ru_feed_5 hl (by decide) rfl (fun ls hl => ?_)
  have hl : lv_has ls 6 [(5, .ref (aw_c ad j 0)), (0, .ref (aw_r ad 0)), (1, .int (nI j)), (2, .int bk), (3, .int (nI k)), (4, .int (nI mm))] := hl
  refine lv_iload_n hx hb d_Ru_feed_7 rfl (lv_at hl 4 rfl) ?_
  refine lv_iload hx hb d_Ru_feed_8 (lv_at hl 5 rfl) ?_
  refine aw_cv ((va_runS (As := [.int (nI k), .int (nI mm)]) (rest := []) ⟨hx, hb, hml, hown, hG⟩ (k_Ru_requireInBuffer1 l k mm h0 hk) (aw_wS 2 hG gw_7_49 gw_7_47 gw_0_1 gw_7_48 rfl rfl hd_Ru_requireInBuffer ⟨Nat.le_of_ble_eq_true rfl, Nat.le_of_ble_eq_true rfl⟩) aw_p0 rfl rfl hl.1 rfl (lv_room (Nat.le_of_ble_eq_true rfl)) d_Ru_feed_10 ⟨Nat.le_of_ble_eq_true rfl, Nat.le_of_ble_eq_true rfl⟩).run) ?_
  refine lv_aload hx hb d_Ru_feed_13 (lv_at hl 0 rfl) ?_
  obtain ⟨hsd4, he3⟩ := zr_C0 hSh hj
  have hg := hSh.2.2.2.2.1 j hj
  refine va_get (C := R_Cx) (T := T_Cx) (N := 10) (v := .int (nI ((zG j).1))) hx hb hG in_Cx hown hK hP (3 + 16 * j + 0) he3 rfl 2 (by decide) (hG _ gw_1_57) (fun _ h => h) rfl d_Ru_feed_15 ?_
  clear he3
  refine lv_iconst (v := nI 3) hx hb d_Ru_feed_18 (by decide +kernel) ?_
  refine lv_icmp_ne (tgt := 31) hx hb d_Ru_feed_19 (by decide) (fun h => absurd (show nI ((zG j).1) = nI 3 from (nI_eq (by omega) (by omega)).mpr (by omega)) h) (fun _ => ?_)
  refine lv_aload hx hb d_Ru_feed_22 (lv_at hl 0 rfl) ?_
  obtain ⟨hsd6, he5⟩ := zr_C0 hSh hj
  have hg := hSh.2.2.2.2.1 j hj
  refine va_get (C := R_Cx) (T := T_Cx) (N := 10) (v := .int (nI ((zG j).2))) hx hb hG in_Cx hown hK hP (3 + 16 * j + 0) he5 rfl 3 (by decide) (hG _ gw_1_59) (fun _ h => h) rfl d_Ru_feed_24 ?_
  clear he5
  refine lv_iconst (v := nI 5) hx hb d_Ru_feed_27 (by decide +kernel) ?_
  refine lv_icmp_ne (tgt := 41) hx hb d_Ru_feed_28 (by decide) (fun _ => ?_) (fun h => absurd h (show ¬ nI ((zG j).2) = nI 5 from fun h9 => absurd ((nI_eq (by omega) (by omega)).mp h9) (by omega)))
  refine lv_aload hx hb d_Ru_feed_41 (lv_at hl 0 rfl) ?_
  obtain ⟨_, he7⟩ := zr_C0 hSh hj
  refine va_calli (va_runV (As := []) (rest := []) ⟨hx, hb, hml, hown, hG⟩ (k_Cx_feedsWholeBlocks0V l D g ad N0 zG zO zX zY zA zB zM zI zL zK zN zF zQ j hj hm) (aw_wV 0 hG gw_7_53 gw_7_50 gw_0_2 gw_7_51 gw_7_52 rfl rfl hd_Cx_feedsWholeBlocks ⟨Nat.le_of_ble_eq_true rfl, Nat.le_of_ble_eq_true rfl⟩) (ag_qV (va_recv hK hP rfl he7) hP hD hSh hU hS) rfl rfl hl.1 rfl (lv_room (Nat.le_of_ble_eq_true rfl)) d_Ru_feed_43 ⟨Nat.le_of_ble_eq_true rfl, Nat.le_of_ble_eq_true rfl⟩) hS (fun _ _ h => h) (fun _ h => h) ?_
  clear hP hD hSh hS he7
  intro x8 u8 t8 H locs ht _ ex8 hB _ _ hS
  obtain ⟨L, hP, hD, hSh⟩ := hB
  rw [ht] at hP
  clear ht
  subst ex8
  refine lv_if_eq (tgt := 67) hx hb d_Ru_feed_46 (by decide) (fun _ => ?_) (fun h => absurd (by decide +kernel) h)
  refine lv_aload hx hb d_Ru_feed_67 (lv_at hl 0 rfl) ?_
  refine lv_iload_n hx hb d_Ru_feed_69 rfl (lv_at hl 3 rfl) ?_
  refine lv_aload_n hx hb d_Ru_feed_70 rfl (lv_at hl 1 rfl) ?_
  have he9 := zr_R0 hSh
  refine va_get (C := R_Ru) (T := T_Ru) (N := 2) (v := .ref (aw_r ad 2)) hx hb hG in_Ru hown hK hP 0 he9 rfl 1 (by decide) (hG _ gw_2_29) (fun _ h => h) rfl d_Ru_feed_71 ?_
  clear he9
  refine lv_iload_n hx hb d_Ru_feed_74 rfl (lv_at hl 4 rfl) ?_
  refine lv_iload hx hb d_Ru_feed_75 (lv_at hl 5 rfl) ?_
  obtain ⟨_, he10⟩ := zr_C0 hSh hj
  refine va_calli (va_runV (As := [.int bk, .ref (aw_r ad 2), .int (nI k), .int (nI mm)]) (rest := []) ⟨hx, hb, hml, hown, hG⟩ (k_Cx_feedBytes1V l D g ad N0 zG zO zX zY zA zB zM zI zL zK zN zF zQ j bk k mm hj hm hk) (aw_wV 4 hG gw_7_57 gw_7_54 gw_0_2 gw_7_55 gw_7_56 rfl rfl hd_Cx_feedBytes ⟨Nat.le_of_ble_eq_true rfl, Nat.le_of_ble_eq_true rfl⟩) (ag_qV (va_recv hK hP rfl he10) hP hD hSh hU hS) rfl rfl hl.1 rfl (lv_room (Nat.le_of_ble_eq_true rfl)) d_Ru_feed_77 ⟨Nat.le_of_ble_eq_true rfl, Nat.le_of_ble_eq_true rfl⟩) hS (fun _ _ h => h) (fun _ h => h) ?_
  clear hP hD hSh hS he10
  intro x11 u8 t8 H locs ht _ ex11 hB _ _ hS
  obtain ⟨L, hP, hD, hSh⟩ := hB
  rw [ht] at hP
  clear ht
  obtain ⟨zX12, ezX12⟩ : ∃ z : Nat → Nat → Int64, v_Cx_feedBytes1V_zX zG zO zX zY zA zB j bk k mm = z := ⟨_, rfl⟩
  rw [ezX12] at hSh
  obtain ⟨zY13, ezY13⟩ : ∃ z : Nat → Nat → Int32, v_Cx_feedBytes1V_zY zG zO zX zY zA zB j bk k mm = z := ⟨_, rfl⟩
  rw [ezY13] at hSh
  obtain ⟨zB14, ezB14⟩ : ∃ z : Nat → Int32, v_Cx_feedBytes1V_zB zG zO zX zY zA zB j bk k mm = z := ⟨_, rfl⟩
  rw [ezB14] at hSh
  have ex11 := ex11.symm
  have gzX : zX12 = v_Ru_feed11V_zX zG zO zX zY zA zB j bk k mm := by subst ex11 ezB14 ezY13 ezX12; rfl
  have gzY : zY13 = v_Ru_feed11V_zY zG zO zX zY zA zB j bk k mm := by subst ex11 ezB14 ezY13 ezX12; rfl
  have gzB : zB14 = v_Ru_feed11V_zB zG zO zX zY zA zB j bk k mm := by subst ex11 ezB14 ezY13 ezX12; rfl
  have hSh : az_Sh g ad zG zO (v_Ru_feed11V_zX zG zO zX zY zA zB j bk k mm) (v_Ru_feed11V_zY zG zO zX zY zA zB j bk k mm) zA (v_Ru_feed11V_zB zG zO zX zY zA zB j bk k mm) zM zI zL zK zN zF zQ L := by rw [← gzX, ← gzY, ← gzB]; exact hSh
  exact W.iret hx hb hr (fun t ht hW => ⟨⟨_, (), rfl, (by subst ex11 ezB14 ezY13 ezX12; rfl), ag_Hr ht hP hD hSh⟩, hS.F ht⟩) hS.2.2 d_Ru_feed_80
noncomputable def v_Ru_feed18V (zG : Nat → Nat × Nat) (zO : Nat → Nat) (zX : Nat → Nat → Int64) (zY : Nat → Nat → Int32) (zA : Nat → Nat → Nat → Int32) (zB : Nat → Int32) (j : Nat) (bk : Int32) (k : Nat) (mm : Nat) : Int32 := v_Cx_feedBytes8V zG zO zX zY zA zB j bk k mm
noncomputable def v_Ru_feed18V_zX (zG : Nat → Nat × Nat) (zO : Nat → Nat) (zX : Nat → Nat → Int64) (zY : Nat → Nat → Int32) (zA : Nat → Nat → Nat → Int32) (zB : Nat → Int32) (j : Nat) (bk : Int32) (k : Nat) (mm : Nat) : Nat → Nat → Int64 := v_Cx_feedBytes8V_zX zG zO zX zY zA zB j bk k mm
noncomputable def v_Ru_feed18V_zY (zG : Nat → Nat × Nat) (zO : Nat → Nat) (zX : Nat → Nat → Int64) (zY : Nat → Nat → Int32) (zA : Nat → Nat → Nat → Int32) (zB : Nat → Int32) (j : Nat) (bk : Int32) (k : Nat) (mm : Nat) : Nat → Nat → Int32 := v_Cx_feedBytes8V_zY zG zO zX zY zA zB j bk k mm
noncomputable def v_Ru_feed18V_zB (zG : Nat → Nat × Nat) (zO : Nat → Nat) (zX : Nat → Nat → Int64) (zY : Nat → Nat → Int32) (zA : Nat → Nat → Nat → Int32) (zB : Nat → Int32) (j : Nat) (bk : Int32) (k : Nat) (mm : Nat) : Nat → Int32 := v_Cx_feedBytes8V_zB zG zO zX zY zA zB j bk k mm
abbrev ws_Ru_feed18V : List Cond := Cond.code y_Ru_feed b_Ru_feed 6 (some .int) :: aw_G
abbrev rm_Ru_feed18V : Room := { frames := 6, cells := 0, slots := 0, locals := 153 }
set_option maxHeartbeats 4000000 in
set_option maxRecDepth 100000 in
theorem k_Ru_feed18V (l : Launch) (D : va_G) (g : Nat → ClassId) (ad : Nat → Nat) (N0 : Nat) (zG : Nat → Nat × Nat) (zO : Nat → Nat) (zX : Nat → Nat → Int64) (zY : Nat → Nat → Int32) (zA : Nat → Nat → Nat → Int32) (zB : Nat → Int32) (zM : Nat → Nat × Nat) (zI : Nat → Nat → Int32) (zL : Nat → Nat → Int64) (zK : Int32) (zN : Nat) (zF : Int32) (zQ : Int64) (j : Nat) (bk : Int32) (k : Nat) (mm : Nat) (hj : j < 4) (h0 : 0 < mm) (hk : k + 8 * mm ≤ 64) (hs : (zG j).1 = 3) (hm : (zG j).2 ≤ 1) : Met l y_Ru_feed ws_Ru_feed18V rm_Ru_feed18V (va_Pc ([.ref (aw_r ad 0), .int (nI j), .int bk, .int (nI k), .int (nI (8 * mm))] : List Value) (ag_B D g N0 (az_Sh g ad zG zO zX zY zA zB zM zI zL zK zN zF zQ))) (va_Qi (fun r (_ : Unit) => r = v_Ru_feed18V zG zO zX zY zA zB j bk k mm) (fun (_ : Unit) t => ag_H D N0 (az_Sh g ad zG zO (v_Ru_feed18V_zX zG zO zX zY zA zB j bk k mm) (v_Ru_feed18V_zY zG zO zX zY zA zB j bk k mm) zA (v_Ru_feed18V_zB zG zO zX zY zA zB j bk k mm) zM zI zL zK zN zF zQ) t.heap) (aw_Z N0)) 0 0 (aw_Z N0) := by
  refine Met.ofW (cc := b_Ru_feed) (maxL := 6) (ret := (some .int)) (by decide) rfl ?_
  intro p e s m args below meth c s₁ B hml hv
  obtain ⟨rfl, ⟨L, hP, hD, hSh⟩, hU⟩ := hv
  have hx := B.exec
  have hb := B.bytes
  have hr := B.returns
  have hG : ∀ w ∈ aw_G, w.before _ s = true := fun w h => atoms_spec (ws := ws_Ru_feed18V) B.pre w (List.mem_cons_of_mem _ h)
  have hown : s.vm.findClass "RuleCiphers" = some m.cls := findClass_of_methodNamed B.named
  have hlocks := B.notSynchronized
  have hE := hU.1
  have hK := hE.1
  have hN := hE.2.1
  have hS : va_S (aw_Z N0) s.heap s.heap [] := va_S.rf
  have hl := lv_entry ([.ref (aw_r ad 0), .int (nI j), .int bk, .int (nI k), .int (nI (8 * mm))] : List Value) (n := 6) (Nat.le_of_ble_eq_true rfl)
  rw [lg_entry_eq]
  generalize (lg_sl ([.ref (aw_r ad 0), .int (nI j), .int bk, .int (nI k), .int (nI (8 * mm))] : List Value) ++ List.replicate (6 - (lg_sl ([.ref (aw_r ad 0), .int (nI j), .int bk, .int (nI k), .int (nI (8 * mm))] : List Value)).length) Slot.unset).toArray = ls at hl ⊢
  have hl : lv_has ls 6 [(0, .ref (aw_r ad 0)), (1, .int (nI j)), (2, .int bk), (3, .int (nI k)), (4, .int (nI (8 * mm)))] := hl
  refine lv_aload_n hx hb d_Ru_feed_0 rfl (lv_at hl 0 rfl) ?_
  refine lv_iload_n hx hb d_Ru_feed_1 rfl (lv_at hl 1 rfl) ?_
  have he1 := zr_R0 hSh
  refine va_callr (va_runV (As := [.int (nI j)]) (rest := []) ⟨hx, hb, hml, hown, hG⟩ (k_Ru_contextAt1V l D g ad N0 zG zO zX zY zA zB zM zI zL zK zN zF zQ j hj) (aw_wV 1 hG gw_2_47 gw_2_45 gw_0_1 gw_2_46 gw_p_0 rfl rfl hd_Ru_contextAt ⟨Nat.le_of_ble_eq_true rfl, Nat.le_of_ble_eq_true rfl⟩) (ag_qV (va_recv hK hP rfl he1) hP hD hSh hU hS) rfl rfl hl.1 rfl (lv_room (Nat.le_of_ble_eq_true rfl)) d_Ru_feed_2 ⟨Nat.le_of_ble_eq_true rfl, Nat.le_of_ble_eq_true rfl⟩) hS (fun _ _ h => h) (fun _ h => h) ?_
  clear hP hD hSh hS he1
  intro u8 q2 t8 H locs ht _ _ hB _ _ hS
  obtain ⟨eq2, hB⟩ := hB
  obtain ⟨L, hP, hD, hSh⟩ := hB
  rw [ht] at hP
  clear ht
  subst eq2
  refine lv_astore hx hb d_Ru_feed_5 hl (by decide) rfl (fun ls hl => ?_)
  have hl : lv_has ls 6 [(5, .ref (aw_c ad j 0)), (0, .ref (aw_r ad 0)), (1, .int (nI j)), (2, .int bk), (3, .int (nI k)), (4, .int (nI (8 * mm)))] := hl
  refine lv_iload_n hx hb d_Ru_feed_7 rfl (lv_at hl 4 rfl) ?_
  refine lv_iload hx hb d_Ru_feed_8 (lv_at hl 5 rfl) ?_
  refine aw_cv ((va_runS (As := [.int (nI k), .int (nI (8 * mm))]) (rest := []) ⟨hx, hb, hml, hown, hG⟩ (k_Ru_requireInBuffer1 l k (8 * mm) (by omega) (by omega)) (aw_wS 2 hG gw_7_49 gw_7_47 gw_0_1 gw_7_48 rfl rfl hd_Ru_requireInBuffer ⟨Nat.le_of_ble_eq_true rfl, Nat.le_of_ble_eq_true rfl⟩) aw_p0 rfl rfl hl.1 rfl (lv_room (Nat.le_of_ble_eq_true rfl)) d_Ru_feed_10 ⟨Nat.le_of_ble_eq_true rfl, Nat.le_of_ble_eq_true rfl⟩).run) ?_
  refine lv_aload hx hb d_Ru_feed_13 (lv_at hl 0 rfl) ?_
  obtain ⟨hsd4, he3⟩ := zr_C0 hSh hj
  have hg := hSh.2.2.2.2.1 j hj
  refine va_get (C := R_Cx) (T := T_Cx) (N := 10) (v := .int (nI ((zG j).1))) hx hb hG in_Cx hown hK hP (3 + 16 * j + 0) he3 rfl 2 (by decide) (hG _ gw_1_57) (fun _ h => h) rfl d_Ru_feed_15 ?_
  clear he3
  refine lv_iconst (v := nI 3) hx hb d_Ru_feed_18 (by decide +kernel) ?_
  refine lv_icmp_ne (tgt := 31) hx hb d_Ru_feed_19 (by decide) (fun h => absurd (show nI ((zG j).1) = nI 3 from (nI_eq (by omega) (by omega)).mpr (by omega)) h) (fun _ => ?_)
  refine lv_aload hx hb d_Ru_feed_22 (lv_at hl 0 rfl) ?_
  obtain ⟨hsd6, he5⟩ := zr_C0 hSh hj
  have hg := hSh.2.2.2.2.1 j hj
  refine va_get (C := R_Cx) (T := T_Cx) (N := 10) (v := .int (nI ((zG j).2))) hx hb hG in_Cx hown hK hP (3 + 16 * j + 0) he5 rfl 3 (by decide) (hG _ gw_1_59) (fun _ h => h) rfl d_Ru_feed_24 ?_
  clear he5
  refine lv_iconst (v := nI 5) hx hb d_Ru_feed_27 (by decide +kernel) ?_
  refine lv_icmp_ne (tgt := 41) hx hb d_Ru_feed_28 (by decide) (fun _ => ?_) (fun h => absurd h (show ¬ nI ((zG j).2) = nI 5 from fun h9 => absurd ((nI_eq (by omega) (by omega)).mp h9) (by omega)))
  refine lv_aload hx hb d_Ru_feed_41 (lv_at hl 0 rfl) ?_
  obtain ⟨_, he7⟩ := zr_C0 hSh hj
  refine va_calli (va_runV (As := []) (rest := []) ⟨hx, hb, hml, hown, hG⟩ (k_Cx_feedsWholeBlocks1V l D g ad N0 zG zO zX zY zA zB zM zI zL zK zN zF zQ j hj hm) (aw_wV 0 hG gw_7_53 gw_7_50 gw_0_2 gw_7_51 gw_7_52 rfl rfl hd_Cx_feedsWholeBlocks ⟨Nat.le_of_ble_eq_true rfl, Nat.le_of_ble_eq_true rfl⟩) (ag_qV (va_recv hK hP rfl he7) hP hD hSh hU hS) rfl rfl hl.1 rfl (lv_room (Nat.le_of_ble_eq_true rfl)) d_Ru_feed_43 ⟨Nat.le_of_ble_eq_true rfl, Nat.le_of_ble_eq_true rfl⟩) hS (fun _ _ h => h) (fun _ h => h) ?_
  clear hP hD hSh hS he7
  intro x8 u8 t8 H locs ht _ ex8 hB _ _ hS
  obtain ⟨L, hP, hD, hSh⟩ := hB
  rw [ht] at hP
  clear ht
  subst ex8
  refine lv_if_eq (tgt := 67) hx hb d_Ru_feed_46 (by decide) (fun h => absurd h (by decide +kernel)) (fun _ => ?_)
  refine lv_iload hx hb d_Ru_feed_49 (lv_at hl 5 rfl) ?_
  refine lv_bipush (v := nI 8) hx hb d_Ru_feed_51 (by decide +kernel) ?_
  refine lv_irem hx hb d_Ru_feed_53 (by decide +kernel) ?_
  refine aw_ti (pk_rem (a := (8 * mm)) (d := 8) (by omega) (by omega) (by omega)) ?_
  refine lv_if_eq (tgt := 67) hx hb d_Ru_feed_54 (by decide) (fun _ => ?_) (fun h => absurd (show nI ((8 * mm) % 8) = nI 0 from (nI_eq (by omega) (by omega)).mpr (by omega)) h)
  refine lv_aload hx hb d_Ru_feed_67 (lv_at hl 0 rfl) ?_
  refine lv_iload_n hx hb d_Ru_feed_69 rfl (lv_at hl 3 rfl) ?_
  refine lv_aload_n hx hb d_Ru_feed_70 rfl (lv_at hl 1 rfl) ?_
  have he9 := zr_R0 hSh
  refine va_get (C := R_Ru) (T := T_Ru) (N := 2) (v := .ref (aw_r ad 2)) hx hb hG in_Ru hown hK hP 0 he9 rfl 1 (by decide) (hG _ gw_2_29) (fun _ h => h) rfl d_Ru_feed_71 ?_
  clear he9
  refine lv_iload_n hx hb d_Ru_feed_74 rfl (lv_at hl 4 rfl) ?_
  refine lv_iload hx hb d_Ru_feed_75 (lv_at hl 5 rfl) ?_
  obtain ⟨_, he10⟩ := zr_C0 hSh hj
  refine va_calli (va_runV (As := [.int bk, .ref (aw_r ad 2), .int (nI k), .int (nI (8 * mm))]) (rest := []) ⟨hx, hb, hml, hown, hG⟩ (k_Cx_feedBytes8V l D g ad N0 zG zO zX zY zA zB zM zI zL zK zN zF zQ j bk k mm hj hm hk) (aw_wV 4 hG gw_7_57 gw_7_54 gw_0_2 gw_7_55 gw_7_56 rfl rfl hd_Cx_feedBytes ⟨Nat.le_of_ble_eq_true rfl, Nat.le_of_ble_eq_true rfl⟩) (ag_qV (va_recv hK hP rfl he10) hP hD hSh hU hS) rfl rfl hl.1 rfl (lv_room (Nat.le_of_ble_eq_true rfl)) d_Ru_feed_77 ⟨Nat.le_of_ble_eq_true rfl, Nat.le_of_ble_eq_true rfl⟩) hS (fun _ _ h => h) (fun _ h => h) ?_
  clear hP hD hSh hS he10
  intro x11 u8 t8 H locs ht _ ex11 hB _ _ hS
  obtain ⟨L, hP, hD, hSh⟩ := hB
  rw [ht] at hP
  clear ht
  obtain ⟨zX12, ezX12⟩ : ∃ z : Nat → Nat → Int64, v_Cx_feedBytes8V_zX zG zO zX zY zA zB j bk k mm = z := ⟨_, rfl⟩
  rw [ezX12] at hSh
  obtain ⟨zY13, ezY13⟩ : ∃ z : Nat → Nat → Int32, v_Cx_feedBytes8V_zY zG zO zX zY zA zB j bk k mm = z := ⟨_, rfl⟩
  rw [ezY13] at hSh
  obtain ⟨zB14, ezB14⟩ : ∃ z : Nat → Int32, v_Cx_feedBytes8V_zB zG zO zX zY zA zB j bk k mm = z := ⟨_, rfl⟩
  rw [ezB14] at hSh
  have ex11 := ex11.symm
  have gzX : zX12 = v_Ru_feed18V_zX zG zO zX zY zA zB j bk k mm := by subst ex11 ezB14 ezY13 ezX12; rfl
  have gzY : zY13 = v_Ru_feed18V_zY zG zO zX zY zA zB j bk k mm := by subst ex11 ezB14 ezY13 ezX12; rfl
  have gzB : zB14 = v_Ru_feed18V_zB zG zO zX zY zA zB j bk k mm := by subst ex11 ezB14 ezY13 ezX12; rfl
  have hSh : az_Sh g ad zG zO (v_Ru_feed18V_zX zG zO zX zY zA zB j bk k mm) (v_Ru_feed18V_zY zG zO zX zY zA zB j bk k mm) zA (v_Ru_feed18V_zB zG zO zX zY zA zB j bk k mm) zM zI zL zK zN zF zQ L := by rw [← gzX, ← gzY, ← gzB]; exact hSh
  exact W.iret hx hb hr (fun t ht hW => ⟨⟨_, (), rfl, (by subst ex11 ezB14 ezY13 ezX12; rfl), ag_Hr ht hP hD hSh⟩, hS.F ht⟩) hS.2.2 d_Ru_feed_80
noncomputable def v_Ru_seek1V_zX (zX : Nat → Nat → Int64) (zY : Nat → Nat → Int32) (j : Nat) (b : Int64) : Nat → Nat → Int64 := v_Cx_goToBlockV_zX zX zY j b
noncomputable def v_Ru_seek1V_zY (zX : Nat → Nat → Int64) (zY : Nat → Nat → Int32) (j : Nat) (b : Int64) : Nat → Nat → Int32 := v_Cx_goToBlockV_zY zX zY j b
abbrev ws_Ru_seek1V : List Cond := Cond.code y_Ru_seek b_Ru_seek 5 none :: aw_G
abbrev rm_Ru_seek1V : Room := { frames := 1, cells := 0, slots := 0, locals := 22 }
set_option maxHeartbeats 4000000 in
set_option maxRecDepth 100000 in
theorem k_Ru_seek1V (l : Launch) (D : va_G) (g : Nat → ClassId) (ad : Nat → Nat) (N0 : Nat) (zG : Nat → Nat × Nat) (zO : Nat → Nat) (zX : Nat → Nat → Int64) (zY : Nat → Nat → Int32) (zA : Nat → Nat → Nat → Int32) (zB : Nat → Int32) (zM : Nat → Nat × Nat) (zI : Nat → Nat → Int32) (zL : Nat → Nat → Int64) (zK : Int32) (zN : Nat) (zF : Int32) (zQ : Int64) (j : Nat) (b : Int64) (hj : j < 4) (hs : (zG j).1 = 3 ∧ (zG j).2 = 4) : Met l y_Ru_seek ws_Ru_seek1V rm_Ru_seek1V (va_Pc ([.ref (aw_r ad 0), .int (nI j), .long b] : List Value) (ag_B D g N0 (az_Sh g ad zG zO zX zY zA zB zM zI zL zK zN zF zQ))) (va_Qv (fun (_ : Unit) => True) (fun (_ : Unit) t => ag_H D N0 (az_Sh g ad zG zO (v_Ru_seek1V_zX zX zY j b) (v_Ru_seek1V_zY zX zY j b) zA zB zM zI zL zK zN zF zQ) t.heap) (aw_Z N0)) 0 0 (aw_Z N0) := by
  refine Met.ofW (cc := b_Ru_seek) (maxL := 5) (ret := none) (by decide) rfl ?_
  intro p e s m args below meth c s₁ B hml hv
  obtain ⟨rfl, ⟨L, hP, hD, hSh⟩, hU⟩ := hv
  have hx := B.exec
  have hb := B.bytes
  have hr := B.returns
  have hG : ∀ w ∈ aw_G, w.before _ s = true := fun w h => atoms_spec (ws := ws_Ru_seek1V) B.pre w (List.mem_cons_of_mem _ h)
  have hown : s.vm.findClass "RuleCiphers" = some m.cls := findClass_of_methodNamed B.named
  have hlocks := B.notSynchronized
  have hE := hU.1
  have hK := hE.1
  have hN := hE.2.1
  have hS : va_S (aw_Z N0) s.heap s.heap [] := va_S.rf
  have hl := lv_entry ([.ref (aw_r ad 0), .int (nI j), .long b] : List Value) (n := 5) (Nat.le_of_ble_eq_true rfl)
  rw [lg_entry_eq]
  generalize (lg_sl ([.ref (aw_r ad 0), .int (nI j), .long b] : List Value) ++ List.replicate (5 - (lg_sl ([.ref (aw_r ad 0), .int (nI j), .long b] : List Value)).length) Slot.unset).toArray = ls at hl ⊢
  have hl : lv_has ls 5 [(0, .ref (aw_r ad 0)), (1, .int (nI j)), (2, .long b)] := hl
  refine lv_aload_n hx hb d_Ru_seek_0 rfl (lv_at hl 0 rfl) ?_
  refine lv_iload_n hx hb d_Ru_seek_1 rfl (lv_at hl 1 rfl) ?_
  have he1 := zr_R0 hSh
  refine va_callr (va_runV (As := [.int (nI j)]) (rest := []) ⟨hx, hb, hml, hown, hG⟩ (k_Ru_contextAt1V l D g ad N0 zG zO zX zY zA zB zM zI zL zK zN zF zQ j hj) (aw_wV 1 hG gw_2_47 gw_2_45 gw_0_1 gw_2_46 gw_p_0 rfl rfl hd_Ru_contextAt ⟨Nat.le_of_ble_eq_true rfl, Nat.le_of_ble_eq_true rfl⟩) (ag_qV (va_recv hK hP rfl he1) hP hD hSh hU hS) rfl rfl hl.1 rfl (lv_room (Nat.le_of_ble_eq_true rfl)) d_Ru_seek_2 ⟨Nat.le_of_ble_eq_true rfl, Nat.le_of_ble_eq_true rfl⟩) hS (fun _ _ h => h) (fun _ h => h) ?_
  clear hP hD hSh hS he1
  intro u8 q2 t8 H locs ht _ _ hB _ _ hS
  obtain ⟨eq2, hB⟩ := hB
  obtain ⟨L, hP, hD, hSh⟩ := hB
  rw [ht] at hP
  clear ht
  subst eq2
  refine lv_astore hx hb d_Ru_seek_5 hl (by decide) rfl (fun ls hl => ?_)
  have hl : lv_has ls 5 [(4, .ref (aw_c ad j 0)), (0, .ref (aw_r ad 0)), (1, .int (nI j)), (2, .long b)] := hl
  refine lv_aload hx hb d_Ru_seek_7 (lv_at hl 0 rfl) ?_
  refine lv_iconst (v := nI 4) hx hb d_Ru_seek_9 (by decide +kernel) ?_
  refine va_callv (va_runS (As := [.ref (aw_c ad j 0), .int (nI 4)]) (rest := []) ⟨hx, hb, hml, hown, hG⟩ (k_Ru_requireMode4V l D g ad N0 zG zO zX zY zA zB zM zI zL zK zN zF zQ j hj hs) (aw_wS 2 hG gw_8_33 gw_8_31 gw_0_1 gw_8_32 rfl rfl hd_Ru_requireMode ⟨Nat.le_of_ble_eq_true rfl, Nat.le_of_ble_eq_true rfl⟩) (ag_qS hP hD hSh hU hS) rfl rfl hl.1 rfl (lv_room (Nat.le_of_ble_eq_true rfl)) d_Ru_seek_10 ⟨Nat.le_of_ble_eq_true rfl, Nat.le_of_ble_eq_true rfl⟩) hS (fun _ _ h => h) (fun _ h => h) ?_
  clear hP hD hSh hS
  intro u8 t8 H locs ht _ _ hB _ _ hS
  obtain ⟨L, hP, hD, hSh⟩ := hB
  rw [ht] at hP
  clear ht
  refine lv_aload hx hb d_Ru_seek_13 (lv_at hl 0 rfl) ?_
  refine lv_lload_n hx hb d_Ru_seek_15 rfl (lv_at hl 3 rfl) ?_
  obtain ⟨_, he3⟩ := zr_C0 hSh hj
  refine va_callv (va_runV (As := [.long b]) (rest := []) ⟨hx, hb, hml, hown, hG⟩ (k_Cx_goToBlockV l D g ad N0 zG zO zX zY zA zB zM zI zL zK zN zF zQ j b hj) (aw_wV 1 hG gw_8_37 gw_8_34 gw_0_2 gw_8_35 gw_8_36 rfl rfl hd_Cx_goToBlock ⟨Nat.le_of_ble_eq_true rfl, Nat.le_of_ble_eq_true rfl⟩) (ag_qV (va_recv hK hP rfl he3) hP hD hSh hU hS) rfl rfl hl.1 rfl (lv_room (Nat.le_of_ble_eq_true rfl)) d_Ru_seek_16 ⟨Nat.le_of_ble_eq_true rfl, Nat.le_of_ble_eq_true rfl⟩) hS (fun _ _ h => h) (fun _ h => h) ?_
  clear hP hD hSh hS he3
  intro u8 t8 H locs ht _ _ hB _ _ hS
  obtain ⟨L, hP, hD, hSh⟩ := hB
  rw [ht] at hP
  clear ht
  obtain ⟨zX4, ezX4⟩ : ∃ z : Nat → Nat → Int64, v_Cx_goToBlockV_zX zX zY j b = z := ⟨_, rfl⟩
  rw [ezX4] at hSh
  obtain ⟨zY5, ezY5⟩ : ∃ z : Nat → Nat → Int32, v_Cx_goToBlockV_zY zX zY j b = z := ⟨_, rfl⟩
  rw [ezY5] at hSh
  have gzX : zX4 = v_Ru_seek1V_zX zX zY j b := by subst ezY5 ezX4; rfl
  have gzY : zY5 = v_Ru_seek1V_zY zX zY j b := by subst ezY5 ezX4; rfl
  have hSh : az_Sh g ad zG zO (v_Ru_seek1V_zX zX zY j b) (v_Ru_seek1V_zY zX zY j b) zA zB zM zI zL zK zN zF zQ L := by rw [← gzX, ← gzY]; exact hSh
  exact W.vret hx hb hr (fun t ht hW => ⟨⟨(), rfl, trivial, ag_Hr ht hP hD hSh⟩, hS.F ht⟩) hS.2.2 d_Ru_seek_19
abbrev ws_Ru_seekXcV : List Cond := Cond.code y_Ru_seek b_Ru_seek 5 none :: aw_G
abbrev rm_Ru_seekXcV : Room := { frames := 7, cells := 1, slots := 6, locals := 111 }
set_option maxHeartbeats 4000000 in
set_option maxRecDepth 100000 in
theorem k_Ru_seekXcV (l : Launch) (hst : l.stackTraces = false) (D : va_G) (g : Nat → ClassId) (ad : Nat → Nat) (N0 : Nat) (zG : Nat → Nat × Nat) (zO : Nat → Nat) (zX : Nat → Nat → Int64) (zY : Nat → Nat → Int32) (zA : Nat → Nat → Nat → Int32) (zB : Nat → Int32) (zM : Nat → Nat × Nat) (zI : Nat → Nat → Int32) (zL : Nat → Nat → Int64) (zK : Int32) (zN : Nat) (zF : Int32) (zQ : Int64) (c0 : Int32) (b : Int64) (hc : c0 < 0 ∨ (¬ c0 < 0 ∧ ¬ c0 < nI 4)) : vx_Met l y_Ru_seek ws_Ru_seekXcV rm_Ru_seekXcV (va_Pc ([.ref (aw_r ad 0), .int c0, .long b] : List Value) (ag_B D g N0 (az_Sh g ad zG zO zX zY zA zB zM zI zL zK zN zF zQ))) (va_Qv (fun (_ : Unit) => False) (fun (_ : Unit) _ => True) (aw_Z N0)) (vx_X (fun (_ : Unit) => True) (fun E (_ : Unit) t => E = "java/lang/IndexOutOfBoundsException" ∧ ag_H D N0 (az_Sh g ad zG zO zX zY zA zB zM zI zL zK zN zF zQ) t.heap) (aw_Z N0)) 1 6 (aw_Z N0) := by
  refine vx_ofW (cc := b_Ru_seek) (maxL := 5) (ret := none) (by decide) rfl ?_
  intro p e s m args below meth c s₁ B hml hex hv
  obtain ⟨rfl, ⟨L, hP, hD, hSh⟩, hU⟩ := hv
  have hx := B.exec
  have hb := B.bytes
  have hr := B.returns
  have hG : ∀ w ∈ aw_G, w.before _ s = true := fun w h => atoms_spec (ws := ws_Ru_seekXcV) B.pre w (List.mem_cons_of_mem _ h)
  have hown : s.vm.findClass "RuleCiphers" = some m.cls := findClass_of_methodNamed B.named
  have hlocks := B.notSynchronized
  have hE := hU.1
  have hK := hE.1
  have hN := hE.2.1
  have hS : va_S (aw_Z N0) s.heap s.heap [] := va_S.rf
  have hl := lv_entry ([.ref (aw_r ad 0), .int c0, .long b] : List Value) (n := 5) (Nat.le_of_ble_eq_true rfl)
  rw [lg_entry_eq]
  generalize (lg_sl ([.ref (aw_r ad 0), .int c0, .long b] : List Value) ++ List.replicate (5 - (lg_sl ([.ref (aw_r ad 0), .int c0, .long b] : List Value)).length) Slot.unset).toArray = ls at hl ⊢
  have hl : lv_has ls 5 [(0, .ref (aw_r ad 0)), (1, .int c0), (2, .long b)] := hl
  refine lv_aload_n hx hb d_Ru_seek_0 rfl (lv_at hl 0 rfl) ?_
  refine lv_iload_n hx hb d_Ru_seek_1 rfl (lv_at hl 1 rfl) ?_
  have he1 := zr_R0 hSh
  refine vx_callv (vx_runV (As := [.int c0]) (rest := []) ⟨hx, hb, hml, hown, hG⟩ (k_Ru_contextAtXV l hst D g ad N0 zG zO zX zY zA zB zM zI zL zK zN zF zQ c0 hc) (aw_wV 1 hG gw_2_47 gw_2_45 gw_0_1 gw_2_46 gw_p_0 rfl rfl hd_Ru_contextAt ⟨Nat.le_of_ble_eq_true rfl, Nat.le_of_ble_eq_true rfl⟩) (ag_qV (va_recv hK hP rfl he1) hP hD hSh hU hS) rfl rfl hl.1 rfl (lv_room (Nat.le_of_ble_eq_true rfl)) d_Ru_seek_2 ⟨Nat.le_of_ble_eq_true rfl, Nat.le_of_ble_eq_true rfl⟩) hS (fun _ _ h => h) (fun _ h => h) (fun _ _ h => h) (fun E ce q9 u t H locs ht _ _ hBX _ _ hS hce hcv hcl => ?_) (fun u t H locs _ _ hF _ _ _ _ => hF.elim)
  obtain ⟨rfl, L, hP, hD, hSh⟩ := hBX
  rw [ht] at hP
  exact vx_out (fun x h => (hex x h).elim) hlocks hce hcv hcl (fun t9 ht9 _ => ⟨(), trivial, ⟨rfl, ag_Hr ht9 hP hD hSh⟩, hS.F ht9⟩) hS.2.2 (Nat.le_of_ble_eq_true rfl) (Nat.le_of_ble_eq_true rfl)
abbrev ws_Ru_seekXsV : List Cond := Cond.code y_Ru_seek b_Ru_seek 5 none :: aw_G
abbrev rm_Ru_seekXsV : Room := { frames := 7, cells := 1, slots := 6, locals := 111 }
set_option maxHeartbeats 4000000 in
set_option maxRecDepth 100000 in
theorem k_Ru_seekXsV (l : Launch) (hst : l.stackTraces = false) (D : va_G) (g : Nat → ClassId) (ad : Nat → Nat) (N0 : Nat) (zG : Nat → Nat × Nat) (zO : Nat → Nat) (zX : Nat → Nat → Int64) (zY : Nat → Nat → Int32) (zA : Nat → Nat → Nat → Int32) (zB : Nat → Int32) (zM : Nat → Nat × Nat) (zI : Nat → Nat → Int32) (zL : Nat → Nat → Int64) (zK : Int32) (zN : Nat) (zF : Int32) (zQ : Int64) (j : Nat) (b : Int64) (hj : j < 4) (hs : (zG j).1 ≤ 2 ∨ ((zG j).1 = 3 ∧ (zG j).2 ≠ 4)) : vx_Met l y_Ru_seek ws_Ru_seekXsV rm_Ru_seekXsV (va_Pc ([.ref (aw_r ad 0), .int (nI j), .long b] : List Value) (ag_B D g N0 (az_Sh g ad zG zO zX zY zA zB zM zI zL zK zN zF zQ))) (va_Qv (fun (_ : Unit) => False) (fun (_ : Unit) _ => True) (aw_Z N0)) (vx_X (fun (_ : Unit) => True) (fun E (_ : Unit) t => E = "java/lang/IllegalStateException" ∧ ag_H D N0 (az_Sh g ad zG zO zX zY zA zB zM zI zL zK zN zF zQ) t.heap) (aw_Z N0)) 1 6 (aw_Z N0) := by
  refine vx_ofW (cc := b_Ru_seek) (maxL := 5) (ret := none) (by decide) rfl ?_
  intro p e s m args below meth c s₁ B hml hex hv
  obtain ⟨rfl, ⟨L, hP, hD, hSh⟩, hU⟩ := hv
  have hx := B.exec
  have hb := B.bytes
  have hr := B.returns
  have hG : ∀ w ∈ aw_G, w.before _ s = true := fun w h => atoms_spec (ws := ws_Ru_seekXsV) B.pre w (List.mem_cons_of_mem _ h)
  have hown : s.vm.findClass "RuleCiphers" = some m.cls := findClass_of_methodNamed B.named
  have hlocks := B.notSynchronized
  have hE := hU.1
  have hK := hE.1
  have hN := hE.2.1
  have hS : va_S (aw_Z N0) s.heap s.heap [] := va_S.rf
  have hl := lv_entry ([.ref (aw_r ad 0), .int (nI j), .long b] : List Value) (n := 5) (Nat.le_of_ble_eq_true rfl)
  rw [lg_entry_eq]
  generalize (lg_sl ([.ref (aw_r ad 0), .int (nI j), .long b] : List Value) ++ List.replicate (5 - (lg_sl ([.ref (aw_r ad 0), .int (nI j), .long b] : List Value)).length) Slot.unset).toArray = ls at hl ⊢
  have hl : lv_has ls 5 [(0, .ref (aw_r ad 0)), (1, .int (nI j)), (2, .long b)] := hl
  refine lv_aload_n hx hb d_Ru_seek_0 rfl (lv_at hl 0 rfl) ?_
  refine lv_iload_n hx hb d_Ru_seek_1 rfl (lv_at hl 1 rfl) ?_
  have he1 := zr_R0 hSh
  refine va_callr (va_runV (As := [.int (nI j)]) (rest := []) ⟨hx, hb, hml, hown, hG⟩ (k_Ru_contextAt1V l D g ad N0 zG zO zX zY zA zB zM zI zL zK zN zF zQ j hj) (aw_wV 1 hG gw_2_47 gw_2_45 gw_0_1 gw_2_46 gw_p_0 rfl rfl hd_Ru_contextAt ⟨Nat.le_of_ble_eq_true rfl, Nat.le_of_ble_eq_true rfl⟩) (ag_qV (va_recv hK hP rfl he1) hP hD hSh hU hS) rfl rfl hl.1 rfl (lv_room (Nat.le_of_ble_eq_true rfl)) d_Ru_seek_2 ⟨Nat.le_of_ble_eq_true rfl, Nat.le_of_ble_eq_true rfl⟩) hS (fun _ _ h => h) (fun _ h => h) ?_
  clear hP hD hSh hS he1
  intro u8 q2 t8 H locs ht _ _ hB _ _ hS
  obtain ⟨eq2, hB⟩ := hB
  obtain ⟨L, hP, hD, hSh⟩ := hB
  rw [ht] at hP
  clear ht
  subst eq2
  refine lv_astore hx hb d_Ru_seek_5 hl (by decide) rfl (fun ls hl => ?_)
  have hl : lv_has ls 5 [(4, .ref (aw_c ad j 0)), (0, .ref (aw_r ad 0)), (1, .int (nI j)), (2, .long b)] := hl
  refine lv_aload hx hb d_Ru_seek_7 (lv_at hl 0 rfl) ?_
  refine lv_iconst (v := nI 4) hx hb d_Ru_seek_9 (by decide +kernel) ?_
  refine vx_callv (vx_runS (As := [.ref (aw_c ad j 0), .int (nI 4)]) (rest := []) ⟨hx, hb, hml, hown, hG⟩ (k_Ru_requireMode4XV l hst D g ad N0 zG zO zX zY zA zB zM zI zL zK zN zF zQ j hj hs) (aw_wS 2 hG gw_8_33 gw_8_31 gw_0_1 gw_8_32 rfl rfl hd_Ru_requireMode ⟨Nat.le_of_ble_eq_true rfl, Nat.le_of_ble_eq_true rfl⟩) (ag_qS hP hD hSh hU hS) rfl rfl hl.1 rfl (lv_room (Nat.le_of_ble_eq_true rfl)) d_Ru_seek_10 ⟨Nat.le_of_ble_eq_true rfl, Nat.le_of_ble_eq_true rfl⟩) hS (fun _ _ h => h) (fun _ h => h) (fun _ _ h => h) (fun E ce q9 u t H locs ht _ _ hBX _ _ hS hce hcv hcl => ?_) (fun u t H locs _ _ hF _ _ _ _ => hF.elim)
  obtain ⟨rfl, L, hP, hD, hSh⟩ := hBX
  rw [ht] at hP
  exact vx_out (fun x h => (hex x h).elim) hlocks hce hcv hcl (fun t9 ht9 _ => ⟨(), trivial, ⟨rfl, ag_Hr ht9 hP hD hSh⟩, hS.F ht9⟩) hS.2.2 (Nat.le_of_ble_eq_true rfl) (Nat.le_of_ble_eq_true rfl)
noncomputable def v_Ru_take10V (zY : Nat → Nat → Int32) (j : Nat) : Int32 := v_Cx_takeBytes0V zY j
noncomputable def v_Ru_take10V_zY (zY : Nat → Nat → Int32) (j : Nat) : Nat → Nat → Int32 := v_Cx_takeBytes0V_zY zY j
abbrev ws_Ru_take10V : List Cond := Cond.code y_Ru_take b_Ru_take 5 (some .int) :: aw_G
abbrev rm_Ru_take10V : Room := { frames := 2, cells := 0, slots := 0, locals := 48 }
set_option maxHeartbeats 4000000 in
set_option maxRecDepth 100000 in
theorem k_Ru_take10V (l : Launch) (D : va_G) (g : Nat → ClassId) (ad : Nat → Nat) (N0 : Nat) (zG : Nat → Nat × Nat) (zO : Nat → Nat) (zX : Nat → Nat → Int64) (zY : Nat → Nat → Int32) (zA : Nat → Nat → Nat → Int32) (zB : Nat → Int32) (zM : Nat → Nat × Nat) (zI : Nat → Nat → Int32) (zL : Nat → Nat → Int64) (zK : Int32) (zN : Nat) (zF : Int32) (zQ : Int64) (j : Nat) (fr : Int32) (hj : j < 4) (hs : (zG j).1 = 3 ∧ (zG j).2 = 5) : Met l y_Ru_take ws_Ru_take10V rm_Ru_take10V (va_Pc ([.ref (aw_r ad 0), .int (nI j), .int fr, .int (nI 0)] : List Value) (ag_B D g N0 (az_Sh g ad zG zO zX zY zA zB zM zI zL zK zN zF zQ))) (va_Qi (fun r (_ : Unit) => r = v_Ru_take10V zY j) (fun (_ : Unit) t => ag_H D N0 (az_Sh g ad zG zO zX (v_Ru_take10V_zY zY j) zA zB zM zI zL zK zN zF zQ) t.heap) (aw_Z N0)) 0 0 (aw_Z N0) := by
  refine Met.ofW (cc := b_Ru_take) (maxL := 5) (ret := (some .int)) (by decide) rfl ?_
  intro p e s m args below meth c s₁ B hml hv
  obtain ⟨rfl, ⟨L, hP, hD, hSh⟩, hU⟩ := hv
  have hx := B.exec
  have hb := B.bytes
  have hr := B.returns
  have hG : ∀ w ∈ aw_G, w.before _ s = true := fun w h => atoms_spec (ws := ws_Ru_take10V) B.pre w (List.mem_cons_of_mem _ h)
  have hown : s.vm.findClass "RuleCiphers" = some m.cls := findClass_of_methodNamed B.named
  have hlocks := B.notSynchronized
  have hE := hU.1
  have hK := hE.1
  have hN := hE.2.1
  have hS : va_S (aw_Z N0) s.heap s.heap [] := va_S.rf
  have hl := lv_entry ([.ref (aw_r ad 0), .int (nI j), .int fr, .int (nI 0)] : List Value) (n := 5) (Nat.le_of_ble_eq_true rfl)
  rw [lg_entry_eq]
  generalize (lg_sl ([.ref (aw_r ad 0), .int (nI j), .int fr, .int (nI 0)] : List Value) ++ List.replicate (5 - (lg_sl ([.ref (aw_r ad 0), .int (nI j), .int fr, .int (nI 0)] : List Value)).length) Slot.unset).toArray = ls at hl ⊢
  have hl : lv_has ls 5 [(0, .ref (aw_r ad 0)), (1, .int (nI j)), (2, .int fr), (3, .int (nI 0))] := hl
  refine lv_aload_n hx hb d_Ru_take_0 rfl (lv_at hl 0 rfl) ?_
  refine lv_iload_n hx hb d_Ru_take_1 rfl (lv_at hl 1 rfl) ?_
  have he1 := zr_R0 hSh
  refine va_callr (va_runV (As := [.int (nI j)]) (rest := []) ⟨hx, hb, hml, hown, hG⟩ (k_Ru_contextAt1V l D g ad N0 zG zO zX zY zA zB zM zI zL zK zN zF zQ j hj) (aw_wV 1 hG gw_2_47 gw_2_45 gw_0_1 gw_2_46 gw_p_0 rfl rfl hd_Ru_contextAt ⟨Nat.le_of_ble_eq_true rfl, Nat.le_of_ble_eq_true rfl⟩) (ag_qV (va_recv hK hP rfl he1) hP hD hSh hU hS) rfl rfl hl.1 rfl (lv_room (Nat.le_of_ble_eq_true rfl)) d_Ru_take_2 ⟨Nat.le_of_ble_eq_true rfl, Nat.le_of_ble_eq_true rfl⟩) hS (fun _ _ h => h) (fun _ h => h) ?_
  clear hP hD hSh hS he1
  intro u8 q2 t8 H locs ht _ _ hB _ _ hS
  obtain ⟨eq2, hB⟩ := hB
  obtain ⟨L, hP, hD, hSh⟩ := hB
  rw [ht] at hP
  clear ht
  subst eq2
  refine lv_astore hx hb d_Ru_take_5 hl (by decide) rfl (fun ls hl => ?_)
  have hl : lv_has ls 5 [(4, .ref (aw_c ad j 0)), (0, .ref (aw_r ad 0)), (1, .int (nI j)), (2, .int fr), (3, .int (nI 0))] := hl
  refine lv_iload_n hx hb d_Ru_take_7 rfl (lv_at hl 3 rfl) ?_
  refine lv_iload_n hx hb d_Ru_take_8 rfl (lv_at hl 4 rfl) ?_
  refine aw_cv ((va_runS (As := [.int fr, .int (nI 0)]) (rest := []) ⟨hx, hb, hml, hown, hG⟩ (k_Ru_requireInBuffer0 l fr) (aw_wS 2 hG gw_7_49 gw_7_47 gw_0_1 gw_7_48 rfl rfl hd_Ru_requireInBuffer ⟨Nat.le_of_ble_eq_true rfl, Nat.le_of_ble_eq_true rfl⟩) aw_p0 rfl rfl hl.1 rfl (lv_room (Nat.le_of_ble_eq_true rfl)) d_Ru_take_9 ⟨Nat.le_of_ble_eq_true rfl, Nat.le_of_ble_eq_true rfl⟩).run) ?_
  refine lv_aload hx hb d_Ru_take_12 (lv_at hl 0 rfl) ?_
  refine lv_iconst (v := nI 5) hx hb d_Ru_take_14 (by decide +kernel) ?_
  refine va_callv (va_runS (As := [.ref (aw_c ad j 0), .int (nI 5)]) (rest := []) ⟨hx, hb, hml, hown, hG⟩ (k_Ru_requireMode5V l D g ad N0 zG zO zX zY zA zB zM zI zL zK zN zF zQ j hj hs) (aw_wS 2 hG gw_8_33 gw_8_31 gw_0_1 gw_8_32 rfl rfl hd_Ru_requireMode ⟨Nat.le_of_ble_eq_true rfl, Nat.le_of_ble_eq_true rfl⟩) (ag_qS hP hD hSh hU hS) rfl rfl hl.1 rfl (lv_room (Nat.le_of_ble_eq_true rfl)) d_Ru_take_15 ⟨Nat.le_of_ble_eq_true rfl, Nat.le_of_ble_eq_true rfl⟩) hS (fun _ _ h => h) (fun _ h => h) ?_
  clear hP hD hSh hS
  intro u8 t8 H locs ht _ _ hB _ _ hS
  obtain ⟨L, hP, hD, hSh⟩ := hB
  rw [ht] at hP
  clear ht
  refine lv_aload hx hb d_Ru_take_18 (lv_at hl 0 rfl) ?_
  refine lv_aload_n hx hb d_Ru_take_20 rfl (lv_at hl 1 rfl) ?_
  have he3 := zr_R0 hSh
  refine va_get (C := R_Ru) (T := T_Ru) (N := 2) (v := .ref (aw_r ad 2)) hx hb hG in_Ru hown hK hP 0 he3 rfl 1 (by decide) (hG _ gw_2_29) (fun _ h => h) rfl d_Ru_take_21 ?_
  clear he3
  refine lv_iload_n hx hb d_Ru_take_24 rfl (lv_at hl 3 rfl) ?_
  refine lv_iload_n hx hb d_Ru_take_25 rfl (lv_at hl 4 rfl) ?_
  obtain ⟨_, he4⟩ := zr_C0 hSh hj
  refine va_calli (va_runV (As := [.ref (aw_r ad 2), .int fr, .int (nI 0)]) (rest := []) ⟨hx, hb, hml, hown, hG⟩ (k_Cx_takeBytes0V l D g ad N0 zG zO zX zY zA zB zM zI zL zK zN zF zQ j fr hj) (aw_wV 3 hG gw_8_48 gw_8_45 gw_0_2 gw_8_46 gw_8_47 rfl rfl hd_Cx_takeBytes ⟨Nat.le_of_ble_eq_true rfl, Nat.le_of_ble_eq_true rfl⟩) (ag_qV (va_recv hK hP rfl he4) hP hD hSh hU hS) rfl rfl hl.1 rfl (lv_room (Nat.le_of_ble_eq_true rfl)) d_Ru_take_26 ⟨Nat.le_of_ble_eq_true rfl, Nat.le_of_ble_eq_true rfl⟩) hS (fun _ _ h => h) (fun _ h => h) ?_
  clear hP hD hSh hS he4
  intro x5 u8 t8 H locs ht _ ex5 hB _ _ hS
  obtain ⟨L, hP, hD, hSh⟩ := hB
  rw [ht] at hP
  clear ht
  obtain ⟨zY6, ezY6⟩ : ∃ z : Nat → Nat → Int32, v_Cx_takeBytes0V_zY zY j = z := ⟨_, rfl⟩
  rw [ezY6] at hSh
  have ex5 := ex5.symm
  have gzY : zY6 = v_Ru_take10V_zY zY j := by subst ex5 ezY6; rfl
  have hSh : az_Sh g ad zG zO zX (v_Ru_take10V_zY zY j) zA zB zM zI zL zK zN zF zQ L := by rw [← gzY]; exact hSh
  exact W.iret hx hb hr (fun t ht hW => ⟨⟨_, (), rfl, (by subst ex5 ezY6; rfl), ag_Hr ht hP hD hSh⟩, hS.F ht⟩) hS.2.2 d_Ru_take_29
noncomputable def v_Ru_take11V (zO : Nat → Nat) (zX : Nat → Nat → Int64) (zY : Nat → Nat → Int32) (zA : Nat → Nat → Nat → Int32) (zB : Nat → Int32) (j : Nat) (k : Nat) (mm : Nat) : Int32 := v_Cx_takeBytes1V zO zX zY zA zB j k mm
noncomputable def v_Ru_take11V_zX (zO : Nat → Nat) (zX : Nat → Nat → Int64) (zY : Nat → Nat → Int32) (zA : Nat → Nat → Nat → Int32) (zB : Nat → Int32) (j : Nat) (k : Nat) (mm : Nat) : Nat → Nat → Int64 := v_Cx_takeBytes1V_zX zO zX zY zA zB j k mm
noncomputable def v_Ru_take11V_zY (zO : Nat → Nat) (zX : Nat → Nat → Int64) (zY : Nat → Nat → Int32) (zA : Nat → Nat → Nat → Int32) (zB : Nat → Int32) (j : Nat) (k : Nat) (mm : Nat) : Nat → Nat → Int32 := v_Cx_takeBytes1V_zY zO zX zY zA zB j k mm
abbrev ws_Ru_take11V : List Cond := Cond.code y_Ru_take b_Ru_take 5 (some .int) :: aw_G
abbrev rm_Ru_take11V : Room := { frames := 6, cells := 0, slots := 0, locals := 149 }
set_option maxHeartbeats 4000000 in
set_option maxRecDepth 100000 in
theorem k_Ru_take11V (l : Launch) (D : va_G) (g : Nat → ClassId) (ad : Nat → Nat) (N0 : Nat) (zG : Nat → Nat × Nat) (zO : Nat → Nat) (zX : Nat → Nat → Int64) (zY : Nat → Nat → Int32) (zA : Nat → Nat → Nat → Int32) (zB : Nat → Int32) (zM : Nat → Nat × Nat) (zI : Nat → Nat → Int32) (zL : Nat → Nat → Int64) (zK : Int32) (zN : Nat) (zF : Int32) (zQ : Int64) (j : Nat) (k : Nat) (mm : Nat) (hj : j < 4) (h0 : 0 < mm) (hk : k + mm ≤ 64) (hs : (zG j).1 = 3 ∧ (zG j).2 = 5) : Met l y_Ru_take ws_Ru_take11V rm_Ru_take11V (va_Pc ([.ref (aw_r ad 0), .int (nI j), .int (nI k), .int (nI mm)] : List Value) (ag_B D g N0 (az_Sh g ad zG zO zX zY zA zB zM zI zL zK zN zF zQ))) (va_Qi (fun r (_ : Unit) => r = v_Ru_take11V zO zX zY zA zB j k mm) (fun (_ : Unit) t => ag_H D N0 (az_Sh g ad zG zO (v_Ru_take11V_zX zO zX zY zA zB j k mm) (v_Ru_take11V_zY zO zX zY zA zB j k mm) zA zB zM zI zL zK zN zF zQ) t.heap) (aw_Z N0)) 0 0 (aw_Z N0) := by
  refine Met.ofW (cc := b_Ru_take) (maxL := 5) (ret := (some .int)) (by decide) rfl ?_
  intro p e s m args below meth c s₁ B hml hv
  obtain ⟨rfl, ⟨L, hP, hD, hSh⟩, hU⟩ := hv
  have hx := B.exec
  have hb := B.bytes
  have hr := B.returns
  have hG : ∀ w ∈ aw_G, w.before _ s = true := fun w h => atoms_spec (ws := ws_Ru_take11V) B.pre w (List.mem_cons_of_mem _ h)
  have hown : s.vm.findClass "RuleCiphers" = some m.cls := findClass_of_methodNamed B.named
  have hlocks := B.notSynchronized
  have hE := hU.1
  have hK := hE.1
  have hN := hE.2.1
  have hS : va_S (aw_Z N0) s.heap s.heap [] := va_S.rf
  have hl := lv_entry ([.ref (aw_r ad 0), .int (nI j), .int (nI k), .int (nI mm)] : List Value) (n := 5) (Nat.le_of_ble_eq_true rfl)
  rw [lg_entry_eq]
  generalize (lg_sl ([.ref (aw_r ad 0), .int (nI j), .int (nI k), .int (nI mm)] : List Value) ++ List.replicate (5 - (lg_sl ([.ref (aw_r ad 0), .int (nI j), .int (nI k), .int (nI mm)] : List Value)).length) Slot.unset).toArray = ls at hl ⊢
  have hl : lv_has ls 5 [(0, .ref (aw_r ad 0)), (1, .int (nI j)), (2, .int (nI k)), (3, .int (nI mm))] := hl
  refine lv_aload_n hx hb d_Ru_take_0 rfl (lv_at hl 0 rfl) ?_
  refine lv_iload_n hx hb d_Ru_take_1 rfl (lv_at hl 1 rfl) ?_
  have he1 := zr_R0 hSh
  refine va_callr (va_runV (As := [.int (nI j)]) (rest := []) ⟨hx, hb, hml, hown, hG⟩ (k_Ru_contextAt1V l D g ad N0 zG zO zX zY zA zB zM zI zL zK zN zF zQ j hj) (aw_wV 1 hG gw_2_47 gw_2_45 gw_0_1 gw_2_46 gw_p_0 rfl rfl hd_Ru_contextAt ⟨Nat.le_of_ble_eq_true rfl, Nat.le_of_ble_eq_true rfl⟩) (ag_qV (va_recv hK hP rfl he1) hP hD hSh hU hS) rfl rfl hl.1 rfl (lv_room (Nat.le_of_ble_eq_true rfl)) d_Ru_take_2 ⟨Nat.le_of_ble_eq_true rfl, Nat.le_of_ble_eq_true rfl⟩) hS (fun _ _ h => h) (fun _ h => h) ?_
  clear hP hD hSh hS he1
  intro u8 q2 t8 H locs ht _ _ hB _ _ hS
  obtain ⟨eq2, hB⟩ := hB
  obtain ⟨L, hP, hD, hSh⟩ := hB
  rw [ht] at hP
  clear ht
  subst eq2
  refine lv_astore hx hb d_Ru_take_5 hl (by decide) rfl (fun ls hl => ?_)
  have hl : lv_has ls 5 [(4, .ref (aw_c ad j 0)), (0, .ref (aw_r ad 0)), (1, .int (nI j)), (2, .int (nI k)), (3, .int (nI mm))] := hl
  refine lv_iload_n hx hb d_Ru_take_7 rfl (lv_at hl 3 rfl) ?_
  refine lv_iload_n hx hb d_Ru_take_8 rfl (lv_at hl 4 rfl) ?_
  refine aw_cv ((va_runS (As := [.int (nI k), .int (nI mm)]) (rest := []) ⟨hx, hb, hml, hown, hG⟩ (k_Ru_requireInBuffer1 l k mm h0 hk) (aw_wS 2 hG gw_7_49 gw_7_47 gw_0_1 gw_7_48 rfl rfl hd_Ru_requireInBuffer ⟨Nat.le_of_ble_eq_true rfl, Nat.le_of_ble_eq_true rfl⟩) aw_p0 rfl rfl hl.1 rfl (lv_room (Nat.le_of_ble_eq_true rfl)) d_Ru_take_9 ⟨Nat.le_of_ble_eq_true rfl, Nat.le_of_ble_eq_true rfl⟩).run) ?_
  refine lv_aload hx hb d_Ru_take_12 (lv_at hl 0 rfl) ?_
  refine lv_iconst (v := nI 5) hx hb d_Ru_take_14 (by decide +kernel) ?_
  refine va_callv (va_runS (As := [.ref (aw_c ad j 0), .int (nI 5)]) (rest := []) ⟨hx, hb, hml, hown, hG⟩ (k_Ru_requireMode5V l D g ad N0 zG zO zX zY zA zB zM zI zL zK zN zF zQ j hj hs) (aw_wS 2 hG gw_8_33 gw_8_31 gw_0_1 gw_8_32 rfl rfl hd_Ru_requireMode ⟨Nat.le_of_ble_eq_true rfl, Nat.le_of_ble_eq_true rfl⟩) (ag_qS hP hD hSh hU hS) rfl rfl hl.1 rfl (lv_room (Nat.le_of_ble_eq_true rfl)) d_Ru_take_15 ⟨Nat.le_of_ble_eq_true rfl, Nat.le_of_ble_eq_true rfl⟩) hS (fun _ _ h => h) (fun _ h => h) ?_
  clear hP hD hSh hS
  intro u8 t8 H locs ht _ _ hB _ _ hS
  obtain ⟨L, hP, hD, hSh⟩ := hB
  rw [ht] at hP
  clear ht
  refine lv_aload hx hb d_Ru_take_18 (lv_at hl 0 rfl) ?_
  refine lv_aload_n hx hb d_Ru_take_20 rfl (lv_at hl 1 rfl) ?_
  have he3 := zr_R0 hSh
  refine va_get (C := R_Ru) (T := T_Ru) (N := 2) (v := .ref (aw_r ad 2)) hx hb hG in_Ru hown hK hP 0 he3 rfl 1 (by decide) (hG _ gw_2_29) (fun _ h => h) rfl d_Ru_take_21 ?_
  clear he3
  refine lv_iload_n hx hb d_Ru_take_24 rfl (lv_at hl 3 rfl) ?_
  refine lv_iload_n hx hb d_Ru_take_25 rfl (lv_at hl 4 rfl) ?_
  obtain ⟨_, he4⟩ := zr_C0 hSh hj
  refine va_calli (va_runV (As := [.ref (aw_r ad 2), .int (nI k), .int (nI mm)]) (rest := []) ⟨hx, hb, hml, hown, hG⟩ (k_Cx_takeBytes1V l D g ad N0 zG zO zX zY zA zB zM zI zL zK zN zF zQ j k mm hj hk) (aw_wV 3 hG gw_8_48 gw_8_45 gw_0_2 gw_8_46 gw_8_47 rfl rfl hd_Cx_takeBytes ⟨Nat.le_of_ble_eq_true rfl, Nat.le_of_ble_eq_true rfl⟩) (ag_qV (va_recv hK hP rfl he4) hP hD hSh hU hS) rfl rfl hl.1 rfl (lv_room (Nat.le_of_ble_eq_true rfl)) d_Ru_take_26 ⟨Nat.le_of_ble_eq_true rfl, Nat.le_of_ble_eq_true rfl⟩) hS (fun _ _ h => h) (fun _ h => h) ?_
  clear hP hD hSh hS he4
  intro x5 u8 t8 H locs ht _ ex5 hB _ _ hS
  obtain ⟨L, hP, hD, hSh⟩ := hB
  rw [ht] at hP
  clear ht
  obtain ⟨zX6, ezX6⟩ : ∃ z : Nat → Nat → Int64, v_Cx_takeBytes1V_zX zO zX zY zA zB j k mm = z := ⟨_, rfl⟩
  rw [ezX6] at hSh
  obtain ⟨zY7, ezY7⟩ : ∃ z : Nat → Nat → Int32, v_Cx_takeBytes1V_zY zO zX zY zA zB j k mm = z := ⟨_, rfl⟩
  rw [ezY7] at hSh
  have ex5 := ex5.symm
  have gzX : zX6 = v_Ru_take11V_zX zO zX zY zA zB j k mm := by subst ex5 ezY7 ezX6; rfl
  have gzY : zY7 = v_Ru_take11V_zY zO zX zY zA zB j k mm := by subst ex5 ezY7 ezX6; rfl
  have hSh : az_Sh g ad zG zO (v_Ru_take11V_zX zO zX zY zA zB j k mm) (v_Ru_take11V_zY zO zX zY zA zB j k mm) zA zB zM zI zL zK zN zF zQ L := by rw [← gzX, ← gzY]; exact hSh
  exact W.iret hx hb hr (fun t ht hW => ⟨⟨_, (), rfl, (by subst ex5 ezY7 ezX6; rfl), ag_Hr ht hP hD hSh⟩, hS.F ht⟩) hS.2.2 d_Ru_take_29
abbrev ws_Ru_takeXcV : List Cond := Cond.code y_Ru_take b_Ru_take 5 (some .int) :: aw_G
abbrev rm_Ru_takeXcV : Room := { frames := 7, cells := 1, slots := 6, locals := 111 }
set_option maxHeartbeats 4000000 in
set_option maxRecDepth 100000 in
theorem k_Ru_takeXcV (l : Launch) (hst : l.stackTraces = false) (D : va_G) (g : Nat → ClassId) (ad : Nat → Nat) (N0 : Nat) (zG : Nat → Nat × Nat) (zO : Nat → Nat) (zX : Nat → Nat → Int64) (zY : Nat → Nat → Int32) (zA : Nat → Nat → Nat → Int32) (zB : Nat → Int32) (zM : Nat → Nat × Nat) (zI : Nat → Nat → Int32) (zL : Nat → Nat → Int64) (zK : Int32) (zN : Nat) (zF : Int32) (zQ : Int64) (c0 : Int32) (fr : Int32) (m0 : Int32) (hc : c0 < 0 ∨ (¬ c0 < 0 ∧ ¬ c0 < nI 4)) : vx_Met l y_Ru_take ws_Ru_takeXcV rm_Ru_takeXcV (va_Pc ([.ref (aw_r ad 0), .int c0, .int fr, .int m0] : List Value) (ag_B D g N0 (az_Sh g ad zG zO zX zY zA zB zM zI zL zK zN zF zQ))) (va_Qv (fun (_ : Unit) => False) (fun (_ : Unit) _ => True) (aw_Z N0)) (vx_X (fun (_ : Unit) => True) (fun E (_ : Unit) t => E = "java/lang/IndexOutOfBoundsException" ∧ ag_H D N0 (az_Sh g ad zG zO zX zY zA zB zM zI zL zK zN zF zQ) t.heap) (aw_Z N0)) 1 6 (aw_Z N0) := by
  refine vx_ofW (cc := b_Ru_take) (maxL := 5) (ret := (some .int)) (by decide) rfl ?_
  intro p e s m args below meth c s₁ B hml hex hv
  obtain ⟨rfl, ⟨L, hP, hD, hSh⟩, hU⟩ := hv
  have hx := B.exec
  have hb := B.bytes
  have hr := B.returns
  have hG : ∀ w ∈ aw_G, w.before _ s = true := fun w h => atoms_spec (ws := ws_Ru_takeXcV) B.pre w (List.mem_cons_of_mem _ h)
  have hown : s.vm.findClass "RuleCiphers" = some m.cls := findClass_of_methodNamed B.named
  have hlocks := B.notSynchronized
  have hE := hU.1
  have hK := hE.1
  have hN := hE.2.1
  have hS : va_S (aw_Z N0) s.heap s.heap [] := va_S.rf
  have hl := lv_entry ([.ref (aw_r ad 0), .int c0, .int fr, .int m0] : List Value) (n := 5) (Nat.le_of_ble_eq_true rfl)
  rw [lg_entry_eq]
  generalize (lg_sl ([.ref (aw_r ad 0), .int c0, .int fr, .int m0] : List Value) ++ List.replicate (5 - (lg_sl ([.ref (aw_r ad 0), .int c0, .int fr, .int m0] : List Value)).length) Slot.unset).toArray = ls at hl ⊢
  have hl : lv_has ls 5 [(0, .ref (aw_r ad 0)), (1, .int c0), (2, .int fr), (3, .int m0)] := hl
  refine lv_aload_n hx hb d_Ru_take_0 rfl (lv_at hl 0 rfl) ?_
  refine lv_iload_n hx hb d_Ru_take_1 rfl (lv_at hl 1 rfl) ?_
  have he1 := zr_R0 hSh
  refine vx_callv (vx_runV (As := [.int c0]) (rest := []) ⟨hx, hb, hml, hown, hG⟩ (k_Ru_contextAtXV l hst D g ad N0 zG zO zX zY zA zB zM zI zL zK zN zF zQ c0 hc) (aw_wV 1 hG gw_2_47 gw_2_45 gw_0_1 gw_2_46 gw_p_0 rfl rfl hd_Ru_contextAt ⟨Nat.le_of_ble_eq_true rfl, Nat.le_of_ble_eq_true rfl⟩) (ag_qV (va_recv hK hP rfl he1) hP hD hSh hU hS) rfl rfl hl.1 rfl (lv_room (Nat.le_of_ble_eq_true rfl)) d_Ru_take_2 ⟨Nat.le_of_ble_eq_true rfl, Nat.le_of_ble_eq_true rfl⟩) hS (fun _ _ h => h) (fun _ h => h) (fun _ _ h => h) (fun E ce q9 u t H locs ht _ _ hBX _ _ hS hce hcv hcl => ?_) (fun u t H locs _ _ hF _ _ _ _ => hF.elim)
  obtain ⟨rfl, L, hP, hD, hSh⟩ := hBX
  rw [ht] at hP
  exact vx_out (fun x h => (hex x h).elim) hlocks hce hcv hcl (fun t9 ht9 _ => ⟨(), trivial, ⟨rfl, ag_Hr ht9 hP hD hSh⟩, hS.F ht9⟩) hS.2.2 (Nat.le_of_ble_eq_true rfl) (Nat.le_of_ble_eq_true rfl)
abbrev ws_Ru_takeXbV : List Cond := Cond.code y_Ru_take b_Ru_take 5 (some .int) :: aw_G
abbrev rm_Ru_takeXbV : Room := { frames := 7, cells := 1, slots := 6, locals := 112 }
set_option maxHeartbeats 4000000 in
set_option maxRecDepth 100000 in
theorem k_Ru_takeXbV (l : Launch) (hst : l.stackTraces = false) (D : va_G) (g : Nat → ClassId) (ad : Nat → Nat) (N0 : Nat) (zG : Nat → Nat × Nat) (zO : Nat → Nat) (zX : Nat → Nat → Int64) (zY : Nat → Nat → Int32) (zA : Nat → Nat → Nat → Int32) (zB : Nat → Int32) (zM : Nat → Nat × Nat) (zI : Nat → Nat → Int32) (zL : Nat → Nat → Int64) (zK : Int32) (zN : Nat) (zF : Int32) (zQ : Int64) (j : Nat) (fr : Int32) (m0 : Int32) (hj : j < 4) (hi : m0 < 0 ∨ (0 < m0 ∧ fr < 0) ∨ (0 < m0 ∧ ¬ fr < 0 ∧ nI 64 - fr < m0)) : vx_Met l y_Ru_take ws_Ru_takeXbV rm_Ru_takeXbV (va_Pc ([.ref (aw_r ad 0), .int (nI j), .int fr, .int m0] : List Value) (ag_B D g N0 (az_Sh g ad zG zO zX zY zA zB zM zI zL zK zN zF zQ))) (va_Qv (fun (_ : Unit) => False) (fun (_ : Unit) _ => True) (aw_Z N0)) (vx_X (fun (_ : Unit) => True) (fun E (_ : Unit) t => E = "java/lang/IndexOutOfBoundsException" ∧ ag_H D N0 (az_Sh g ad zG zO zX zY zA zB zM zI zL zK zN zF zQ) t.heap) (aw_Z N0)) 1 6 (aw_Z N0) := by
  refine vx_ofW (cc := b_Ru_take) (maxL := 5) (ret := (some .int)) (by decide) rfl ?_
  intro p e s m args below meth c s₁ B hml hex hv
  obtain ⟨rfl, ⟨L, hP, hD, hSh⟩, hU⟩ := hv
  have hx := B.exec
  have hb := B.bytes
  have hr := B.returns
  have hG : ∀ w ∈ aw_G, w.before _ s = true := fun w h => atoms_spec (ws := ws_Ru_takeXbV) B.pre w (List.mem_cons_of_mem _ h)
  have hown : s.vm.findClass "RuleCiphers" = some m.cls := findClass_of_methodNamed B.named
  have hlocks := B.notSynchronized
  have hE := hU.1
  have hK := hE.1
  have hN := hE.2.1
  have hS : va_S (aw_Z N0) s.heap s.heap [] := va_S.rf
  have hl := lv_entry ([.ref (aw_r ad 0), .int (nI j), .int fr, .int m0] : List Value) (n := 5) (Nat.le_of_ble_eq_true rfl)
  rw [lg_entry_eq]
  generalize (lg_sl ([.ref (aw_r ad 0), .int (nI j), .int fr, .int m0] : List Value) ++ List.replicate (5 - (lg_sl ([.ref (aw_r ad 0), .int (nI j), .int fr, .int m0] : List Value)).length) Slot.unset).toArray = ls at hl ⊢
  have hl : lv_has ls 5 [(0, .ref (aw_r ad 0)), (1, .int (nI j)), (2, .int fr), (3, .int m0)] := hl
  refine lv_aload_n hx hb d_Ru_take_0 rfl (lv_at hl 0 rfl) ?_
  refine lv_iload_n hx hb d_Ru_take_1 rfl (lv_at hl 1 rfl) ?_
  have he1 := zr_R0 hSh
  refine va_callr (va_runV (As := [.int (nI j)]) (rest := []) ⟨hx, hb, hml, hown, hG⟩ (k_Ru_contextAt1V l D g ad N0 zG zO zX zY zA zB zM zI zL zK zN zF zQ j hj) (aw_wV 1 hG gw_2_47 gw_2_45 gw_0_1 gw_2_46 gw_p_0 rfl rfl hd_Ru_contextAt ⟨Nat.le_of_ble_eq_true rfl, Nat.le_of_ble_eq_true rfl⟩) (ag_qV (va_recv hK hP rfl he1) hP hD hSh hU hS) rfl rfl hl.1 rfl (lv_room (Nat.le_of_ble_eq_true rfl)) d_Ru_take_2 ⟨Nat.le_of_ble_eq_true rfl, Nat.le_of_ble_eq_true rfl⟩) hS (fun _ _ h => h) (fun _ h => h) ?_
  clear hP hD hSh hS he1
  intro u8 q2 t8 H locs ht _ _ hB _ _ hS
  obtain ⟨eq2, hB⟩ := hB
  obtain ⟨L, hP, hD, hSh⟩ := hB
  rw [ht] at hP
  clear ht
  subst eq2
  refine lv_astore hx hb d_Ru_take_5 hl (by decide) rfl (fun ls hl => ?_)
  have hl : lv_has ls 5 [(4, .ref (aw_c ad j 0)), (0, .ref (aw_r ad 0)), (1, .int (nI j)), (2, .int fr), (3, .int m0)] := hl
  refine lv_iload_n hx hb d_Ru_take_7 rfl (lv_at hl 3 rfl) ?_
  refine lv_iload_n hx hb d_Ru_take_8 rfl (lv_at hl 4 rfl) ?_
  refine vx_callv (vx_runS (As := [.int fr, .int m0]) (rest := []) ⟨hx, hb, hml, hown, hG⟩ (k_Ru_requireInBufferXV l hst D g ad N0 zG zO zX zY zA zB zM zI zL zK zN zF zQ fr m0 hi) (aw_wS 2 hG gw_7_49 gw_7_47 gw_0_1 gw_7_48 rfl rfl hd_Ru_requireInBuffer ⟨Nat.le_of_ble_eq_true rfl, Nat.le_of_ble_eq_true rfl⟩) (ag_qS hP hD hSh hU hS) rfl rfl hl.1 rfl (lv_room (Nat.le_of_ble_eq_true rfl)) d_Ru_take_9 ⟨Nat.le_of_ble_eq_true rfl, Nat.le_of_ble_eq_true rfl⟩) hS (fun _ _ h => h) (fun _ h => h) (fun _ _ h => h) (fun E ce q9 u t H locs ht _ _ hBX _ _ hS hce hcv hcl => ?_) (fun u t H locs _ _ hF _ _ _ _ => hF.elim)
  obtain ⟨rfl, L, hP, hD, hSh⟩ := hBX
  rw [ht] at hP
  exact vx_out (fun x h => (hex x h).elim) hlocks hce hcv hcl (fun t9 ht9 _ => ⟨(), trivial, ⟨rfl, ag_Hr ht9 hP hD hSh⟩, hS.F ht9⟩) hS.2.2 (Nat.le_of_ble_eq_true rfl) (Nat.le_of_ble_eq_true rfl)
abbrev ws_Ru_takeXs0V : List Cond := Cond.code y_Ru_take b_Ru_take 5 (some .int) :: aw_G
abbrev rm_Ru_takeXs0V : Room := { frames := 7, cells := 1, slots := 6, locals := 111 }
set_option maxHeartbeats 4000000 in
set_option maxRecDepth 100000 in
theorem k_Ru_takeXs0V (l : Launch) (hst : l.stackTraces = false) (D : va_G) (g : Nat → ClassId) (ad : Nat → Nat) (N0 : Nat) (zG : Nat → Nat × Nat) (zO : Nat → Nat) (zX : Nat → Nat → Int64) (zY : Nat → Nat → Int32) (zA : Nat → Nat → Nat → Int32) (zB : Nat → Int32) (zM : Nat → Nat × Nat) (zI : Nat → Nat → Int32) (zL : Nat → Nat → Int64) (zK : Int32) (zN : Nat) (zF : Int32) (zQ : Int64) (j : Nat) (fr : Int32) (hj : j < 4) (hs : (zG j).1 ≤ 2 ∨ ((zG j).1 = 3 ∧ (zG j).2 ≠ 5)) : vx_Met l y_Ru_take ws_Ru_takeXs0V rm_Ru_takeXs0V (va_Pc ([.ref (aw_r ad 0), .int (nI j), .int fr, .int (nI 0)] : List Value) (ag_B D g N0 (az_Sh g ad zG zO zX zY zA zB zM zI zL zK zN zF zQ))) (va_Qv (fun (_ : Unit) => False) (fun (_ : Unit) _ => True) (aw_Z N0)) (vx_X (fun (_ : Unit) => True) (fun E (_ : Unit) t => E = "java/lang/IllegalStateException" ∧ ag_H D N0 (az_Sh g ad zG zO zX zY zA zB zM zI zL zK zN zF zQ) t.heap) (aw_Z N0)) 1 6 (aw_Z N0) := by
  refine vx_ofW (cc := b_Ru_take) (maxL := 5) (ret := (some .int)) (by decide) rfl ?_
  intro p e s m args below meth c s₁ B hml hex hv
  obtain ⟨rfl, ⟨L, hP, hD, hSh⟩, hU⟩ := hv
  have hx := B.exec
  have hb := B.bytes
  have hr := B.returns
  have hG : ∀ w ∈ aw_G, w.before _ s = true := fun w h => atoms_spec (ws := ws_Ru_takeXs0V) B.pre w (List.mem_cons_of_mem _ h)
  have hown : s.vm.findClass "RuleCiphers" = some m.cls := findClass_of_methodNamed B.named
  have hlocks := B.notSynchronized
  have hE := hU.1
  have hK := hE.1
  have hN := hE.2.1
  have hS : va_S (aw_Z N0) s.heap s.heap [] := va_S.rf
  have hl := lv_entry ([.ref (aw_r ad 0), .int (nI j), .int fr, .int (nI 0)] : List Value) (n := 5) (Nat.le_of_ble_eq_true rfl)
  rw [lg_entry_eq]
  generalize (lg_sl ([.ref (aw_r ad 0), .int (nI j), .int fr, .int (nI 0)] : List Value) ++ List.replicate (5 - (lg_sl ([.ref (aw_r ad 0), .int (nI j), .int fr, .int (nI 0)] : List Value)).length) Slot.unset).toArray = ls at hl ⊢
  have hl : lv_has ls 5 [(0, .ref (aw_r ad 0)), (1, .int (nI j)), (2, .int fr), (3, .int (nI 0))] := hl
  refine lv_aload_n hx hb d_Ru_take_0 rfl (lv_at hl 0 rfl) ?_
  refine lv_iload_n hx hb d_Ru_take_1 rfl (lv_at hl 1 rfl) ?_
  have he1 := zr_R0 hSh
  refine va_callr (va_runV (As := [.int (nI j)]) (rest := []) ⟨hx, hb, hml, hown, hG⟩ (k_Ru_contextAt1V l D g ad N0 zG zO zX zY zA zB zM zI zL zK zN zF zQ j hj) (aw_wV 1 hG gw_2_47 gw_2_45 gw_0_1 gw_2_46 gw_p_0 rfl rfl hd_Ru_contextAt ⟨Nat.le_of_ble_eq_true rfl, Nat.le_of_ble_eq_true rfl⟩) (ag_qV (va_recv hK hP rfl he1) hP hD hSh hU hS) rfl rfl hl.1 rfl (lv_room (Nat.le_of_ble_eq_true rfl)) d_Ru_take_2 ⟨Nat.le_of_ble_eq_true rfl, Nat.le_of_ble_eq_true rfl⟩) hS (fun _ _ h => h) (fun _ h => h) ?_
  clear hP hD hSh hS he1
  intro u8 q2 t8 H locs ht _ _ hB _ _ hS
  obtain ⟨eq2, hB⟩ := hB
  obtain ⟨L, hP, hD, hSh⟩ := hB
  rw [ht] at hP
  clear ht
  subst eq2
  refine lv_astore hx hb d_Ru_take_5 hl (by decide) rfl (fun ls hl => ?_)
  have hl : lv_has ls 5 [(4, .ref (aw_c ad j 0)), (0, .ref (aw_r ad 0)), (1, .int (nI j)), (2, .int fr), (3, .int (nI 0))] := hl
  refine lv_iload_n hx hb d_Ru_take_7 rfl (lv_at hl 3 rfl) ?_
  refine lv_iload_n hx hb d_Ru_take_8 rfl (lv_at hl 4 rfl) ?_
  refine aw_cv ((va_runS (As := [.int fr, .int (nI 0)]) (rest := []) ⟨hx, hb, hml, hown, hG⟩ (k_Ru_requireInBuffer0 l fr) (aw_wS 2 hG gw_7_49 gw_7_47 gw_0_1 gw_7_48 rfl rfl hd_Ru_requireInBuffer ⟨Nat.le_of_ble_eq_true rfl, Nat.le_of_ble_eq_true rfl⟩) aw_p0 rfl rfl hl.1 rfl (lv_room (Nat.le_of_ble_eq_true rfl)) d_Ru_take_9 ⟨Nat.le_of_ble_eq_true rfl, Nat.le_of_ble_eq_true rfl⟩).run) ?_
  refine lv_aload hx hb d_Ru_take_12 (lv_at hl 0 rfl) ?_
  refine lv_iconst (v := nI 5) hx hb d_Ru_take_14 (by decide +kernel) ?_
  refine vx_callv (vx_runS (As := [.ref (aw_c ad j 0), .int (nI 5)]) (rest := []) ⟨hx, hb, hml, hown, hG⟩ (k_Ru_requireMode5XV l hst D g ad N0 zG zO zX zY zA zB zM zI zL zK zN zF zQ j hj hs) (aw_wS 2 hG gw_8_33 gw_8_31 gw_0_1 gw_8_32 rfl rfl hd_Ru_requireMode ⟨Nat.le_of_ble_eq_true rfl, Nat.le_of_ble_eq_true rfl⟩) (ag_qS hP hD hSh hU hS) rfl rfl hl.1 rfl (lv_room (Nat.le_of_ble_eq_true rfl)) d_Ru_take_15 ⟨Nat.le_of_ble_eq_true rfl, Nat.le_of_ble_eq_true rfl⟩) hS (fun _ _ h => h) (fun _ h => h) (fun _ _ h => h) (fun E ce q9 u t H locs ht _ _ hBX _ _ hS hce hcv hcl => ?_) (fun u t H locs _ _ hF _ _ _ _ => hF.elim)
  obtain ⟨rfl, L, hP, hD, hSh⟩ := hBX
  rw [ht] at hP
  exact vx_out (fun x h => (hex x h).elim) hlocks hce hcv hcl (fun t9 ht9 _ => ⟨(), trivial, ⟨rfl, ag_Hr ht9 hP hD hSh⟩, hS.F ht9⟩) hS.2.2 (Nat.le_of_ble_eq_true rfl) (Nat.le_of_ble_eq_true rfl)
abbrev ws_Ru_takeXs1V : List Cond := Cond.code y_Ru_take b_Ru_take 5 (some .int) :: aw_G
abbrev rm_Ru_takeXs1V : Room := { frames := 7, cells := 1, slots := 6, locals := 111 }
set_option maxHeartbeats 4000000 in
set_option maxRecDepth 100000 in
theorem k_Ru_takeXs1V (l : Launch) (hst : l.stackTraces = false) (D : va_G) (g : Nat → ClassId) (ad : Nat → Nat) (N0 : Nat) (zG : Nat → Nat × Nat) (zO : Nat → Nat) (zX : Nat → Nat → Int64) (zY : Nat → Nat → Int32) (zA : Nat → Nat → Nat → Int32) (zB : Nat → Int32) (zM : Nat → Nat × Nat) (zI : Nat → Nat → Int32) (zL : Nat → Nat → Int64) (zK : Int32) (zN : Nat) (zF : Int32) (zQ : Int64) (j : Nat) (k : Nat) (mm : Nat) (hj : j < 4) (h0 : 0 < mm) (hk : k + mm ≤ 64) (hs : (zG j).1 ≤ 2 ∨ ((zG j).1 = 3 ∧ (zG j).2 ≠ 5)) : vx_Met l y_Ru_take ws_Ru_takeXs1V rm_Ru_takeXs1V (va_Pc ([.ref (aw_r ad 0), .int (nI j), .int (nI k), .int (nI mm)] : List Value) (ag_B D g N0 (az_Sh g ad zG zO zX zY zA zB zM zI zL zK zN zF zQ))) (va_Qv (fun (_ : Unit) => False) (fun (_ : Unit) _ => True) (aw_Z N0)) (vx_X (fun (_ : Unit) => True) (fun E (_ : Unit) t => E = "java/lang/IllegalStateException" ∧ ag_H D N0 (az_Sh g ad zG zO zX zY zA zB zM zI zL zK zN zF zQ) t.heap) (aw_Z N0)) 1 6 (aw_Z N0) := by
  refine vx_ofW (cc := b_Ru_take) (maxL := 5) (ret := (some .int)) (by decide) rfl ?_
  intro p e s m args below meth c s₁ B hml hex hv
  obtain ⟨rfl, ⟨L, hP, hD, hSh⟩, hU⟩ := hv
  have hx := B.exec
  have hb := B.bytes
  have hr := B.returns
  have hG : ∀ w ∈ aw_G, w.before _ s = true := fun w h => atoms_spec (ws := ws_Ru_takeXs1V) B.pre w (List.mem_cons_of_mem _ h)
  have hown : s.vm.findClass "RuleCiphers" = some m.cls := findClass_of_methodNamed B.named
  have hlocks := B.notSynchronized
  have hE := hU.1
  have hK := hE.1
  have hN := hE.2.1
  have hS : va_S (aw_Z N0) s.heap s.heap [] := va_S.rf
  have hl := lv_entry ([.ref (aw_r ad 0), .int (nI j), .int (nI k), .int (nI mm)] : List Value) (n := 5) (Nat.le_of_ble_eq_true rfl)
  rw [lg_entry_eq]
  generalize (lg_sl ([.ref (aw_r ad 0), .int (nI j), .int (nI k), .int (nI mm)] : List Value) ++ List.replicate (5 - (lg_sl ([.ref (aw_r ad 0), .int (nI j), .int (nI k), .int (nI mm)] : List Value)).length) Slot.unset).toArray = ls at hl ⊢
  have hl : lv_has ls 5 [(0, .ref (aw_r ad 0)), (1, .int (nI j)), (2, .int (nI k)), (3, .int (nI mm))] := hl
  refine lv_aload_n hx hb d_Ru_take_0 rfl (lv_at hl 0 rfl) ?_
  refine lv_iload_n hx hb d_Ru_take_1 rfl (lv_at hl 1 rfl) ?_
  have he1 := zr_R0 hSh
  refine va_callr (va_runV (As := [.int (nI j)]) (rest := []) ⟨hx, hb, hml, hown, hG⟩ (k_Ru_contextAt1V l D g ad N0 zG zO zX zY zA zB zM zI zL zK zN zF zQ j hj) (aw_wV 1 hG gw_2_47 gw_2_45 gw_0_1 gw_2_46 gw_p_0 rfl rfl hd_Ru_contextAt ⟨Nat.le_of_ble_eq_true rfl, Nat.le_of_ble_eq_true rfl⟩) (ag_qV (va_recv hK hP rfl he1) hP hD hSh hU hS) rfl rfl hl.1 rfl (lv_room (Nat.le_of_ble_eq_true rfl)) d_Ru_take_2 ⟨Nat.le_of_ble_eq_true rfl, Nat.le_of_ble_eq_true rfl⟩) hS (fun _ _ h => h) (fun _ h => h) ?_
  clear hP hD hSh hS he1
  intro u8 q2 t8 H locs ht _ _ hB _ _ hS
  obtain ⟨eq2, hB⟩ := hB
  obtain ⟨L, hP, hD, hSh⟩ := hB
  rw [ht] at hP
  clear ht
  subst eq2
  refine lv_astore hx hb d_Ru_take_5 hl (by decide) rfl (fun ls hl => ?_)
  have hl : lv_has ls 5 [(4, .ref (aw_c ad j 0)), (0, .ref (aw_r ad 0)), (1, .int (nI j)), (2, .int (nI k)), (3, .int (nI mm))] := hl
  refine lv_iload_n hx hb d_Ru_take_7 rfl (lv_at hl 3 rfl) ?_
  refine lv_iload_n hx hb d_Ru_take_8 rfl (lv_at hl 4 rfl) ?_
  refine aw_cv ((va_runS (As := [.int (nI k), .int (nI mm)]) (rest := []) ⟨hx, hb, hml, hown, hG⟩ (k_Ru_requireInBuffer1 l k mm h0 hk) (aw_wS 2 hG gw_7_49 gw_7_47 gw_0_1 gw_7_48 rfl rfl hd_Ru_requireInBuffer ⟨Nat.le_of_ble_eq_true rfl, Nat.le_of_ble_eq_true rfl⟩) aw_p0 rfl rfl hl.1 rfl (lv_room (Nat.le_of_ble_eq_true rfl)) d_Ru_take_9 ⟨Nat.le_of_ble_eq_true rfl, Nat.le_of_ble_eq_true rfl⟩).run) ?_
  refine lv_aload hx hb d_Ru_take_12 (lv_at hl 0 rfl) ?_
  refine lv_iconst (v := nI 5) hx hb d_Ru_take_14 (by decide +kernel) ?_
  refine vx_callv (vx_runS (As := [.ref (aw_c ad j 0), .int (nI 5)]) (rest := []) ⟨hx, hb, hml, hown, hG⟩ (k_Ru_requireMode5XV l hst D g ad N0 zG zO zX zY zA zB zM zI zL zK zN zF zQ j hj hs) (aw_wS 2 hG gw_8_33 gw_8_31 gw_0_1 gw_8_32 rfl rfl hd_Ru_requireMode ⟨Nat.le_of_ble_eq_true rfl, Nat.le_of_ble_eq_true rfl⟩) (ag_qS hP hD hSh hU hS) rfl rfl hl.1 rfl (lv_room (Nat.le_of_ble_eq_true rfl)) d_Ru_take_15 ⟨Nat.le_of_ble_eq_true rfl, Nat.le_of_ble_eq_true rfl⟩) hS (fun _ _ h => h) (fun _ h => h) (fun _ _ h => h) (fun E ce q9 u t H locs ht _ _ hBX _ _ hS hce hcv hcl => ?_) (fun u t H locs _ _ hF _ _ _ _ => hF.elim)
  obtain ⟨rfl, L, hP, hD, hSh⟩ := hBX
  rw [ht] at hP
  exact vx_out (fun x h => (hex x h).elim) hlocks hce hcv hcl (fun t9 ht9 _ => ⟨(), trivial, ⟨rfl, ag_Hr ht9 hP hD hSh⟩, hS.F ht9⟩) hS.2.2 (Nat.le_of_ble_eq_true rfl) (Nat.le_of_ble_eq_true rfl)
noncomputable def v_Ru_tag1V (zO : Nat → Nat) (zX : Nat → Nat → Int64) (zY : Nat → Nat → Int32) (zA : Nat → Nat → Nat → Int32) (j : Nat) : Int64 := v_Cx_tellTagV zO zX zY zA j
noncomputable def v_Ru_tag1V_zX (zO : Nat → Nat) (zX : Nat → Nat → Int64) (zY : Nat → Nat → Int32) (zA : Nat → Nat → Nat → Int32) (j : Nat) : Nat → Nat → Int64 := v_Cx_tellTagV_zX zO zX zY zA j
noncomputable def v_Ru_tag1V_zY (zO : Nat → Nat) (zX : Nat → Nat → Int64) (zY : Nat → Nat → Int32) (zA : Nat → Nat → Nat → Int32) (j : Nat) : Nat → Nat → Int32 := v_Cx_tellTagV_zY zO zX zY zA j
abbrev ws_Ru_tag1V : List Cond := Cond.code y_Ru_tag b_Ru_tag 3 (some .long) :: aw_G
abbrev rm_Ru_tag1V : Room := { frames := 5, cells := 0, slots := 0, locals := 126 }
set_option maxHeartbeats 4000000 in
set_option maxRecDepth 100000 in
theorem k_Ru_tag1V (l : Launch) (D : va_G) (g : Nat → ClassId) (ad : Nat → Nat) (N0 : Nat) (zG : Nat → Nat × Nat) (zO : Nat → Nat) (zX : Nat → Nat → Int64) (zY : Nat → Nat → Int32) (zA : Nat → Nat → Nat → Int32) (zB : Nat → Int32) (zM : Nat → Nat × Nat) (zI : Nat → Nat → Int32) (zL : Nat → Nat → Int64) (zK : Int32) (zN : Nat) (zF : Int32) (zQ : Int64) (j : Nat) (hj : j < 4) (hs : (zG j).1 = 3 ∧ (zG j).2 = 5) : Met l y_Ru_tag ws_Ru_tag1V rm_Ru_tag1V (va_Pc ([.ref (aw_r ad 0), .int (nI j)] : List Value) (ag_B D g N0 (az_Sh g ad zG zO zX zY zA zB zM zI zL zK zN zF zQ))) (va_Ql (fun r (_ : Unit) => r = v_Ru_tag1V zO zX zY zA j) (fun (_ : Unit) t => ag_H D N0 (az_Sh g ad zG zO (v_Ru_tag1V_zX zO zX zY zA j) (v_Ru_tag1V_zY zO zX zY zA j) zA zB zM zI zL zK zN zF zQ) t.heap) (aw_Z N0)) 0 0 (aw_Z N0) := by
  refine Met.ofW (cc := b_Ru_tag) (maxL := 3) (ret := (some .long)) (by decide) rfl ?_
  intro p e s m args below meth c s₁ B hml hv
  obtain ⟨rfl, ⟨L, hP, hD, hSh⟩, hU⟩ := hv
  have hx := B.exec
  have hb := B.bytes
  have hr := B.returns
  have hG : ∀ w ∈ aw_G, w.before _ s = true := fun w h => atoms_spec (ws := ws_Ru_tag1V) B.pre w (List.mem_cons_of_mem _ h)
  have hown : s.vm.findClass "RuleCiphers" = some m.cls := findClass_of_methodNamed B.named
  have hlocks := B.notSynchronized
  have hE := hU.1
  have hK := hE.1
  have hN := hE.2.1
  have hS : va_S (aw_Z N0) s.heap s.heap [] := va_S.rf
  have hl := lv_entry ([.ref (aw_r ad 0), .int (nI j)] : List Value) (n := 3) (Nat.le_of_ble_eq_true rfl)
  rw [lg_entry_eq]
  generalize (lg_sl ([.ref (aw_r ad 0), .int (nI j)] : List Value) ++ List.replicate (3 - (lg_sl ([.ref (aw_r ad 0), .int (nI j)] : List Value)).length) Slot.unset).toArray = ls at hl ⊢
  have hl : lv_has ls 3 [(0, .ref (aw_r ad 0)), (1, .int (nI j))] := hl
  refine lv_aload_n hx hb d_Ru_tag_0 rfl (lv_at hl 0 rfl) ?_
  refine lv_iload_n hx hb d_Ru_tag_1 rfl (lv_at hl 1 rfl) ?_
  have he1 := zr_R0 hSh
  refine va_callr (va_runV (As := [.int (nI j)]) (rest := []) ⟨hx, hb, hml, hown, hG⟩ (k_Ru_contextAt1V l D g ad N0 zG zO zX zY zA zB zM zI zL zK zN zF zQ j hj) (aw_wV 1 hG gw_2_47 gw_2_45 gw_0_1 gw_2_46 gw_p_0 rfl rfl hd_Ru_contextAt ⟨Nat.le_of_ble_eq_true rfl, Nat.le_of_ble_eq_true rfl⟩) (ag_qV (va_recv hK hP rfl he1) hP hD hSh hU hS) rfl rfl hl.1 rfl (lv_room (Nat.le_of_ble_eq_true rfl)) d_Ru_tag_2 ⟨Nat.le_of_ble_eq_true rfl, Nat.le_of_ble_eq_true rfl⟩) hS (fun _ _ h => h) (fun _ h => h) ?_
  clear hP hD hSh hS he1
  intro u8 q2 t8 H locs ht _ _ hB _ _ hS
  obtain ⟨eq2, hB⟩ := hB
  obtain ⟨L, hP, hD, hSh⟩ := hB
  rw [ht] at hP
  clear ht
  subst eq2
  refine lv_astore_n hx hb d_Ru_tag_5 rfl hl (by decide) rfl (fun ls hl => ?_)
  have hl : lv_has ls 3 [(2, .ref (aw_c ad j 0)), (0, .ref (aw_r ad 0)), (1, .int (nI j))] := hl
  refine lv_aload_n hx hb d_Ru_tag_6 rfl (lv_at hl 0 rfl) ?_
  refine lv_iconst (v := nI 5) hx hb d_Ru_tag_7 (by decide +kernel) ?_
  refine va_callv (va_runS (As := [.ref (aw_c ad j 0), .int (nI 5)]) (rest := []) ⟨hx, hb, hml, hown, hG⟩ (k_Ru_requireMode5V l D g ad N0 zG zO zX zY zA zB zM zI zL zK zN zF zQ j hj hs) (aw_wS 2 hG gw_8_33 gw_8_31 gw_0_1 gw_8_32 rfl rfl hd_Ru_requireMode ⟨Nat.le_of_ble_eq_true rfl, Nat.le_of_ble_eq_true rfl⟩) (ag_qS hP hD hSh hU hS) rfl rfl hl.1 rfl (lv_room (Nat.le_of_ble_eq_true rfl)) d_Ru_tag_8 ⟨Nat.le_of_ble_eq_true rfl, Nat.le_of_ble_eq_true rfl⟩) hS (fun _ _ h => h) (fun _ h => h) ?_
  clear hP hD hSh hS
  intro u8 t8 H locs ht _ _ hB _ _ hS
  obtain ⟨L, hP, hD, hSh⟩ := hB
  rw [ht] at hP
  clear ht
  refine lv_aload_n hx hb d_Ru_tag_11 rfl (lv_at hl 0 rfl) ?_
  obtain ⟨_, he3⟩ := zr_C0 hSh hj
  refine va_calll (va_runV (As := []) (rest := []) ⟨hx, hb, hml, hown, hG⟩ (k_Cx_tellTagV l D g ad N0 zG zO zX zY zA zB zM zI zL zK zN zF zQ j hj) (aw_wV 0 hG gw_9_10 gw_9_7 gw_0_2 gw_9_8 gw_9_9 rfl rfl hd_Cx_tellTag ⟨Nat.le_of_ble_eq_true rfl, Nat.le_of_ble_eq_true rfl⟩) (ag_qV (va_recv hK hP rfl he3) hP hD hSh hU hS) rfl rfl hl.1 rfl (lv_room (Nat.le_of_ble_eq_true rfl)) d_Ru_tag_12 ⟨Nat.le_of_ble_eq_true rfl, Nat.le_of_ble_eq_true rfl⟩) hS (fun _ _ h => h) (fun _ h => h) ?_
  clear hP hD hSh hS he3
  intro y4 u8 t8 H locs ht _ ey4 hB _ _ hS
  obtain ⟨L, hP, hD, hSh⟩ := hB
  rw [ht] at hP
  clear ht
  obtain ⟨zX5, ezX5⟩ : ∃ z : Nat → Nat → Int64, v_Cx_tellTagV_zX zO zX zY zA j = z := ⟨_, rfl⟩
  rw [ezX5] at hSh
  obtain ⟨zY6, ezY6⟩ : ∃ z : Nat → Nat → Int32, v_Cx_tellTagV_zY zO zX zY zA j = z := ⟨_, rfl⟩
  rw [ezY6] at hSh
  have ey4 := ey4.symm
  have gzX : zX5 = v_Ru_tag1V_zX zO zX zY zA j := by subst ey4 ezY6 ezX5; rfl
  have gzY : zY6 = v_Ru_tag1V_zY zO zX zY zA j := by subst ey4 ezY6 ezX5; rfl
  have hSh : az_Sh g ad zG zO (v_Ru_tag1V_zX zO zX zY zA j) (v_Ru_tag1V_zY zO zX zY zA j) zA zB zM zI zL zK zN zF zQ L := by rw [← gzX, ← gzY]; exact hSh
  exact W.lret hx hb hr (fun t ht hW => ⟨⟨_, (), rfl, (by subst ey4 ezY6 ezX5; rfl), ag_Hr ht hP hD hSh⟩, hS.F ht⟩) hS.2.2 d_Ru_tag_15
abbrev ws_Ru_tagXcV : List Cond := Cond.code y_Ru_tag b_Ru_tag 3 (some .long) :: aw_G
abbrev rm_Ru_tagXcV : Room := { frames := 7, cells := 1, slots := 6, locals := 111 }
set_option maxHeartbeats 4000000 in
set_option maxRecDepth 100000 in
theorem k_Ru_tagXcV (l : Launch) (hst : l.stackTraces = false) (D : va_G) (g : Nat → ClassId) (ad : Nat → Nat) (N0 : Nat) (zG : Nat → Nat × Nat) (zO : Nat → Nat) (zX : Nat → Nat → Int64) (zY : Nat → Nat → Int32) (zA : Nat → Nat → Nat → Int32) (zB : Nat → Int32) (zM : Nat → Nat × Nat) (zI : Nat → Nat → Int32) (zL : Nat → Nat → Int64) (zK : Int32) (zN : Nat) (zF : Int32) (zQ : Int64) (c0 : Int32) (hc : c0 < 0 ∨ (¬ c0 < 0 ∧ ¬ c0 < nI 4)) : vx_Met l y_Ru_tag ws_Ru_tagXcV rm_Ru_tagXcV (va_Pc ([.ref (aw_r ad 0), .int c0] : List Value) (ag_B D g N0 (az_Sh g ad zG zO zX zY zA zB zM zI zL zK zN zF zQ))) (va_Qv (fun (_ : Unit) => False) (fun (_ : Unit) _ => True) (aw_Z N0)) (vx_X (fun (_ : Unit) => True) (fun E (_ : Unit) t => E = "java/lang/IndexOutOfBoundsException" ∧ ag_H D N0 (az_Sh g ad zG zO zX zY zA zB zM zI zL zK zN zF zQ) t.heap) (aw_Z N0)) 1 6 (aw_Z N0) := by
  refine vx_ofW (cc := b_Ru_tag) (maxL := 3) (ret := (some .long)) (by decide) rfl ?_
  intro p e s m args below meth c s₁ B hml hex hv
  obtain ⟨rfl, ⟨L, hP, hD, hSh⟩, hU⟩ := hv
  have hx := B.exec
  have hb := B.bytes
  have hr := B.returns
  have hG : ∀ w ∈ aw_G, w.before _ s = true := fun w h => atoms_spec (ws := ws_Ru_tagXcV) B.pre w (List.mem_cons_of_mem _ h)
  have hown : s.vm.findClass "RuleCiphers" = some m.cls := findClass_of_methodNamed B.named
  have hlocks := B.notSynchronized
  have hE := hU.1
  have hK := hE.1
  have hN := hE.2.1
  have hS : va_S (aw_Z N0) s.heap s.heap [] := va_S.rf
  have hl := lv_entry ([.ref (aw_r ad 0), .int c0] : List Value) (n := 3) (Nat.le_of_ble_eq_true rfl)
  rw [lg_entry_eq]
  generalize (lg_sl ([.ref (aw_r ad 0), .int c0] : List Value) ++ List.replicate (3 - (lg_sl ([.ref (aw_r ad 0), .int c0] : List Value)).length) Slot.unset).toArray = ls at hl ⊢
  have hl : lv_has ls 3 [(0, .ref (aw_r ad 0)), (1, .int c0)] := hl
  refine lv_aload_n hx hb d_Ru_tag_0 rfl (lv_at hl 0 rfl) ?_
  refine lv_iload_n hx hb d_Ru_tag_1 rfl (lv_at hl 1 rfl) ?_
  have he1 := zr_R0 hSh
  refine vx_callv (vx_runV (As := [.int c0]) (rest := []) ⟨hx, hb, hml, hown, hG⟩ (k_Ru_contextAtXV l hst D g ad N0 zG zO zX zY zA zB zM zI zL zK zN zF zQ c0 hc) (aw_wV 1 hG gw_2_47 gw_2_45 gw_0_1 gw_2_46 gw_p_0 rfl rfl hd_Ru_contextAt ⟨Nat.le_of_ble_eq_true rfl, Nat.le_of_ble_eq_true rfl⟩) (ag_qV (va_recv hK hP rfl he1) hP hD hSh hU hS) rfl rfl hl.1 rfl (lv_room (Nat.le_of_ble_eq_true rfl)) d_Ru_tag_2 ⟨Nat.le_of_ble_eq_true rfl, Nat.le_of_ble_eq_true rfl⟩) hS (fun _ _ h => h) (fun _ h => h) (fun _ _ h => h) (fun E ce q9 u t H locs ht _ _ hBX _ _ hS hce hcv hcl => ?_) (fun u t H locs _ _ hF _ _ _ _ => hF.elim)
  obtain ⟨rfl, L, hP, hD, hSh⟩ := hBX
  rw [ht] at hP
  exact vx_out (fun x h => (hex x h).elim) hlocks hce hcv hcl (fun t9 ht9 _ => ⟨(), trivial, ⟨rfl, ag_Hr ht9 hP hD hSh⟩, hS.F ht9⟩) hS.2.2 (Nat.le_of_ble_eq_true rfl) (Nat.le_of_ble_eq_true rfl)
abbrev ws_Ru_tagXsV : List Cond := Cond.code y_Ru_tag b_Ru_tag 3 (some .long) :: aw_G
abbrev rm_Ru_tagXsV : Room := { frames := 7, cells := 1, slots := 6, locals := 111 }
set_option maxHeartbeats 4000000 in
set_option maxRecDepth 100000 in
theorem k_Ru_tagXsV (l : Launch) (hst : l.stackTraces = false) (D : va_G) (g : Nat → ClassId) (ad : Nat → Nat) (N0 : Nat) (zG : Nat → Nat × Nat) (zO : Nat → Nat) (zX : Nat → Nat → Int64) (zY : Nat → Nat → Int32) (zA : Nat → Nat → Nat → Int32) (zB : Nat → Int32) (zM : Nat → Nat × Nat) (zI : Nat → Nat → Int32) (zL : Nat → Nat → Int64) (zK : Int32) (zN : Nat) (zF : Int32) (zQ : Int64) (j : Nat) (hj : j < 4) (hs : (zG j).1 ≤ 2 ∨ ((zG j).1 = 3 ∧ (zG j).2 ≠ 5)) : vx_Met l y_Ru_tag ws_Ru_tagXsV rm_Ru_tagXsV (va_Pc ([.ref (aw_r ad 0), .int (nI j)] : List Value) (ag_B D g N0 (az_Sh g ad zG zO zX zY zA zB zM zI zL zK zN zF zQ))) (va_Qv (fun (_ : Unit) => False) (fun (_ : Unit) _ => True) (aw_Z N0)) (vx_X (fun (_ : Unit) => True) (fun E (_ : Unit) t => E = "java/lang/IllegalStateException" ∧ ag_H D N0 (az_Sh g ad zG zO zX zY zA zB zM zI zL zK zN zF zQ) t.heap) (aw_Z N0)) 1 6 (aw_Z N0) := by
  refine vx_ofW (cc := b_Ru_tag) (maxL := 3) (ret := (some .long)) (by decide) rfl ?_
  intro p e s m args below meth c s₁ B hml hex hv
  obtain ⟨rfl, ⟨L, hP, hD, hSh⟩, hU⟩ := hv
  have hx := B.exec
  have hb := B.bytes
  have hr := B.returns
  have hG : ∀ w ∈ aw_G, w.before _ s = true := fun w h => atoms_spec (ws := ws_Ru_tagXsV) B.pre w (List.mem_cons_of_mem _ h)
  have hown : s.vm.findClass "RuleCiphers" = some m.cls := findClass_of_methodNamed B.named
  have hlocks := B.notSynchronized
  have hE := hU.1
  have hK := hE.1
  have hN := hE.2.1
  have hS : va_S (aw_Z N0) s.heap s.heap [] := va_S.rf
  have hl := lv_entry ([.ref (aw_r ad 0), .int (nI j)] : List Value) (n := 3) (Nat.le_of_ble_eq_true rfl)
  rw [lg_entry_eq]
  generalize (lg_sl ([.ref (aw_r ad 0), .int (nI j)] : List Value) ++ List.replicate (3 - (lg_sl ([.ref (aw_r ad 0), .int (nI j)] : List Value)).length) Slot.unset).toArray = ls at hl ⊢
  have hl : lv_has ls 3 [(0, .ref (aw_r ad 0)), (1, .int (nI j))] := hl
  refine lv_aload_n hx hb d_Ru_tag_0 rfl (lv_at hl 0 rfl) ?_
  refine lv_iload_n hx hb d_Ru_tag_1 rfl (lv_at hl 1 rfl) ?_
  have he1 := zr_R0 hSh
  refine va_callr (va_runV (As := [.int (nI j)]) (rest := []) ⟨hx, hb, hml, hown, hG⟩ (k_Ru_contextAt1V l D g ad N0 zG zO zX zY zA zB zM zI zL zK zN zF zQ j hj) (aw_wV 1 hG gw_2_47 gw_2_45 gw_0_1 gw_2_46 gw_p_0 rfl rfl hd_Ru_contextAt ⟨Nat.le_of_ble_eq_true rfl, Nat.le_of_ble_eq_true rfl⟩) (ag_qV (va_recv hK hP rfl he1) hP hD hSh hU hS) rfl rfl hl.1 rfl (lv_room (Nat.le_of_ble_eq_true rfl)) d_Ru_tag_2 ⟨Nat.le_of_ble_eq_true rfl, Nat.le_of_ble_eq_true rfl⟩) hS (fun _ _ h => h) (fun _ h => h) ?_
  clear hP hD hSh hS he1
  intro u8 q2 t8 H locs ht _ _ hB _ _ hS
  obtain ⟨eq2, hB⟩ := hB
  obtain ⟨L, hP, hD, hSh⟩ := hB
  rw [ht] at hP
  clear ht
  subst eq2
  refine lv_astore_n hx hb d_Ru_tag_5 rfl hl (by decide) rfl (fun ls hl => ?_)
  have hl : lv_has ls 3 [(2, .ref (aw_c ad j 0)), (0, .ref (aw_r ad 0)), (1, .int (nI j))] := hl
  refine lv_aload_n hx hb d_Ru_tag_6 rfl (lv_at hl 0 rfl) ?_
  refine lv_iconst (v := nI 5) hx hb d_Ru_tag_7 (by decide +kernel) ?_
  refine vx_callv (vx_runS (As := [.ref (aw_c ad j 0), .int (nI 5)]) (rest := []) ⟨hx, hb, hml, hown, hG⟩ (k_Ru_requireMode5XV l hst D g ad N0 zG zO zX zY zA zB zM zI zL zK zN zF zQ j hj hs) (aw_wS 2 hG gw_8_33 gw_8_31 gw_0_1 gw_8_32 rfl rfl hd_Ru_requireMode ⟨Nat.le_of_ble_eq_true rfl, Nat.le_of_ble_eq_true rfl⟩) (ag_qS hP hD hSh hU hS) rfl rfl hl.1 rfl (lv_room (Nat.le_of_ble_eq_true rfl)) d_Ru_tag_8 ⟨Nat.le_of_ble_eq_true rfl, Nat.le_of_ble_eq_true rfl⟩) hS (fun _ _ h => h) (fun _ h => h) (fun _ _ h => h) (fun E ce q9 u t H locs ht _ _ hBX _ _ hS hce hcv hcl => ?_) (fun u t H locs _ _ hF _ _ _ _ => hF.elim)
  obtain ⟨rfl, L, hP, hD, hSh⟩ := hBX
  rw [ht] at hP
  exact vx_out (fun x h => (hex x h).elim) hlocks hce hcv hcl (fun t9 ht9 _ => ⟨(), trivial, ⟨rfl, ag_Hr ht9 hP hD hSh⟩, hS.F ht9⟩) hS.2.2 (Nat.le_of_ble_eq_true rfl) (Nat.le_of_ble_eq_true rfl)
