abbrev ws_Ru_feedXc : List Cond := Cond.code y_Ru_feed b_Ru_feed 6 (some .int) :: aw_G
abbrev rm_Ru_feedXc : Room := { frames := 7, cells := 1, slots := 6, locals := 111 }
set_option maxHeartbeats 4000000 in
set_option maxRecDepth 100000 in
theorem k_Ru_feedXc (l : Launch) (hst : l.stackTraces = false) (D : va_G) (g : Nat → ClassId) (ad : Nat → Nat) (G M : Nat → Nat × Nat) (F : Int32) (N0 : Nat) (c0 : Int32) (bk : Int32) (fr : Int32) (m0 : Int32) (hc : c0 < 0 ∨ (¬ c0 < 0 ∧ ¬ c0 < nI 4)) : vx_Met l y_Ru_feed ws_Ru_feedXc rm_Ru_feedXc (va_Pc ([.ref (aw_r ad 0), .int c0, .int bk, .int fr, .int m0] : List Value) (aw_B D g ad G M F N0)) (va_Qv (fun (_ : Unit) => False) (fun (_ : Unit) _ => True) (aw_Z N0)) (vx_X (fun (_ : Unit) => True) (fun E (_ : Unit) t => E = "java/lang/IndexOutOfBoundsException" ∧ aw_H D g ad G M F N0 t.heap) (aw_Z N0)) 1 6 (aw_Z N0) := by
  refine vx_ofW (cc := b_Ru_feed) (maxL := 6) (ret := (some .int)) (by decide) rfl ?_
  intro p e s m args below meth c s₁ B hml hex hv
  obtain ⟨rfl, ⟨L, hP, hD, hSh⟩, hU⟩ := hv
  have hx := B.exec
  have hb := B.bytes
  have hr := B.returns
  have hG : ∀ w ∈ aw_G, w.before _ s = true := fun w h => atoms_spec (ws := ws_Ru_feedXc) B.pre w (List.mem_cons_of_mem _ h)
  have hown : s.vm.findClass "RuleCiphers" = some m.cls := findClass_of_methodNamed B.named
  have hlocks := B.notSynchronized
  have hE := hU.1
  have hK := hE.1
  have hN := hE.2.1
  have hS : va_S (aw_Z N0) s.heap s.heap [] := va_S.rf
  have hl := lv_entry ([.ref (aw_r ad 0), .int c0, .int bk, .int fr, .int m0] : List Value) (n := 6) (Nat.le_of_ble_eq_true rfl)
  rw [lg_entry_eq]
  generalize (lg_sl ([.ref (aw_r ad 0), .int c0, .int bk, .int fr, .int m0] : List Value) ++ List.replicate (6 - (lg_sl ([.ref (aw_r ad 0), .int c0, .int bk, .int fr, .int m0] : List Value)).length) Slot.unset).toArray = ls at hl ⊢
  have hl : lv_has ls 6 [(0, .ref (aw_r ad 0)), (1, .int c0), (2, .int bk), (3, .int fr), (4, .int m0)] := hl
  refine lv_aload_n hx hb d_Ru_feed_0 rfl (lv_at hl 0 rfl) ?_
  refine lv_iload_n hx hb d_Ru_feed_1 rfl (lv_at hl 1 rfl) ?_
  have he1 := rd_R0 hSh
  refine vx_callv (vx_runV (As := [.int c0]) (rest := []) ⟨hx, hb, hml, hown, hG⟩ (k_Ru_contextAtX l hst D g ad G M F N0 c0 hc) (aw_wV 1 hG gw_2_47 gw_2_45 gw_0_1 gw_2_46 gw_p_0 rfl rfl hd_Ru_contextAt ⟨Nat.le_of_ble_eq_true rfl, Nat.le_of_ble_eq_true rfl⟩) (aw_qV (va_recv hK hP rfl he1) hP hD hSh hU hS) rfl rfl hl.1 rfl (lv_room (Nat.le_of_ble_eq_true rfl)) d_Ru_feed_2 ⟨Nat.le_of_ble_eq_true rfl, Nat.le_of_ble_eq_true rfl⟩) hS (fun _ _ h => h) (fun _ h => h) (fun _ _ h => h) (fun E ce q9 u t H locs ht _ _ hBX _ _ hS hce hcv hcl => ?_) (fun u t H locs _ _ hF _ _ _ _ => hF.elim)
  obtain ⟨rfl, L, hP, hD, hSh⟩ := hBX
  rw [ht] at hP
  exact vx_out (fun x h => (hex x h).elim) hlocks hce hcv hcl (fun t9 ht9 _ => ⟨(), trivial, ⟨rfl, aw_Hr ht9 hP hD hSh⟩, hS.F ht9⟩) hS.2.2 (Nat.le_of_ble_eq_true rfl) (Nat.le_of_ble_eq_true rfl)
abbrev ws_Ru_feedXb : List Cond := Cond.code y_Ru_feed b_Ru_feed 6 (some .int) :: aw_G
abbrev rm_Ru_feedXb : Room := { frames := 7, cells := 1, slots := 6, locals := 112 }
set_option maxHeartbeats 4000000 in
set_option maxRecDepth 100000 in
theorem k_Ru_feedXb (l : Launch) (hst : l.stackTraces = false) (D : va_G) (g : Nat → ClassId) (ad : Nat → Nat) (G M : Nat → Nat × Nat) (F : Int32) (N0 : Nat) (j : Nat) (bk : Int32) (fr : Int32) (m0 : Int32) (hj : j < 4) (hi : m0 < 0 ∨ (0 < m0 ∧ fr < 0) ∨ (0 < m0 ∧ ¬ fr < 0 ∧ nI 64 - fr < m0)) : vx_Met l y_Ru_feed ws_Ru_feedXb rm_Ru_feedXb (va_Pc ([.ref (aw_r ad 0), .int (nI j), .int bk, .int fr, .int m0] : List Value) (aw_B D g ad G M F N0)) (va_Qv (fun (_ : Unit) => False) (fun (_ : Unit) _ => True) (aw_Z N0)) (vx_X (fun (_ : Unit) => True) (fun E (_ : Unit) t => E = "java/lang/IndexOutOfBoundsException" ∧ aw_H D g ad G M F N0 t.heap) (aw_Z N0)) 1 6 (aw_Z N0) := by
  refine vx_ofW (cc := b_Ru_feed) (maxL := 6) (ret := (some .int)) (by decide) rfl ?_
  intro p e s m args below meth c s₁ B hml hex hv
  obtain ⟨rfl, ⟨L, hP, hD, hSh⟩, hU⟩ := hv
  have hx := B.exec
  have hb := B.bytes
  have hr := B.returns
  have hG : ∀ w ∈ aw_G, w.before _ s = true := fun w h => atoms_spec (ws := ws_Ru_feedXb) B.pre w (List.mem_cons_of_mem _ h)
  have hown : s.vm.findClass "RuleCiphers" = some m.cls := findClass_of_methodNamed B.named
  have hlocks := B.notSynchronized
  have hE := hU.1
  have hK := hE.1
  have hN := hE.2.1
  have hS : va_S (aw_Z N0) s.heap s.heap [] := va_S.rf
  have hl := lv_entry ([.ref (aw_r ad 0), .int (nI j), .int bk, .int fr, .int m0] : List Value) (n := 6) (Nat.le_of_ble_eq_true rfl)
  rw [lg_entry_eq]
  generalize (lg_sl ([.ref (aw_r ad 0), .int (nI j), .int bk, .int fr, .int m0] : List Value) ++ List.replicate (6 - (lg_sl ([.ref (aw_r ad 0), .int (nI j), .int bk, .int fr, .int m0] : List Value)).length) Slot.unset).toArray = ls at hl ⊢
  have hl : lv_has ls 6 [(0, .ref (aw_r ad 0)), (1, .int (nI j)), (2, .int bk), (3, .int fr), (4, .int m0)] := hl
  refine lv_aload_n hx hb d_Ru_feed_0 rfl (lv_at hl 0 rfl) ?_
  refine lv_iload_n hx hb d_Ru_feed_1 rfl (lv_at hl 1 rfl) ?_
  have he1 := rd_R0 hSh
  refine va_callr (va_runV (As := [.int (nI j)]) (rest := []) ⟨hx, hb, hml, hown, hG⟩ (k_Ru_contextAt1 l D g ad G M F N0 j hj) (aw_wV 1 hG gw_2_47 gw_2_45 gw_0_1 gw_2_46 gw_p_0 rfl rfl hd_Ru_contextAt ⟨Nat.le_of_ble_eq_true rfl, Nat.le_of_ble_eq_true rfl⟩) (aw_qV (va_recv hK hP rfl he1) hP hD hSh hU hS) rfl rfl hl.1 rfl (lv_room (Nat.le_of_ble_eq_true rfl)) d_Ru_feed_2 ⟨Nat.le_of_ble_eq_true rfl, Nat.le_of_ble_eq_true rfl⟩) hS (fun _ _ h => h) (fun _ h => h) (fun u8 q2 t8 H locs ht _ _ hB _ _ hS => ?_)
  obtain ⟨eq2, hB⟩ := hB
  obtain ⟨L, hP, hD, hSh⟩ := hB
  rw [ht] at hP
  clear ht
  subst eq2
  refine lv_astore hx hb d_Ru_feed_5 hl (by decide) rfl (fun ls hl => ?_)
  have hl : lv_has ls 6 [(5, .ref (aw_c ad j 0)), (0, .ref (aw_r ad 0)), (1, .int (nI j)), (2, .int bk), (3, .int fr), (4, .int m0)] := hl
  refine lv_iload_n hx hb d_Ru_feed_7 rfl (lv_at hl 4 rfl) ?_
  refine lv_iload hx hb d_Ru_feed_8 (lv_at hl 5 rfl) ?_
  refine vx_callv (vx_runS (As := [.int fr, .int m0]) (rest := []) ⟨hx, hb, hml, hown, hG⟩ (k_Ru_requireInBufferX l hst D g ad G M F N0 fr m0 hi) (aw_wS 2 hG gw_7_49 gw_7_47 gw_0_1 gw_7_48 rfl rfl hd_Ru_requireInBuffer ⟨Nat.le_of_ble_eq_true rfl, Nat.le_of_ble_eq_true rfl⟩) (aw_qS hP hD hSh hU hS) rfl rfl hl.1 rfl (lv_room (Nat.le_of_ble_eq_true rfl)) d_Ru_feed_10 ⟨Nat.le_of_ble_eq_true rfl, Nat.le_of_ble_eq_true rfl⟩) hS (fun _ _ h => h) (fun _ h => h) (fun _ _ h => h) (fun E ce q9 u t H locs ht _ _ hBX _ _ hS hce hcv hcl => ?_) (fun u t H locs _ _ hF _ _ _ _ => hF.elim)
  obtain ⟨rfl, L, hP, hD, hSh⟩ := hBX
  rw [ht] at hP
  exact vx_out (fun x h => (hex x h).elim) hlocks hce hcv hcl (fun t9 ht9 _ => ⟨(), trivial, ⟨rfl, aw_Hr ht9 hP hD hSh⟩, hS.F ht9⟩) hS.2.2 (Nat.le_of_ble_eq_true rfl) (Nat.le_of_ble_eq_true rfl)
abbrev ws_Ru_feedXs0 : List Cond := Cond.code y_Ru_feed b_Ru_feed 6 (some .int) :: aw_G
abbrev rm_Ru_feedXs0 : Room := { frames := 6, cells := 1, slots := 6, locals := 90 }
set_option maxHeartbeats 4000000 in
set_option maxRecDepth 100000 in
theorem k_Ru_feedXs0 (l : Launch) (hst : l.stackTraces = false) (D : va_G) (g : Nat → ClassId) (ad : Nat → Nat) (G M : Nat → Nat × Nat) (F : Int32) (N0 : Nat) (j : Nat) (bk : Int32) (fr : Int32) (hj : j < 4) (hs : (G j).1 ≤ 2 ∨ ((G j).1 = 3 ∧ (G j).2 = 5)) : vx_Met l y_Ru_feed ws_Ru_feedXs0 rm_Ru_feedXs0 (va_Pc ([.ref (aw_r ad 0), .int (nI j), .int bk, .int fr, .int (nI 0)] : List Value) (aw_B D g ad G M F N0)) (va_Qv (fun (_ : Unit) => False) (fun (_ : Unit) _ => True) (aw_Z N0)) (vx_X (fun (_ : Unit) => True) (fun E (_ : Unit) t => E = "java/lang/IllegalStateException" ∧ aw_H D g ad G M F N0 t.heap) (aw_Z N0)) 1 6 (aw_Z N0) := by
  refine vx_ofW (cc := b_Ru_feed) (maxL := 6) (ret := (some .int)) (by decide) rfl ?_
  intro p e s m args below meth c s₁ B hml hex hv
  obtain ⟨rfl, ⟨L, hP, hD, hSh⟩, hU⟩ := hv
  have hx := B.exec
  have hb := B.bytes
  have hr := B.returns
  have hG : ∀ w ∈ aw_G, w.before _ s = true := fun w h => atoms_spec (ws := ws_Ru_feedXs0) B.pre w (List.mem_cons_of_mem _ h)
  have hown : s.vm.findClass "RuleCiphers" = some m.cls := findClass_of_methodNamed B.named
  have hlocks := B.notSynchronized
  have hE := hU.1
  have hK := hE.1
  have hN := hE.2.1
  have hS : va_S (aw_Z N0) s.heap s.heap [] := va_S.rf
  have hl := lv_entry ([.ref (aw_r ad 0), .int (nI j), .int bk, .int fr, .int (nI 0)] : List Value) (n := 6) (Nat.le_of_ble_eq_true rfl)
  rw [lg_entry_eq]
  generalize (lg_sl ([.ref (aw_r ad 0), .int (nI j), .int bk, .int fr, .int (nI 0)] : List Value) ++ List.replicate (6 - (lg_sl ([.ref (aw_r ad 0), .int (nI j), .int bk, .int fr, .int (nI 0)] : List Value)).length) Slot.unset).toArray = ls at hl ⊢
  have hl : lv_has ls 6 [(0, .ref (aw_r ad 0)), (1, .int (nI j)), (2, .int bk), (3, .int fr), (4, .int (nI 0))] := hl
  rcases hs with hs | hs
  · refine lv_aload_n hx hb d_Ru_feed_0 rfl (lv_at hl 0 rfl) ?_
    refine lv_iload_n hx hb d_Ru_feed_1 rfl (lv_at hl 1 rfl) ?_
    have he1 := rd_R0 hSh
    refine va_callr (va_runV (As := [.int (nI j)]) (rest := []) ⟨hx, hb, hml, hown, hG⟩ (k_Ru_contextAt1 l D g ad G M F N0 j hj) (aw_wV 1 hG gw_2_47 gw_2_45 gw_0_1 gw_2_46 gw_p_0 rfl rfl hd_Ru_contextAt ⟨Nat.le_of_ble_eq_true rfl, Nat.le_of_ble_eq_true rfl⟩) (aw_qV (va_recv hK hP rfl he1) hP hD hSh hU hS) rfl rfl hl.1 rfl (lv_room (Nat.le_of_ble_eq_true rfl)) d_Ru_feed_2 ⟨Nat.le_of_ble_eq_true rfl, Nat.le_of_ble_eq_true rfl⟩) hS (fun _ _ h => h) (fun _ h => h) (fun u8 q2 t8 H locs ht _ _ hB _ _ hS => ?_)
    obtain ⟨eq2, hB⟩ := hB
    obtain ⟨L, hP, hD, hSh⟩ := hB
    rw [ht] at hP
    clear ht
    subst eq2
    refine lv_astore hx hb d_Ru_feed_5 hl (by decide) rfl (fun ls hl => ?_)
    have hl : lv_has ls 6 [(5, .ref (aw_c ad j 0)), (0, .ref (aw_r ad 0)), (1, .int (nI j)), (2, .int bk), (3, .int fr), (4, .int (nI 0))] := hl
    refine lv_iload_n hx hb d_Ru_feed_7 rfl (lv_at hl 4 rfl) ?_
    refine lv_iload hx hb d_Ru_feed_8 (lv_at hl 5 rfl) ?_
    refine aw_cv ((va_runS (As := [.int fr, .int (nI 0)]) (rest := []) ⟨hx, hb, hml, hown, hG⟩ (k_Ru_requireInBuffer0 l fr) (aw_wS 2 hG gw_7_49 gw_7_47 gw_0_1 gw_7_48 rfl rfl hd_Ru_requireInBuffer ⟨Nat.le_of_ble_eq_true rfl, Nat.le_of_ble_eq_true rfl⟩) aw_p0 rfl rfl hl.1 rfl (lv_room (Nat.le_of_ble_eq_true rfl)) d_Ru_feed_10 ⟨Nat.le_of_ble_eq_true rfl, Nat.le_of_ble_eq_true rfl⟩).run) ?_
    refine lv_aload hx hb d_Ru_feed_13 (lv_at hl 0 rfl) ?_
    obtain ⟨o4, y5, y6, y7, x8, x9, ho10, he3⟩ := rd_C0 hSh hj
    have hg := hSh.2.2.2.2.1 j hj
    refine va_get (C := R_Cx) (T := T_Cx) (N := 10) (v := .int (nI ((G j).1))) hx hb hG in_Cx hown hK hP (3 + 16 * j + 0) he3 rfl 2 (by decide) (hG _ gw_1_57) (fun _ h => h) rfl d_Ru_feed_15 ?_
    refine lv_iconst (v := nI 3) hx hb d_Ru_feed_18 (by decide +kernel) ?_
    refine lv_icmp_ne (tgt := 31) hx hb d_Ru_feed_19 (by decide) (fun _ => ?_) (fun h => absurd h (show ¬ nI ((G j).1) = nI 3 from fun h9 => absurd ((nI_eq (by omega) (by omega)).mp h9) (by omega)))
    obtain ⟨sa11, hsa11⟩ := hU.2.1.2.2 (84, "the context is not set to a mode that is fed") (by decide)
    exact aw_thr hx hb hst (names := ["java/lang/RuntimeException", "java/lang/Exception"]) hown (by decide +kernel) (by decide +kernel) (hG _ gw_3_59) (hG _ gw_0_16) hsa11 (aw_hat_Ru_39 hG hE) (by decide +kernel) hU hP hD hSh hS (by rw [hml]; exact hl.1) d_Ru_feed_31 d_Ru_feed_34 d_Ru_feed_35 d_Ru_feed_37 d_Ru_feed_40 (fun x h => (hex x h).elim) (by decide) (Nat.le_of_ble_eq_true rfl) (Nat.le_of_ble_eq_true rfl) (Nat.le_of_ble_eq_true rfl) hlocks (Nat.le_of_ble_eq_true rfl) (Nat.le_of_ble_eq_true rfl)
  · refine lv_aload_n hx hb d_Ru_feed_0 rfl (lv_at hl 0 rfl) ?_
    refine lv_iload_n hx hb d_Ru_feed_1 rfl (lv_at hl 1 rfl) ?_
    have he12 := rd_R0 hSh
    refine va_callr (va_runV (As := [.int (nI j)]) (rest := []) ⟨hx, hb, hml, hown, hG⟩ (k_Ru_contextAt1 l D g ad G M F N0 j hj) (aw_wV 1 hG gw_2_47 gw_2_45 gw_0_1 gw_2_46 gw_p_0 rfl rfl hd_Ru_contextAt ⟨Nat.le_of_ble_eq_true rfl, Nat.le_of_ble_eq_true rfl⟩) (aw_qV (va_recv hK hP rfl he12) hP hD hSh hU hS) rfl rfl hl.1 rfl (lv_room (Nat.le_of_ble_eq_true rfl)) d_Ru_feed_2 ⟨Nat.le_of_ble_eq_true rfl, Nat.le_of_ble_eq_true rfl⟩) hS (fun _ _ h => h) (fun _ h => h) (fun u8 q13 t8 H locs ht _ _ hB _ _ hS => ?_)
    obtain ⟨eq13, hB⟩ := hB
    obtain ⟨L, hP, hD, hSh⟩ := hB
    rw [ht] at hP
    clear ht
    subst eq13
    refine lv_astore hx hb d_Ru_feed_5 hl (by decide) rfl (fun ls hl => ?_)
    have hl : lv_has ls 6 [(5, .ref (aw_c ad j 0)), (0, .ref (aw_r ad 0)), (1, .int (nI j)), (2, .int bk), (3, .int fr), (4, .int (nI 0))] := hl
    refine lv_iload_n hx hb d_Ru_feed_7 rfl (lv_at hl 4 rfl) ?_
    refine lv_iload hx hb d_Ru_feed_8 (lv_at hl 5 rfl) ?_
    refine aw_cv ((va_runS (As := [.int fr, .int (nI 0)]) (rest := []) ⟨hx, hb, hml, hown, hG⟩ (k_Ru_requireInBuffer0 l fr) (aw_wS 2 hG gw_7_49 gw_7_47 gw_0_1 gw_7_48 rfl rfl hd_Ru_requireInBuffer ⟨Nat.le_of_ble_eq_true rfl, Nat.le_of_ble_eq_true rfl⟩) aw_p0 rfl rfl hl.1 rfl (lv_room (Nat.le_of_ble_eq_true rfl)) d_Ru_feed_10 ⟨Nat.le_of_ble_eq_true rfl, Nat.le_of_ble_eq_true rfl⟩).run) ?_
    refine lv_aload hx hb d_Ru_feed_13 (lv_at hl 0 rfl) ?_
    obtain ⟨o15, y16, y17, y18, x19, x20, ho21, he14⟩ := rd_C0 hSh hj
    have hg := hSh.2.2.2.2.1 j hj
    refine va_get (C := R_Cx) (T := T_Cx) (N := 10) (v := .int (nI ((G j).1))) hx hb hG in_Cx hown hK hP (3 + 16 * j + 0) he14 rfl 2 (by decide) (hG _ gw_1_57) (fun _ h => h) rfl d_Ru_feed_15 ?_
    refine lv_iconst (v := nI 3) hx hb d_Ru_feed_18 (by decide +kernel) ?_
    refine lv_icmp_ne (tgt := 31) hx hb d_Ru_feed_19 (by decide) (fun h => absurd (show nI ((G j).1) = nI 3 from (nI_eq (by omega) (by omega)).mpr (by omega)) h) (fun _ => ?_)
    refine lv_aload hx hb d_Ru_feed_22 (lv_at hl 0 rfl) ?_
    obtain ⟨o23, y24, y25, y26, x27, x28, ho29, he22⟩ := rd_C0 hSh hj
    have hg := hSh.2.2.2.2.1 j hj
    refine va_get (C := R_Cx) (T := T_Cx) (N := 10) (v := .int (nI ((G j).2))) hx hb hG in_Cx hown hK hP (3 + 16 * j + 0) he22 rfl 3 (by decide) (hG _ gw_1_59) (fun _ h => h) rfl d_Ru_feed_24 ?_
    refine lv_iconst (v := nI 5) hx hb d_Ru_feed_27 (by decide +kernel) ?_
    refine lv_icmp_ne (tgt := 41) hx hb d_Ru_feed_28 (by decide) (fun h => absurd (show nI ((G j).2) = nI 5 from (nI_eq (by omega) (by omega)).mpr (by omega)) h) (fun _ => ?_)
    obtain ⟨sa30, hsa30⟩ := hU.2.1.2.2 (84, "the context is not set to a mode that is fed") (by decide)
    exact aw_thr hx hb hst (names := ["java/lang/RuntimeException", "java/lang/Exception"]) hown (by decide +kernel) (by decide +kernel) (hG _ gw_3_59) (hG _ gw_0_16) hsa30 (aw_hat_Ru_39 hG hE) (by decide +kernel) hU hP hD hSh hS (by rw [hml]; exact hl.1) d_Ru_feed_31 d_Ru_feed_34 d_Ru_feed_35 d_Ru_feed_37 d_Ru_feed_40 (fun x h => (hex x h).elim) (by decide) (Nat.le_of_ble_eq_true rfl) (Nat.le_of_ble_eq_true rfl) (Nat.le_of_ble_eq_true rfl) hlocks (Nat.le_of_ble_eq_true rfl) (Nat.le_of_ble_eq_true rfl)
abbrev ws_Ru_feedXs1 : List Cond := Cond.code y_Ru_feed b_Ru_feed 6 (some .int) :: aw_G
abbrev rm_Ru_feedXs1 : Room := { frames := 6, cells := 1, slots := 6, locals := 90 }
set_option maxHeartbeats 4000000 in
set_option maxRecDepth 100000 in
theorem k_Ru_feedXs1 (l : Launch) (hst : l.stackTraces = false) (D : va_G) (g : Nat → ClassId) (ad : Nat → Nat) (G M : Nat → Nat × Nat) (F : Int32) (N0 : Nat) (j : Nat) (bk : Int32) (k : Nat) (mm : Nat) (hj : j < 4) (h0 : 0 < mm) (hk : k + mm ≤ 64) (hs : (G j).1 ≤ 2 ∨ ((G j).1 = 3 ∧ (G j).2 = 5)) : vx_Met l y_Ru_feed ws_Ru_feedXs1 rm_Ru_feedXs1 (va_Pc ([.ref (aw_r ad 0), .int (nI j), .int bk, .int (nI k), .int (nI mm)] : List Value) (aw_B D g ad G M F N0)) (va_Qv (fun (_ : Unit) => False) (fun (_ : Unit) _ => True) (aw_Z N0)) (vx_X (fun (_ : Unit) => True) (fun E (_ : Unit) t => E = "java/lang/IllegalStateException" ∧ aw_H D g ad G M F N0 t.heap) (aw_Z N0)) 1 6 (aw_Z N0) := by
  refine vx_ofW (cc := b_Ru_feed) (maxL := 6) (ret := (some .int)) (by decide) rfl ?_
  intro p e s m args below meth c s₁ B hml hex hv
  obtain ⟨rfl, ⟨L, hP, hD, hSh⟩, hU⟩ := hv
  have hx := B.exec
  have hb := B.bytes
  have hr := B.returns
  have hG : ∀ w ∈ aw_G, w.before _ s = true := fun w h => atoms_spec (ws := ws_Ru_feedXs1) B.pre w (List.mem_cons_of_mem _ h)
  have hown : s.vm.findClass "RuleCiphers" = some m.cls := findClass_of_methodNamed B.named
  have hlocks := B.notSynchronized
  have hE := hU.1
  have hK := hE.1
  have hN := hE.2.1
  have hS : va_S (aw_Z N0) s.heap s.heap [] := va_S.rf
  have hl := lv_entry ([.ref (aw_r ad 0), .int (nI j), .int bk, .int (nI k), .int (nI mm)] : List Value) (n := 6) (Nat.le_of_ble_eq_true rfl)
  rw [lg_entry_eq]
  generalize (lg_sl ([.ref (aw_r ad 0), .int (nI j), .int bk, .int (nI k), .int (nI mm)] : List Value) ++ List.replicate (6 - (lg_sl ([.ref (aw_r ad 0), .int (nI j), .int bk, .int (nI k), .int (nI mm)] : List Value)).length) Slot.unset).toArray = ls at hl ⊢
  have hl : lv_has ls 6 [(0, .ref (aw_r ad 0)), (1, .int (nI j)), (2, .int bk), (3, .int (nI k)), (4, .int (nI mm))] := hl
  rcases hs with hs | hs
  · refine lv_aload_n hx hb d_Ru_feed_0 rfl (lv_at hl 0 rfl) ?_
    refine lv_iload_n hx hb d_Ru_feed_1 rfl (lv_at hl 1 rfl) ?_
    have he1 := rd_R0 hSh
    refine va_callr (va_runV (As := [.int (nI j)]) (rest := []) ⟨hx, hb, hml, hown, hG⟩ (k_Ru_contextAt1 l D g ad G M F N0 j hj) (aw_wV 1 hG gw_2_47 gw_2_45 gw_0_1 gw_2_46 gw_p_0 rfl rfl hd_Ru_contextAt ⟨Nat.le_of_ble_eq_true rfl, Nat.le_of_ble_eq_true rfl⟩) (aw_qV (va_recv hK hP rfl he1) hP hD hSh hU hS) rfl rfl hl.1 rfl (lv_room (Nat.le_of_ble_eq_true rfl)) d_Ru_feed_2 ⟨Nat.le_of_ble_eq_true rfl, Nat.le_of_ble_eq_true rfl⟩) hS (fun _ _ h => h) (fun _ h => h) (fun u8 q2 t8 H locs ht _ _ hB _ _ hS => ?_)
    obtain ⟨eq2, hB⟩ := hB
    obtain ⟨L, hP, hD, hSh⟩ := hB
    rw [ht] at hP
    clear ht
    subst eq2
    refine lv_astore hx hb d_Ru_feed_5 hl (by decide) rfl (fun ls hl => ?_)
    have hl : lv_has ls 6 [(5, .ref (aw_c ad j 0)), (0, .ref (aw_r ad 0)), (1, .int (nI j)), (2, .int bk), (3, .int (nI k)), (4, .int (nI mm))] := hl
    refine lv_iload_n hx hb d_Ru_feed_7 rfl (lv_at hl 4 rfl) ?_
    refine lv_iload hx hb d_Ru_feed_8 (lv_at hl 5 rfl) ?_
    refine aw_cv ((va_runS (As := [.int (nI k), .int (nI mm)]) (rest := []) ⟨hx, hb, hml, hown, hG⟩ (k_Ru_requireInBuffer1 l k mm h0 hk) (aw_wS 2 hG gw_7_49 gw_7_47 gw_0_1 gw_7_48 rfl rfl hd_Ru_requireInBuffer ⟨Nat.le_of_ble_eq_true rfl, Nat.le_of_ble_eq_true rfl⟩) aw_p0 rfl rfl hl.1 rfl (lv_room (Nat.le_of_ble_eq_true rfl)) d_Ru_feed_10 ⟨Nat.le_of_ble_eq_true rfl, Nat.le_of_ble_eq_true rfl⟩).run) ?_
    refine lv_aload hx hb d_Ru_feed_13 (lv_at hl 0 rfl) ?_
    obtain ⟨o4, y5, y6, y7, x8, x9, ho10, he3⟩ := rd_C0 hSh hj
    have hg := hSh.2.2.2.2.1 j hj
    refine va_get (C := R_Cx) (T := T_Cx) (N := 10) (v := .int (nI ((G j).1))) hx hb hG in_Cx hown hK hP (3 + 16 * j + 0) he3 rfl 2 (by decide) (hG _ gw_1_57) (fun _ h => h) rfl d_Ru_feed_15 ?_
    refine lv_iconst (v := nI 3) hx hb d_Ru_feed_18 (by decide +kernel) ?_
    refine lv_icmp_ne (tgt := 31) hx hb d_Ru_feed_19 (by decide) (fun _ => ?_) (fun h => absurd h (show ¬ nI ((G j).1) = nI 3 from fun h9 => absurd ((nI_eq (by omega) (by omega)).mp h9) (by omega)))
    obtain ⟨sa11, hsa11⟩ := hU.2.1.2.2 (84, "the context is not set to a mode that is fed") (by decide)
    exact aw_thr hx hb hst (names := ["java/lang/RuntimeException", "java/lang/Exception"]) hown (by decide +kernel) (by decide +kernel) (hG _ gw_3_59) (hG _ gw_0_16) hsa11 (aw_hat_Ru_39 hG hE) (by decide +kernel) hU hP hD hSh hS (by rw [hml]; exact hl.1) d_Ru_feed_31 d_Ru_feed_34 d_Ru_feed_35 d_Ru_feed_37 d_Ru_feed_40 (fun x h => (hex x h).elim) (by decide) (Nat.le_of_ble_eq_true rfl) (Nat.le_of_ble_eq_true rfl) (Nat.le_of_ble_eq_true rfl) hlocks (Nat.le_of_ble_eq_true rfl) (Nat.le_of_ble_eq_true rfl)
  · refine lv_aload_n hx hb d_Ru_feed_0 rfl (lv_at hl 0 rfl) ?_
    refine lv_iload_n hx hb d_Ru_feed_1 rfl (lv_at hl 1 rfl) ?_
    have he12 := rd_R0 hSh
    refine va_callr (va_runV (As := [.int (nI j)]) (rest := []) ⟨hx, hb, hml, hown, hG⟩ (k_Ru_contextAt1 l D g ad G M F N0 j hj) (aw_wV 1 hG gw_2_47 gw_2_45 gw_0_1 gw_2_46 gw_p_0 rfl rfl hd_Ru_contextAt ⟨Nat.le_of_ble_eq_true rfl, Nat.le_of_ble_eq_true rfl⟩) (aw_qV (va_recv hK hP rfl he12) hP hD hSh hU hS) rfl rfl hl.1 rfl (lv_room (Nat.le_of_ble_eq_true rfl)) d_Ru_feed_2 ⟨Nat.le_of_ble_eq_true rfl, Nat.le_of_ble_eq_true rfl⟩) hS (fun _ _ h => h) (fun _ h => h) (fun u8 q13 t8 H locs ht _ _ hB _ _ hS => ?_)
    obtain ⟨eq13, hB⟩ := hB
    obtain ⟨L, hP, hD, hSh⟩ := hB
    rw [ht] at hP
    clear ht
    subst eq13
    refine lv_astore hx hb d_Ru_feed_5 hl (by decide) rfl (fun ls hl => ?_)
    have hl : lv_has ls 6 [(5, .ref (aw_c ad j 0)), (0, .ref (aw_r ad 0)), (1, .int (nI j)), (2, .int bk), (3, .int (nI k)), (4, .int (nI mm))] := hl
    refine lv_iload_n hx hb d_Ru_feed_7 rfl (lv_at hl 4 rfl) ?_
    refine lv_iload hx hb d_Ru_feed_8 (lv_at hl 5 rfl) ?_
    refine aw_cv ((va_runS (As := [.int (nI k), .int (nI mm)]) (rest := []) ⟨hx, hb, hml, hown, hG⟩ (k_Ru_requireInBuffer1 l k mm h0 hk) (aw_wS 2 hG gw_7_49 gw_7_47 gw_0_1 gw_7_48 rfl rfl hd_Ru_requireInBuffer ⟨Nat.le_of_ble_eq_true rfl, Nat.le_of_ble_eq_true rfl⟩) aw_p0 rfl rfl hl.1 rfl (lv_room (Nat.le_of_ble_eq_true rfl)) d_Ru_feed_10 ⟨Nat.le_of_ble_eq_true rfl, Nat.le_of_ble_eq_true rfl⟩).run) ?_
    refine lv_aload hx hb d_Ru_feed_13 (lv_at hl 0 rfl) ?_
    obtain ⟨o15, y16, y17, y18, x19, x20, ho21, he14⟩ := rd_C0 hSh hj
    have hg := hSh.2.2.2.2.1 j hj
    refine va_get (C := R_Cx) (T := T_Cx) (N := 10) (v := .int (nI ((G j).1))) hx hb hG in_Cx hown hK hP (3 + 16 * j + 0) he14 rfl 2 (by decide) (hG _ gw_1_57) (fun _ h => h) rfl d_Ru_feed_15 ?_
    refine lv_iconst (v := nI 3) hx hb d_Ru_feed_18 (by decide +kernel) ?_
    refine lv_icmp_ne (tgt := 31) hx hb d_Ru_feed_19 (by decide) (fun h => absurd (show nI ((G j).1) = nI 3 from (nI_eq (by omega) (by omega)).mpr (by omega)) h) (fun _ => ?_)
    refine lv_aload hx hb d_Ru_feed_22 (lv_at hl 0 rfl) ?_
    obtain ⟨o23, y24, y25, y26, x27, x28, ho29, he22⟩ := rd_C0 hSh hj
    have hg := hSh.2.2.2.2.1 j hj
    refine va_get (C := R_Cx) (T := T_Cx) (N := 10) (v := .int (nI ((G j).2))) hx hb hG in_Cx hown hK hP (3 + 16 * j + 0) he22 rfl 3 (by decide) (hG _ gw_1_59) (fun _ h => h) rfl d_Ru_feed_24 ?_
    refine lv_iconst (v := nI 5) hx hb d_Ru_feed_27 (by decide +kernel) ?_
    refine lv_icmp_ne (tgt := 41) hx hb d_Ru_feed_28 (by decide) (fun h => absurd (show nI ((G j).2) = nI 5 from (nI_eq (by omega) (by omega)).mpr (by omega)) h) (fun _ => ?_)
    obtain ⟨sa30, hsa30⟩ := hU.2.1.2.2 (84, "the context is not set to a mode that is fed") (by decide)
    exact aw_thr hx hb hst (names := ["java/lang/RuntimeException", "java/lang/Exception"]) hown (by decide +kernel) (by decide +kernel) (hG _ gw_3_59) (hG _ gw_0_16) hsa30 (aw_hat_Ru_39 hG hE) (by decide +kernel) hU hP hD hSh hS (by rw [hml]; exact hl.1) d_Ru_feed_31 d_Ru_feed_34 d_Ru_feed_35 d_Ru_feed_37 d_Ru_feed_40 (fun x h => (hex x h).elim) (by decide) (Nat.le_of_ble_eq_true rfl) (Nat.le_of_ble_eq_true rfl) (Nat.le_of_ble_eq_true rfl) hlocks (Nat.le_of_ble_eq_true rfl) (Nat.le_of_ble_eq_true rfl)
abbrev ws_Ru_feedXa : List Cond := Cond.code y_Ru_feed b_Ru_feed 6 (some .int) :: aw_G
abbrev rm_Ru_feedXa : Room := { frames := 6, cells := 1, slots := 6, locals := 90 }
set_option maxHeartbeats 4000000 in
set_option maxRecDepth 100000 in
theorem k_Ru_feedXa (l : Launch) (hst : l.stackTraces = false) (D : va_G) (g : Nat → ClassId) (ad : Nat → Nat) (G M : Nat → Nat × Nat) (F : Int32) (N0 : Nat) (j : Nat) (bk : Int32) (k : Nat) (mm : Nat) (hj : j < 4) (h0 : 0 < mm) (hk : k + mm ≤ 64) (hs : (G j).1 = 3) (hm : (G j).2 ≤ 1) (hr8 : mm % 8 ≠ 0) : vx_Met l y_Ru_feed ws_Ru_feedXa rm_Ru_feedXa (va_Pc ([.ref (aw_r ad 0), .int (nI j), .int bk, .int (nI k), .int (nI mm)] : List Value) (aw_B D g ad G M F N0)) (va_Qv (fun (_ : Unit) => False) (fun (_ : Unit) _ => True) (aw_Z N0)) (vx_X (fun (_ : Unit) => True) (fun E (_ : Unit) t => E = "java/lang/IllegalArgumentException" ∧ aw_H D g ad G M F N0 t.heap) (aw_Z N0)) 1 6 (aw_Z N0) := by
  refine vx_ofW (cc := b_Ru_feed) (maxL := 6) (ret := (some .int)) (by decide) rfl ?_
  intro p e s m args below meth c s₁ B hml hex hv
  obtain ⟨rfl, ⟨L, hP, hD, hSh⟩, hU⟩ := hv
  have hx := B.exec
  have hb := B.bytes
  have hr := B.returns
  have hG : ∀ w ∈ aw_G, w.before _ s = true := fun w h => atoms_spec (ws := ws_Ru_feedXa) B.pre w (List.mem_cons_of_mem _ h)
  have hown : s.vm.findClass "RuleCiphers" = some m.cls := findClass_of_methodNamed B.named
  have hlocks := B.notSynchronized
  have hE := hU.1
  have hK := hE.1
  have hN := hE.2.1
  have hS : va_S (aw_Z N0) s.heap s.heap [] := va_S.rf
  have hl := lv_entry ([.ref (aw_r ad 0), .int (nI j), .int bk, .int (nI k), .int (nI mm)] : List Value) (n := 6) (Nat.le_of_ble_eq_true rfl)
  rw [lg_entry_eq]
  generalize (lg_sl ([.ref (aw_r ad 0), .int (nI j), .int bk, .int (nI k), .int (nI mm)] : List Value) ++ List.replicate (6 - (lg_sl ([.ref (aw_r ad 0), .int (nI j), .int bk, .int (nI k), .int (nI mm)] : List Value)).length) Slot.unset).toArray = ls at hl ⊢
  have hl : lv_has ls 6 [(0, .ref (aw_r ad 0)), (1, .int (nI j)), (2, .int bk), (3, .int (nI k)), (4, .int (nI mm))] := hl
  refine lv_aload_n hx hb d_Ru_feed_0 rfl (lv_at hl 0 rfl) ?_
  refine lv_iload_n hx hb d_Ru_feed_1 rfl (lv_at hl 1 rfl) ?_
  have he1 := rd_R0 hSh
  refine va_callr (va_runV (As := [.int (nI j)]) (rest := []) ⟨hx, hb, hml, hown, hG⟩ (k_Ru_contextAt1 l D g ad G M F N0 j hj) (aw_wV 1 hG gw_2_47 gw_2_45 gw_0_1 gw_2_46 gw_p_0 rfl rfl hd_Ru_contextAt ⟨Nat.le_of_ble_eq_true rfl, Nat.le_of_ble_eq_true rfl⟩) (aw_qV (va_recv hK hP rfl he1) hP hD hSh hU hS) rfl rfl hl.1 rfl (lv_room (Nat.le_of_ble_eq_true rfl)) d_Ru_feed_2 ⟨Nat.le_of_ble_eq_true rfl, Nat.le_of_ble_eq_true rfl⟩) hS (fun _ _ h => h) (fun _ h => h) (fun u8 q2 t8 H locs ht _ _ hB _ _ hS => ?_)
  obtain ⟨eq2, hB⟩ := hB
  obtain ⟨L, hP, hD, hSh⟩ := hB
  rw [ht] at hP
  clear ht
  subst eq2
  refine lv_astore hx hb d_Ru_feed_5 hl (by decide) rfl (fun ls hl => ?_)
  have hl : lv_has ls 6 [(5, .ref (aw_c ad j 0)), (0, .ref (aw_r ad 0)), (1, .int (nI j)), (2, .int bk), (3, .int (nI k)), (4, .int (nI mm))] := hl
  refine lv_iload_n hx hb d_Ru_feed_7 rfl (lv_at hl 4 rfl) ?_
  refine lv_iload hx hb d_Ru_feed_8 (lv_at hl 5 rfl) ?_
  refine aw_cv ((va_runS (As := [.int (nI k), .int (nI mm)]) (rest := []) ⟨hx, hb, hml, hown, hG⟩ (k_Ru_requireInBuffer1 l k mm h0 hk) (aw_wS 2 hG gw_7_49 gw_7_47 gw_0_1 gw_7_48 rfl rfl hd_Ru_requireInBuffer ⟨Nat.le_of_ble_eq_true rfl, Nat.le_of_ble_eq_true rfl⟩) aw_p0 rfl rfl hl.1 rfl (lv_room (Nat.le_of_ble_eq_true rfl)) d_Ru_feed_10 ⟨Nat.le_of_ble_eq_true rfl, Nat.le_of_ble_eq_true rfl⟩).run) ?_
  refine lv_aload hx hb d_Ru_feed_13 (lv_at hl 0 rfl) ?_
  obtain ⟨o4, y5, y6, y7, x8, x9, ho10, he3⟩ := rd_C0 hSh hj
  have hg := hSh.2.2.2.2.1 j hj
  refine va_get (C := R_Cx) (T := T_Cx) (N := 10) (v := .int (nI ((G j).1))) hx hb hG in_Cx hown hK hP (3 + 16 * j + 0) he3 rfl 2 (by decide) (hG _ gw_1_57) (fun _ h => h) rfl d_Ru_feed_15 ?_
  refine lv_iconst (v := nI 3) hx hb d_Ru_feed_18 (by decide +kernel) ?_
  refine lv_icmp_ne (tgt := 31) hx hb d_Ru_feed_19 (by decide) (fun h => absurd (show nI ((G j).1) = nI 3 from (nI_eq (by omega) (by omega)).mpr (by omega)) h) (fun _ => ?_)
  refine lv_aload hx hb d_Ru_feed_22 (lv_at hl 0 rfl) ?_
  obtain ⟨o12, y13, y14, y15, x16, x17, ho18, he11⟩ := rd_C0 hSh hj
  have hg := hSh.2.2.2.2.1 j hj
  refine va_get (C := R_Cx) (T := T_Cx) (N := 10) (v := .int (nI ((G j).2))) hx hb hG in_Cx hown hK hP (3 + 16 * j + 0) he11 rfl 3 (by decide) (hG _ gw_1_59) (fun _ h => h) rfl d_Ru_feed_24 ?_
  refine lv_iconst (v := nI 5) hx hb d_Ru_feed_27 (by decide +kernel) ?_
  refine lv_icmp_ne (tgt := 41) hx hb d_Ru_feed_28 (by decide) (fun _ => ?_) (fun h => absurd h (show ¬ nI ((G j).2) = nI 5 from fun h9 => absurd ((nI_eq (by omega) (by omega)).mp h9) (by omega)))
  refine lv_aload hx hb d_Ru_feed_41 (lv_at hl 0 rfl) ?_
  obtain ⟨_, _, _, _, _, _, _, he19⟩ := rd_C0 hSh hj
  refine va_calli (va_runV (As := []) (rest := []) ⟨hx, hb, hml, hown, hG⟩ (k_Cx_feedsWholeBlocks1 l D g ad G M F N0 j hj hm) (aw_wV 0 hG gw_7_53 gw_7_50 gw_0_2 gw_7_51 gw_7_52 rfl rfl hd_Cx_feedsWholeBlocks ⟨Nat.le_of_ble_eq_true rfl, Nat.le_of_ble_eq_true rfl⟩) (aw_qV (va_recv hK hP rfl he19) hP hD hSh hU hS) rfl rfl hl.1 rfl (lv_room (Nat.le_of_ble_eq_true rfl)) d_Ru_feed_43 ⟨Nat.le_of_ble_eq_true rfl, Nat.le_of_ble_eq_true rfl⟩) hS (fun _ _ h => h) (fun _ h => h) (fun x20 u8 t8 H locs ht _ hpx20 hB _ _ hS => ?_)
  obtain ⟨L, hP, hD, hSh⟩ := hB
  rw [ht] at hP
  clear ht
  subst hpx20
  refine lv_if_eq (tgt := 67) hx hb d_Ru_feed_46 (by decide) (fun h => absurd h (by decide +kernel)) (fun _ => ?_)
  refine lv_iload hx hb d_Ru_feed_49 (lv_at hl 5 rfl) ?_
  refine lv_bipush (v := nI 8) hx hb d_Ru_feed_51 (by decide +kernel) ?_
  refine lv_irem hx hb d_Ru_feed_53 (by decide +kernel) ?_
  refine aw_ti (pk_rem (a := mm) (d := 8) (by omega) (by omega) (by omega)) ?_
  refine lv_if_eq (tgt := 67) hx hb d_Ru_feed_54 (by decide) (fun h => absurd h (show ¬ nI (mm % 8) = nI 0 from fun h9 => absurd ((nI_eq (by omega) (by omega)).mp h9) (by omega))) (fun _ => ?_)
  obtain ⟨sa21, hsa21⟩ := hU.2.1.2.2 (90, "the mode is fed whole blocks alone") (by decide)
  exact aw_thr hx hb hst (names := ["java/lang/RuntimeException", "java/lang/Exception"]) hown (by decide +kernel) (by decide +kernel) (hG _ gw_3_45) (hG _ gw_0_15) hsa21 (aw_hat_Ru_28 hG hE) (by decide +kernel) hU hP hD hSh hS (by rw [hml]; exact hl.1) d_Ru_feed_57 d_Ru_feed_60 d_Ru_feed_61 d_Ru_feed_63 d_Ru_feed_66 (fun x h => (hex x h).elim) (by decide) (Nat.le_of_ble_eq_true rfl) (Nat.le_of_ble_eq_true rfl) (Nat.le_of_ble_eq_true rfl) hlocks (Nat.le_of_ble_eq_true rfl) (Nat.le_of_ble_eq_true rfl)
abbrev ws_Ru_feed10b : List Cond := Cond.code y_Ru_feed b_Ru_feed 6 (some .int) :: aw_G
abbrev rm_Ru_feed10b : Room := { frames := 2, cells := 0, slots := 0, locals := 46 }
set_option maxHeartbeats 4000000 in
set_option maxRecDepth 100000 in
theorem k_Ru_feed10b (l : Launch) (D : va_G) (g : Nat → ClassId) (ad : Nat → Nat) (G M : Nat → Nat × Nat) (F : Int32) (N0 : Nat) (j : Nat) (bk : Int32) (fr : Int32) (hj : j < 4) (hs : (G j).1 = 3) (hm : (G j).2 ≤ 1) : Met l y_Ru_feed ws_Ru_feed10b rm_Ru_feed10b (va_Pc ([.ref (aw_r ad 0), .int (nI j), .int bk, .int fr, .int (nI 0)] : List Value) (aw_B D g ad G M F N0)) (va_Qi (fun r (_ : Unit) => True) (fun (_ : Unit) t => aw_H D g ad G M F N0 t.heap) (aw_Z N0)) 0 0 (aw_Z N0) := by
  refine Met.ofW (cc := b_Ru_feed) (maxL := 6) (ret := (some .int)) (by decide) rfl ?_
  intro p e s m args below meth c s₁ B hml hv
  obtain ⟨rfl, ⟨L, hP, hD, hSh⟩, hU⟩ := hv
  have hx := B.exec
  have hb := B.bytes
  have hr := B.returns
  have hG : ∀ w ∈ aw_G, w.before _ s = true := fun w h => atoms_spec (ws := ws_Ru_feed10b) B.pre w (List.mem_cons_of_mem _ h)
  have hown : s.vm.findClass "RuleCiphers" = some m.cls := findClass_of_methodNamed B.named
  have hlocks := B.notSynchronized
  have hE := hU.1
  have hK := hE.1
  have hN := hE.2.1
  have hS : va_S (aw_Z N0) s.heap s.heap [] := va_S.rf
  have hl := lv_entry ([.ref (aw_r ad 0), .int (nI j), .int bk, .int fr, .int (nI 0)] : List Value) (n := 6) (Nat.le_of_ble_eq_true rfl)
  rw [lg_entry_eq]
  generalize (lg_sl ([.ref (aw_r ad 0), .int (nI j), .int bk, .int fr, .int (nI 0)] : List Value) ++ List.replicate (6 - (lg_sl ([.ref (aw_r ad 0), .int (nI j), .int bk, .int fr, .int (nI 0)] : List Value)).length) Slot.unset).toArray = ls at hl ⊢
  have hl : lv_has ls 6 [(0, .ref (aw_r ad 0)), (1, .int (nI j)), (2, .int bk), (3, .int fr), (4, .int (nI 0))] := hl
  refine lv_aload_n hx hb d_Ru_feed_0 rfl (lv_at hl 0 rfl) ?_
  refine lv_iload_n hx hb d_Ru_feed_1 rfl (lv_at hl 1 rfl) ?_
  have he1 := rd_R0 hSh
  refine va_callr (va_runV (As := [.int (nI j)]) (rest := []) ⟨hx, hb, hml, hown, hG⟩ (k_Ru_contextAt1 l D g ad G M F N0 j hj) (aw_wV 1 hG gw_2_47 gw_2_45 gw_0_1 gw_2_46 gw_p_0 rfl rfl hd_Ru_contextAt ⟨Nat.le_of_ble_eq_true rfl, Nat.le_of_ble_eq_true rfl⟩) (aw_qV (va_recv hK hP rfl he1) hP hD hSh hU hS) rfl rfl hl.1 rfl (lv_room (Nat.le_of_ble_eq_true rfl)) d_Ru_feed_2 ⟨Nat.le_of_ble_eq_true rfl, Nat.le_of_ble_eq_true rfl⟩) hS (fun _ _ h => h) (fun _ h => h) (fun u8 q2 t8 H locs ht _ _ hB _ _ hS => ?_)
  obtain ⟨eq2, hB⟩ := hB
  obtain ⟨L, hP, hD, hSh⟩ := hB
  rw [ht] at hP
  clear ht
  subst eq2
  refine lv_astore hx hb d_Ru_feed_5 hl (by decide) rfl (fun ls hl => ?_)
  have hl : lv_has ls 6 [(5, .ref (aw_c ad j 0)), (0, .ref (aw_r ad 0)), (1, .int (nI j)), (2, .int bk), (3, .int fr), (4, .int (nI 0))] := hl
  refine lv_iload_n hx hb d_Ru_feed_7 rfl (lv_at hl 4 rfl) ?_
  refine lv_iload hx hb d_Ru_feed_8 (lv_at hl 5 rfl) ?_
  refine aw_cv ((va_runS (As := [.int fr, .int (nI 0)]) (rest := []) ⟨hx, hb, hml, hown, hG⟩ (k_Ru_requireInBuffer0 l fr) (aw_wS 2 hG gw_7_49 gw_7_47 gw_0_1 gw_7_48 rfl rfl hd_Ru_requireInBuffer ⟨Nat.le_of_ble_eq_true rfl, Nat.le_of_ble_eq_true rfl⟩) aw_p0 rfl rfl hl.1 rfl (lv_room (Nat.le_of_ble_eq_true rfl)) d_Ru_feed_10 ⟨Nat.le_of_ble_eq_true rfl, Nat.le_of_ble_eq_true rfl⟩).run) ?_
  refine lv_aload hx hb d_Ru_feed_13 (lv_at hl 0 rfl) ?_
  obtain ⟨o4, y5, y6, y7, x8, x9, ho10, he3⟩ := rd_C0 hSh hj
  have hg := hSh.2.2.2.2.1 j hj
  refine va_get (C := R_Cx) (T := T_Cx) (N := 10) (v := .int (nI ((G j).1))) hx hb hG in_Cx hown hK hP (3 + 16 * j + 0) he3 rfl 2 (by decide) (hG _ gw_1_57) (fun _ h => h) rfl d_Ru_feed_15 ?_
  refine lv_iconst (v := nI 3) hx hb d_Ru_feed_18 (by decide +kernel) ?_
  refine lv_icmp_ne (tgt := 31) hx hb d_Ru_feed_19 (by decide) (fun h => absurd (show nI ((G j).1) = nI 3 from (nI_eq (by omega) (by omega)).mpr (by omega)) h) (fun _ => ?_)
  refine lv_aload hx hb d_Ru_feed_22 (lv_at hl 0 rfl) ?_
  obtain ⟨o12, y13, y14, y15, x16, x17, ho18, he11⟩ := rd_C0 hSh hj
  have hg := hSh.2.2.2.2.1 j hj
  refine va_get (C := R_Cx) (T := T_Cx) (N := 10) (v := .int (nI ((G j).2))) hx hb hG in_Cx hown hK hP (3 + 16 * j + 0) he11 rfl 3 (by decide) (hG _ gw_1_59) (fun _ h => h) rfl d_Ru_feed_24 ?_
  refine lv_iconst (v := nI 5) hx hb d_Ru_feed_27 (by decide +kernel) ?_
  refine lv_icmp_ne (tgt := 41) hx hb d_Ru_feed_28 (by decide) (fun _ => ?_) (fun h => absurd h (show ¬ nI ((G j).2) = nI 5 from fun h9 => absurd ((nI_eq (by omega) (by omega)).mp h9) (by omega)))
  refine lv_aload hx hb d_Ru_feed_41 (lv_at hl 0 rfl) ?_
  obtain ⟨_, _, _, _, _, _, _, he19⟩ := rd_C0 hSh hj
  refine va_calli (va_runV (As := []) (rest := []) ⟨hx, hb, hml, hown, hG⟩ (k_Cx_feedsWholeBlocks1 l D g ad G M F N0 j hj hm) (aw_wV 0 hG gw_7_53 gw_7_50 gw_0_2 gw_7_51 gw_7_52 rfl rfl hd_Cx_feedsWholeBlocks ⟨Nat.le_of_ble_eq_true rfl, Nat.le_of_ble_eq_true rfl⟩) (aw_qV (va_recv hK hP rfl he19) hP hD hSh hU hS) rfl rfl hl.1 rfl (lv_room (Nat.le_of_ble_eq_true rfl)) d_Ru_feed_43 ⟨Nat.le_of_ble_eq_true rfl, Nat.le_of_ble_eq_true rfl⟩) hS (fun _ _ h => h) (fun _ h => h) (fun x20 u8 t8 H locs ht _ hpx20 hB _ _ hS => ?_)
  obtain ⟨L, hP, hD, hSh⟩ := hB
  rw [ht] at hP
  clear ht
  subst hpx20
  refine lv_if_eq (tgt := 67) hx hb d_Ru_feed_46 (by decide) (fun h => absurd h (by decide +kernel)) (fun _ => ?_)
  refine lv_iload hx hb d_Ru_feed_49 (lv_at hl 5 rfl) ?_
  refine lv_bipush (v := nI 8) hx hb d_Ru_feed_51 (by decide +kernel) ?_
  refine lv_irem hx hb d_Ru_feed_53 (by decide +kernel) ?_
  refine aw_ti (y := nI 0) (by decide +kernel) ?_
  refine lv_if_eq (tgt := 67) hx hb d_Ru_feed_54 (by decide) (fun _ => ?_) (fun h => absurd (by decide +kernel) h)
  refine lv_aload hx hb d_Ru_feed_67 (lv_at hl 0 rfl) ?_
  refine lv_iload_n hx hb d_Ru_feed_69 rfl (lv_at hl 3 rfl) ?_
  refine lv_aload_n hx hb d_Ru_feed_70 rfl (lv_at hl 1 rfl) ?_
  have he21 := rd_R0 hSh
  refine va_get (C := R_Ru) (T := T_Ru) (N := 2) (v := .ref (aw_r ad 2)) hx hb hG in_Ru hown hK hP 0 he21 rfl 1 (by decide) (hG _ gw_2_29) (fun _ h => h) rfl d_Ru_feed_71 ?_
  refine lv_iload_n hx hb d_Ru_feed_74 rfl (lv_at hl 4 rfl) ?_
  refine lv_iload hx hb d_Ru_feed_75 (lv_at hl 5 rfl) ?_
  obtain ⟨_, _, _, _, _, _, _, he22⟩ := rd_C0 hSh hj
  refine va_calli (va_runV (As := [.int bk, .ref (aw_r ad 2), .int fr, .int (nI 0)]) (rest := []) ⟨hx, hb, hml, hown, hG⟩ (k_Cx_feedBytes0b l D g ad G M F N0 j bk fr hj hm) (aw_wV 4 hG gw_7_57 gw_7_54 gw_0_2 gw_7_55 gw_7_56 rfl rfl hd_Cx_feedBytes ⟨Nat.le_of_ble_eq_true rfl, Nat.le_of_ble_eq_true rfl⟩) (aw_qV (va_recv hK hP rfl he22) hP hD hSh hU hS) rfl rfl hl.1 rfl (lv_room (Nat.le_of_ble_eq_true rfl)) d_Ru_feed_77 ⟨Nat.le_of_ble_eq_true rfl, Nat.le_of_ble_eq_true rfl⟩) hS (fun _ _ h => h) (fun _ h => h) (fun x23 u8 t8 H locs ht _ _ hB _ _ hS => ?_)
  obtain ⟨L, hP, hD, hSh⟩ := hB
  rw [ht] at hP
  clear ht
  exact W.iret hx hb hr (fun t ht hW => ⟨⟨_, (), rfl, trivial, aw_Hr ht hP hD hSh⟩, hS.F ht⟩) hS.2.2 d_Ru_feed_80
abbrev ws_Ru_feed10 : List Cond := Cond.code y_Ru_feed b_Ru_feed 6 (some .int) :: aw_G
abbrev rm_Ru_feed10 : Room := { frames := 2, cells := 0, slots := 0, locals := 46 }
set_option maxHeartbeats 4000000 in
set_option maxRecDepth 100000 in
theorem k_Ru_feed10 (l : Launch) (D : va_G) (g : Nat → ClassId) (ad : Nat → Nat) (G M : Nat → Nat × Nat) (F : Int32) (N0 : Nat) (j : Nat) (bk : Int32) (fr : Int32) (hj : j < 4) (hs : (G j).1 = 3) (hm : 2 ≤ (G j).2) (hm5 : (G j).2 ≤ 4) : Met l y_Ru_feed ws_Ru_feed10 rm_Ru_feed10 (va_Pc ([.ref (aw_r ad 0), .int (nI j), .int bk, .int fr, .int (nI 0)] : List Value) (aw_B D g ad G M F N0)) (va_Qi (fun r (_ : Unit) => True) (fun (_ : Unit) t => aw_H D g ad G M F N0 t.heap) (aw_Z N0)) 0 0 (aw_Z N0) := by
  refine Met.ofW (cc := b_Ru_feed) (maxL := 6) (ret := (some .int)) (by decide) rfl ?_
  intro p e s m args below meth c s₁ B hml hv
  obtain ⟨rfl, ⟨L, hP, hD, hSh⟩, hU⟩ := hv
  have hx := B.exec
  have hb := B.bytes
  have hr := B.returns
  have hG : ∀ w ∈ aw_G, w.before _ s = true := fun w h => atoms_spec (ws := ws_Ru_feed10) B.pre w (List.mem_cons_of_mem _ h)
  have hown : s.vm.findClass "RuleCiphers" = some m.cls := findClass_of_methodNamed B.named
  have hlocks := B.notSynchronized
  have hE := hU.1
  have hK := hE.1
  have hN := hE.2.1
  have hS : va_S (aw_Z N0) s.heap s.heap [] := va_S.rf
  have hl := lv_entry ([.ref (aw_r ad 0), .int (nI j), .int bk, .int fr, .int (nI 0)] : List Value) (n := 6) (Nat.le_of_ble_eq_true rfl)
  rw [lg_entry_eq]
  generalize (lg_sl ([.ref (aw_r ad 0), .int (nI j), .int bk, .int fr, .int (nI 0)] : List Value) ++ List.replicate (6 - (lg_sl ([.ref (aw_r ad 0), .int (nI j), .int bk, .int fr, .int (nI 0)] : List Value)).length) Slot.unset).toArray = ls at hl ⊢
  have hl : lv_has ls 6 [(0, .ref (aw_r ad 0)), (1, .int (nI j)), (2, .int bk), (3, .int fr), (4, .int (nI 0))] := hl
  refine lv_aload_n hx hb d_Ru_feed_0 rfl (lv_at hl 0 rfl) ?_
  refine lv_iload_n hx hb d_Ru_feed_1 rfl (lv_at hl 1 rfl) ?_
  have he1 := rd_R0 hSh
  refine va_callr (va_runV (As := [.int (nI j)]) (rest := []) ⟨hx, hb, hml, hown, hG⟩ (k_Ru_contextAt1 l D g ad G M F N0 j hj) (aw_wV 1 hG gw_2_47 gw_2_45 gw_0_1 gw_2_46 gw_p_0 rfl rfl hd_Ru_contextAt ⟨Nat.le_of_ble_eq_true rfl, Nat.le_of_ble_eq_true rfl⟩) (aw_qV (va_recv hK hP rfl he1) hP hD hSh hU hS) rfl rfl hl.1 rfl (lv_room (Nat.le_of_ble_eq_true rfl)) d_Ru_feed_2 ⟨Nat.le_of_ble_eq_true rfl, Nat.le_of_ble_eq_true rfl⟩) hS (fun _ _ h => h) (fun _ h => h) (fun u8 q2 t8 H locs ht _ _ hB _ _ hS => ?_)
  obtain ⟨eq2, hB⟩ := hB
  obtain ⟨L, hP, hD, hSh⟩ := hB
  rw [ht] at hP
  clear ht
  subst eq2
  refine lv_astore hx hb d_Ru_feed_5 hl (by decide) rfl (fun ls hl => ?_)
  have hl : lv_has ls 6 [(5, .ref (aw_c ad j 0)), (0, .ref (aw_r ad 0)), (1, .int (nI j)), (2, .int bk), (3, .int fr), (4, .int (nI 0))] := hl
  refine lv_iload_n hx hb d_Ru_feed_7 rfl (lv_at hl 4 rfl) ?_
  refine lv_iload hx hb d_Ru_feed_8 (lv_at hl 5 rfl) ?_
  refine aw_cv ((va_runS (As := [.int fr, .int (nI 0)]) (rest := []) ⟨hx, hb, hml, hown, hG⟩ (k_Ru_requireInBuffer0 l fr) (aw_wS 2 hG gw_7_49 gw_7_47 gw_0_1 gw_7_48 rfl rfl hd_Ru_requireInBuffer ⟨Nat.le_of_ble_eq_true rfl, Nat.le_of_ble_eq_true rfl⟩) aw_p0 rfl rfl hl.1 rfl (lv_room (Nat.le_of_ble_eq_true rfl)) d_Ru_feed_10 ⟨Nat.le_of_ble_eq_true rfl, Nat.le_of_ble_eq_true rfl⟩).run) ?_
  refine lv_aload hx hb d_Ru_feed_13 (lv_at hl 0 rfl) ?_
  obtain ⟨o4, y5, y6, y7, x8, x9, ho10, he3⟩ := rd_C0 hSh hj
  have hg := hSh.2.2.2.2.1 j hj
  refine va_get (C := R_Cx) (T := T_Cx) (N := 10) (v := .int (nI ((G j).1))) hx hb hG in_Cx hown hK hP (3 + 16 * j + 0) he3 rfl 2 (by decide) (hG _ gw_1_57) (fun _ h => h) rfl d_Ru_feed_15 ?_
  refine lv_iconst (v := nI 3) hx hb d_Ru_feed_18 (by decide +kernel) ?_
  refine lv_icmp_ne (tgt := 31) hx hb d_Ru_feed_19 (by decide) (fun h => absurd (show nI ((G j).1) = nI 3 from (nI_eq (by omega) (by omega)).mpr (by omega)) h) (fun _ => ?_)
  refine lv_aload hx hb d_Ru_feed_22 (lv_at hl 0 rfl) ?_
  obtain ⟨o12, y13, y14, y15, x16, x17, ho18, he11⟩ := rd_C0 hSh hj
  have hg := hSh.2.2.2.2.1 j hj
  refine va_get (C := R_Cx) (T := T_Cx) (N := 10) (v := .int (nI ((G j).2))) hx hb hG in_Cx hown hK hP (3 + 16 * j + 0) he11 rfl 3 (by decide) (hG _ gw_1_59) (fun _ h => h) rfl d_Ru_feed_24 ?_
  refine lv_iconst (v := nI 5) hx hb d_Ru_feed_27 (by decide +kernel) ?_
  refine lv_icmp_ne (tgt := 41) hx hb d_Ru_feed_28 (by decide) (fun _ => ?_) (fun h => absurd h (show ¬ nI ((G j).2) = nI 5 from fun h9 => absurd ((nI_eq (by omega) (by omega)).mp h9) (by omega)))
  refine lv_aload hx hb d_Ru_feed_41 (lv_at hl 0 rfl) ?_
  obtain ⟨_, _, _, _, _, _, _, he19⟩ := rd_C0 hSh hj
  refine va_calli (va_runV (As := []) (rest := []) ⟨hx, hb, hml, hown, hG⟩ (k_Cx_feedsWholeBlocks0 l D g ad G M F N0 j hj hm) (aw_wV 0 hG gw_7_53 gw_7_50 gw_0_2 gw_7_51 gw_7_52 rfl rfl hd_Cx_feedsWholeBlocks ⟨Nat.le_of_ble_eq_true rfl, Nat.le_of_ble_eq_true rfl⟩) (aw_qV (va_recv hK hP rfl he19) hP hD hSh hU hS) rfl rfl hl.1 rfl (lv_room (Nat.le_of_ble_eq_true rfl)) d_Ru_feed_43 ⟨Nat.le_of_ble_eq_true rfl, Nat.le_of_ble_eq_true rfl⟩) hS (fun _ _ h => h) (fun _ h => h) (fun x20 u8 t8 H locs ht _ hpx20 hB _ _ hS => ?_)
  obtain ⟨L, hP, hD, hSh⟩ := hB
  rw [ht] at hP
  clear ht
  subst hpx20
  refine lv_if_eq (tgt := 67) hx hb d_Ru_feed_46 (by decide) (fun _ => ?_) (fun h => absurd (by decide +kernel) h)
  refine lv_aload hx hb d_Ru_feed_67 (lv_at hl 0 rfl) ?_
  refine lv_iload_n hx hb d_Ru_feed_69 rfl (lv_at hl 3 rfl) ?_
  refine lv_aload_n hx hb d_Ru_feed_70 rfl (lv_at hl 1 rfl) ?_
  have he21 := rd_R0 hSh
  refine va_get (C := R_Ru) (T := T_Ru) (N := 2) (v := .ref (aw_r ad 2)) hx hb hG in_Ru hown hK hP 0 he21 rfl 1 (by decide) (hG _ gw_2_29) (fun _ h => h) rfl d_Ru_feed_71 ?_
  refine lv_iload_n hx hb d_Ru_feed_74 rfl (lv_at hl 4 rfl) ?_
  refine lv_iload hx hb d_Ru_feed_75 (lv_at hl 5 rfl) ?_
  obtain ⟨_, _, _, _, _, _, _, he22⟩ := rd_C0 hSh hj
  refine va_calli (va_runV (As := [.int bk, .ref (aw_r ad 2), .int fr, .int (nI 0)]) (rest := []) ⟨hx, hb, hml, hown, hG⟩ (k_Cx_feedBytes0 l D g ad G M F N0 j bk fr hj hm) (aw_wV 4 hG gw_7_57 gw_7_54 gw_0_2 gw_7_55 gw_7_56 rfl rfl hd_Cx_feedBytes ⟨Nat.le_of_ble_eq_true rfl, Nat.le_of_ble_eq_true rfl⟩) (aw_qV (va_recv hK hP rfl he22) hP hD hSh hU hS) rfl rfl hl.1 rfl (lv_room (Nat.le_of_ble_eq_true rfl)) d_Ru_feed_77 ⟨Nat.le_of_ble_eq_true rfl, Nat.le_of_ble_eq_true rfl⟩) hS (fun _ _ h => h) (fun _ h => h) (fun x23 u8 t8 H locs ht _ _ hB _ _ hS => ?_)
  obtain ⟨L, hP, hD, hSh⟩ := hB
  rw [ht] at hP
  clear ht
  exact W.iret hx hb hr (fun t ht hW => ⟨⟨_, (), rfl, trivial, aw_Hr ht hP hD hSh⟩, hS.F ht⟩) hS.2.2 d_Ru_feed_80
abbrev ws_Ru_feed11 : List Cond := Cond.code y_Ru_feed b_Ru_feed 6 (some .int) :: aw_G
abbrev rm_Ru_feed11 : Room := { frames := 6, cells := 0, slots := 0, locals := 151 }
set_option maxHeartbeats 4000000 in
set_option maxRecDepth 100000 in
theorem k_Ru_feed11 (l : Launch) (D : va_G) (g : Nat → ClassId) (ad : Nat → Nat) (G M : Nat → Nat × Nat) (F : Int32) (N0 : Nat) (j : Nat) (bk : Int32) (k : Nat) (mm : Nat) (hj : j < 4) (h0 : 0 < mm) (hk : k + mm ≤ 64) (hs : (G j).1 = 3) (hm : 2 ≤ (G j).2) (hm5 : (G j).2 ≤ 4) : Met l y_Ru_feed ws_Ru_feed11 rm_Ru_feed11 (va_Pc ([.ref (aw_r ad 0), .int (nI j), .int bk, .int (nI k), .int (nI mm)] : List Value) (aw_B D g ad G M F N0)) (va_Qi (fun r (_ : Unit) => True) (fun (_ : Unit) t => aw_H D g ad G M F N0 t.heap) (aw_Z N0)) 0 0 (aw_Z N0) := by
  refine Met.ofW (cc := b_Ru_feed) (maxL := 6) (ret := (some .int)) (by decide) rfl ?_
  intro p e s m args below meth c s₁ B hml hv
  obtain ⟨rfl, ⟨L, hP, hD, hSh⟩, hU⟩ := hv
  have hx := B.exec
  have hb := B.bytes
  have hr := B.returns
  have hG : ∀ w ∈ aw_G, w.before _ s = true := fun w h => atoms_spec (ws := ws_Ru_feed11) B.pre w (List.mem_cons_of_mem _ h)
  have hown : s.vm.findClass "RuleCiphers" = some m.cls := findClass_of_methodNamed B.named
  have hlocks := B.notSynchronized
  have hE := hU.1
  have hK := hE.1
  have hN := hE.2.1
  have hS : va_S (aw_Z N0) s.heap s.heap [] := va_S.rf
  have hl := lv_entry ([.ref (aw_r ad 0), .int (nI j), .int bk, .int (nI k), .int (nI mm)] : List Value) (n := 6) (Nat.le_of_ble_eq_true rfl)
  rw [lg_entry_eq]
  generalize (lg_sl ([.ref (aw_r ad 0), .int (nI j), .int bk, .int (nI k), .int (nI mm)] : List Value) ++ List.replicate (6 - (lg_sl ([.ref (aw_r ad 0), .int (nI j), .int bk, .int (nI k), .int (nI mm)] : List Value)).length) Slot.unset).toArray = ls at hl ⊢
  have hl : lv_has ls 6 [(0, .ref (aw_r ad 0)), (1, .int (nI j)), (2, .int bk), (3, .int (nI k)), (4, .int (nI mm))] := hl
  refine lv_aload_n hx hb d_Ru_feed_0 rfl (lv_at hl 0 rfl) ?_
  refine lv_iload_n hx hb d_Ru_feed_1 rfl (lv_at hl 1 rfl) ?_
  have he1 := rd_R0 hSh
  refine va_callr (va_runV (As := [.int (nI j)]) (rest := []) ⟨hx, hb, hml, hown, hG⟩ (k_Ru_contextAt1 l D g ad G M F N0 j hj) (aw_wV 1 hG gw_2_47 gw_2_45 gw_0_1 gw_2_46 gw_p_0 rfl rfl hd_Ru_contextAt ⟨Nat.le_of_ble_eq_true rfl, Nat.le_of_ble_eq_true rfl⟩) (aw_qV (va_recv hK hP rfl he1) hP hD hSh hU hS) rfl rfl hl.1 rfl (lv_room (Nat.le_of_ble_eq_true rfl)) d_Ru_feed_2 ⟨Nat.le_of_ble_eq_true rfl, Nat.le_of_ble_eq_true rfl⟩) hS (fun _ _ h => h) (fun _ h => h) (fun u8 q2 t8 H locs ht _ _ hB _ _ hS => ?_)
  obtain ⟨eq2, hB⟩ := hB
  obtain ⟨L, hP, hD, hSh⟩ := hB
  rw [ht] at hP
  clear ht
  subst eq2
  refine lv_astore hx hb d_Ru_feed_5 hl (by decide) rfl (fun ls hl => ?_)
  have hl : lv_has ls 6 [(5, .ref (aw_c ad j 0)), (0, .ref (aw_r ad 0)), (1, .int (nI j)), (2, .int bk), (3, .int (nI k)), (4, .int (nI mm))] := hl
  refine lv_iload_n hx hb d_Ru_feed_7 rfl (lv_at hl 4 rfl) ?_
  refine lv_iload hx hb d_Ru_feed_8 (lv_at hl 5 rfl) ?_
  refine aw_cv ((va_runS (As := [.int (nI k), .int (nI mm)]) (rest := []) ⟨hx, hb, hml, hown, hG⟩ (k_Ru_requireInBuffer1 l k mm h0 hk) (aw_wS 2 hG gw_7_49 gw_7_47 gw_0_1 gw_7_48 rfl rfl hd_Ru_requireInBuffer ⟨Nat.le_of_ble_eq_true rfl, Nat.le_of_ble_eq_true rfl⟩) aw_p0 rfl rfl hl.1 rfl (lv_room (Nat.le_of_ble_eq_true rfl)) d_Ru_feed_10 ⟨Nat.le_of_ble_eq_true rfl, Nat.le_of_ble_eq_true rfl⟩).run) ?_
  refine lv_aload hx hb d_Ru_feed_13 (lv_at hl 0 rfl) ?_
  obtain ⟨o4, y5, y6, y7, x8, x9, ho10, he3⟩ := rd_C0 hSh hj
  have hg := hSh.2.2.2.2.1 j hj
  refine va_get (C := R_Cx) (T := T_Cx) (N := 10) (v := .int (nI ((G j).1))) hx hb hG in_Cx hown hK hP (3 + 16 * j + 0) he3 rfl 2 (by decide) (hG _ gw_1_57) (fun _ h => h) rfl d_Ru_feed_15 ?_
  refine lv_iconst (v := nI 3) hx hb d_Ru_feed_18 (by decide +kernel) ?_
  refine lv_icmp_ne (tgt := 31) hx hb d_Ru_feed_19 (by decide) (fun h => absurd (show nI ((G j).1) = nI 3 from (nI_eq (by omega) (by omega)).mpr (by omega)) h) (fun _ => ?_)
  refine lv_aload hx hb d_Ru_feed_22 (lv_at hl 0 rfl) ?_
  obtain ⟨o12, y13, y14, y15, x16, x17, ho18, he11⟩ := rd_C0 hSh hj
  have hg := hSh.2.2.2.2.1 j hj
  refine va_get (C := R_Cx) (T := T_Cx) (N := 10) (v := .int (nI ((G j).2))) hx hb hG in_Cx hown hK hP (3 + 16 * j + 0) he11 rfl 3 (by decide) (hG _ gw_1_59) (fun _ h => h) rfl d_Ru_feed_24 ?_
  refine lv_iconst (v := nI 5) hx hb d_Ru_feed_27 (by decide +kernel) ?_
  refine lv_icmp_ne (tgt := 41) hx hb d_Ru_feed_28 (by decide) (fun _ => ?_) (fun h => absurd h (show ¬ nI ((G j).2) = nI 5 from fun h9 => absurd ((nI_eq (by omega) (by omega)).mp h9) (by omega)))
  refine lv_aload hx hb d_Ru_feed_41 (lv_at hl 0 rfl) ?_
  obtain ⟨_, _, _, _, _, _, _, he19⟩ := rd_C0 hSh hj
  refine va_calli (va_runV (As := []) (rest := []) ⟨hx, hb, hml, hown, hG⟩ (k_Cx_feedsWholeBlocks0 l D g ad G M F N0 j hj hm) (aw_wV 0 hG gw_7_53 gw_7_50 gw_0_2 gw_7_51 gw_7_52 rfl rfl hd_Cx_feedsWholeBlocks ⟨Nat.le_of_ble_eq_true rfl, Nat.le_of_ble_eq_true rfl⟩) (aw_qV (va_recv hK hP rfl he19) hP hD hSh hU hS) rfl rfl hl.1 rfl (lv_room (Nat.le_of_ble_eq_true rfl)) d_Ru_feed_43 ⟨Nat.le_of_ble_eq_true rfl, Nat.le_of_ble_eq_true rfl⟩) hS (fun _ _ h => h) (fun _ h => h) (fun x20 u8 t8 H locs ht _ hpx20 hB _ _ hS => ?_)
  obtain ⟨L, hP, hD, hSh⟩ := hB
  rw [ht] at hP
  clear ht
  subst hpx20
  refine lv_if_eq (tgt := 67) hx hb d_Ru_feed_46 (by decide) (fun _ => ?_) (fun h => absurd (by decide +kernel) h)
  refine lv_aload hx hb d_Ru_feed_67 (lv_at hl 0 rfl) ?_
  refine lv_iload_n hx hb d_Ru_feed_69 rfl (lv_at hl 3 rfl) ?_
  refine lv_aload_n hx hb d_Ru_feed_70 rfl (lv_at hl 1 rfl) ?_
  have he21 := rd_R0 hSh
  refine va_get (C := R_Ru) (T := T_Ru) (N := 2) (v := .ref (aw_r ad 2)) hx hb hG in_Ru hown hK hP 0 he21 rfl 1 (by decide) (hG _ gw_2_29) (fun _ h => h) rfl d_Ru_feed_71 ?_
  refine lv_iload_n hx hb d_Ru_feed_74 rfl (lv_at hl 4 rfl) ?_
  refine lv_iload hx hb d_Ru_feed_75 (lv_at hl 5 rfl) ?_
  obtain ⟨_, _, _, _, _, _, _, he22⟩ := rd_C0 hSh hj
  refine va_calli (va_runV (As := [.int bk, .ref (aw_r ad 2), .int (nI k), .int (nI mm)]) (rest := []) ⟨hx, hb, hml, hown, hG⟩ (k_Cx_feedBytes1 l D g ad G M F N0 j bk k mm hj hm hk) (aw_wV 4 hG gw_7_57 gw_7_54 gw_0_2 gw_7_55 gw_7_56 rfl rfl hd_Cx_feedBytes ⟨Nat.le_of_ble_eq_true rfl, Nat.le_of_ble_eq_true rfl⟩) (aw_qV (va_recv hK hP rfl he22) hP hD hSh hU hS) rfl rfl hl.1 rfl (lv_room (Nat.le_of_ble_eq_true rfl)) d_Ru_feed_77 ⟨Nat.le_of_ble_eq_true rfl, Nat.le_of_ble_eq_true rfl⟩) hS (fun _ _ h => h) (fun _ h => h) (fun x23 u8 t8 H locs ht _ _ hB _ _ hS => ?_)
  obtain ⟨L, hP, hD, hSh⟩ := hB
  rw [ht] at hP
  clear ht
  exact W.iret hx hb hr (fun t ht hW => ⟨⟨_, (), rfl, trivial, aw_Hr ht hP hD hSh⟩, hS.F ht⟩) hS.2.2 d_Ru_feed_80
abbrev ws_Ru_feed18 : List Cond := Cond.code y_Ru_feed b_Ru_feed 6 (some .int) :: aw_G
abbrev rm_Ru_feed18 : Room := { frames := 6, cells := 0, slots := 0, locals := 153 }
set_option maxHeartbeats 4000000 in
set_option maxRecDepth 100000 in
theorem k_Ru_feed18 (l : Launch) (D : va_G) (g : Nat → ClassId) (ad : Nat → Nat) (G M : Nat → Nat × Nat) (F : Int32) (N0 : Nat) (j : Nat) (bk : Int32) (k : Nat) (mm : Nat) (hj : j < 4) (h0 : 0 < mm) (hk : k + 8 * mm ≤ 64) (hs : (G j).1 = 3) (hm : (G j).2 ≤ 1) : Met l y_Ru_feed ws_Ru_feed18 rm_Ru_feed18 (va_Pc ([.ref (aw_r ad 0), .int (nI j), .int bk, .int (nI k), .int (nI (8 * mm))] : List Value) (aw_B D g ad G M F N0)) (va_Qi (fun r (_ : Unit) => True) (fun (_ : Unit) t => aw_H D g ad G M F N0 t.heap) (aw_Z N0)) 0 0 (aw_Z N0) := by
  refine Met.ofW (cc := b_Ru_feed) (maxL := 6) (ret := (some .int)) (by decide) rfl ?_
  intro p e s m args below meth c s₁ B hml hv
  obtain ⟨rfl, ⟨L, hP, hD, hSh⟩, hU⟩ := hv
  have hx := B.exec
  have hb := B.bytes
  have hr := B.returns
  have hG : ∀ w ∈ aw_G, w.before _ s = true := fun w h => atoms_spec (ws := ws_Ru_feed18) B.pre w (List.mem_cons_of_mem _ h)
  have hown : s.vm.findClass "RuleCiphers" = some m.cls := findClass_of_methodNamed B.named
  have hlocks := B.notSynchronized
  have hE := hU.1
  have hK := hE.1
  have hN := hE.2.1
  have hS : va_S (aw_Z N0) s.heap s.heap [] := va_S.rf
  have hl := lv_entry ([.ref (aw_r ad 0), .int (nI j), .int bk, .int (nI k), .int (nI (8 * mm))] : List Value) (n := 6) (Nat.le_of_ble_eq_true rfl)
  rw [lg_entry_eq]
  generalize (lg_sl ([.ref (aw_r ad 0), .int (nI j), .int bk, .int (nI k), .int (nI (8 * mm))] : List Value) ++ List.replicate (6 - (lg_sl ([.ref (aw_r ad 0), .int (nI j), .int bk, .int (nI k), .int (nI (8 * mm))] : List Value)).length) Slot.unset).toArray = ls at hl ⊢
  have hl : lv_has ls 6 [(0, .ref (aw_r ad 0)), (1, .int (nI j)), (2, .int bk), (3, .int (nI k)), (4, .int (nI (8 * mm)))] := hl
  refine lv_aload_n hx hb d_Ru_feed_0 rfl (lv_at hl 0 rfl) ?_
  refine lv_iload_n hx hb d_Ru_feed_1 rfl (lv_at hl 1 rfl) ?_
  have he1 := rd_R0 hSh
  refine va_callr (va_runV (As := [.int (nI j)]) (rest := []) ⟨hx, hb, hml, hown, hG⟩ (k_Ru_contextAt1 l D g ad G M F N0 j hj) (aw_wV 1 hG gw_2_47 gw_2_45 gw_0_1 gw_2_46 gw_p_0 rfl rfl hd_Ru_contextAt ⟨Nat.le_of_ble_eq_true rfl, Nat.le_of_ble_eq_true rfl⟩) (aw_qV (va_recv hK hP rfl he1) hP hD hSh hU hS) rfl rfl hl.1 rfl (lv_room (Nat.le_of_ble_eq_true rfl)) d_Ru_feed_2 ⟨Nat.le_of_ble_eq_true rfl, Nat.le_of_ble_eq_true rfl⟩) hS (fun _ _ h => h) (fun _ h => h) (fun u8 q2 t8 H locs ht _ _ hB _ _ hS => ?_)
  obtain ⟨eq2, hB⟩ := hB
  obtain ⟨L, hP, hD, hSh⟩ := hB
  rw [ht] at hP
  clear ht
  subst eq2
  refine lv_astore hx hb d_Ru_feed_5 hl (by decide) rfl (fun ls hl => ?_)
  have hl : lv_has ls 6 [(5, .ref (aw_c ad j 0)), (0, .ref (aw_r ad 0)), (1, .int (nI j)), (2, .int bk), (3, .int (nI k)), (4, .int (nI (8 * mm)))] := hl
  refine lv_iload_n hx hb d_Ru_feed_7 rfl (lv_at hl 4 rfl) ?_
  refine lv_iload hx hb d_Ru_feed_8 (lv_at hl 5 rfl) ?_
  refine aw_cv ((va_runS (As := [.int (nI k), .int (nI (8 * mm))]) (rest := []) ⟨hx, hb, hml, hown, hG⟩ (k_Ru_requireInBuffer1 l k (8 * mm) (by omega) (by omega)) (aw_wS 2 hG gw_7_49 gw_7_47 gw_0_1 gw_7_48 rfl rfl hd_Ru_requireInBuffer ⟨Nat.le_of_ble_eq_true rfl, Nat.le_of_ble_eq_true rfl⟩) aw_p0 rfl rfl hl.1 rfl (lv_room (Nat.le_of_ble_eq_true rfl)) d_Ru_feed_10 ⟨Nat.le_of_ble_eq_true rfl, Nat.le_of_ble_eq_true rfl⟩).run) ?_
  refine lv_aload hx hb d_Ru_feed_13 (lv_at hl 0 rfl) ?_
  obtain ⟨o4, y5, y6, y7, x8, x9, ho10, he3⟩ := rd_C0 hSh hj
  have hg := hSh.2.2.2.2.1 j hj
  refine va_get (C := R_Cx) (T := T_Cx) (N := 10) (v := .int (nI ((G j).1))) hx hb hG in_Cx hown hK hP (3 + 16 * j + 0) he3 rfl 2 (by decide) (hG _ gw_1_57) (fun _ h => h) rfl d_Ru_feed_15 ?_
  refine lv_iconst (v := nI 3) hx hb d_Ru_feed_18 (by decide +kernel) ?_
  refine lv_icmp_ne (tgt := 31) hx hb d_Ru_feed_19 (by decide) (fun h => absurd (show nI ((G j).1) = nI 3 from (nI_eq (by omega) (by omega)).mpr (by omega)) h) (fun _ => ?_)
  refine lv_aload hx hb d_Ru_feed_22 (lv_at hl 0 rfl) ?_
  obtain ⟨o12, y13, y14, y15, x16, x17, ho18, he11⟩ := rd_C0 hSh hj
  have hg := hSh.2.2.2.2.1 j hj
  refine va_get (C := R_Cx) (T := T_Cx) (N := 10) (v := .int (nI ((G j).2))) hx hb hG in_Cx hown hK hP (3 + 16 * j + 0) he11 rfl 3 (by decide) (hG _ gw_1_59) (fun _ h => h) rfl d_Ru_feed_24 ?_
  refine lv_iconst (v := nI 5) hx hb d_Ru_feed_27 (by decide +kernel) ?_
  refine lv_icmp_ne (tgt := 41) hx hb d_Ru_feed_28 (by decide) (fun _ => ?_) (fun h => absurd h (show ¬ nI ((G j).2) = nI 5 from fun h9 => absurd ((nI_eq (by omega) (by omega)).mp h9) (by omega)))
  refine lv_aload hx hb d_Ru_feed_41 (lv_at hl 0 rfl) ?_
  obtain ⟨_, _, _, _, _, _, _, he19⟩ := rd_C0 hSh hj
  refine va_calli (va_runV (As := []) (rest := []) ⟨hx, hb, hml, hown, hG⟩ (k_Cx_feedsWholeBlocks1 l D g ad G M F N0 j hj hm) (aw_wV 0 hG gw_7_53 gw_7_50 gw_0_2 gw_7_51 gw_7_52 rfl rfl hd_Cx_feedsWholeBlocks ⟨Nat.le_of_ble_eq_true rfl, Nat.le_of_ble_eq_true rfl⟩) (aw_qV (va_recv hK hP rfl he19) hP hD hSh hU hS) rfl rfl hl.1 rfl (lv_room (Nat.le_of_ble_eq_true rfl)) d_Ru_feed_43 ⟨Nat.le_of_ble_eq_true rfl, Nat.le_of_ble_eq_true rfl⟩) hS (fun _ _ h => h) (fun _ h => h) (fun x20 u8 t8 H locs ht _ hpx20 hB _ _ hS => ?_)
  obtain ⟨L, hP, hD, hSh⟩ := hB
  rw [ht] at hP
  clear ht
  subst hpx20
  refine lv_if_eq (tgt := 67) hx hb d_Ru_feed_46 (by decide) (fun h => absurd h (by decide +kernel)) (fun _ => ?_)
  refine lv_iload hx hb d_Ru_feed_49 (lv_at hl 5 rfl) ?_
  refine lv_bipush (v := nI 8) hx hb d_Ru_feed_51 (by decide +kernel) ?_
  refine lv_irem hx hb d_Ru_feed_53 (by decide +kernel) ?_
  refine aw_ti (pk_rem (a := (8 * mm)) (d := 8) (by omega) (by omega) (by omega)) ?_
  refine lv_if_eq (tgt := 67) hx hb d_Ru_feed_54 (by decide) (fun _ => ?_) (fun h => absurd (show nI ((8 * mm) % 8) = nI 0 from (nI_eq (by omega) (by omega)).mpr (by omega)) h)
  refine lv_aload hx hb d_Ru_feed_67 (lv_at hl 0 rfl) ?_
  refine lv_iload_n hx hb d_Ru_feed_69 rfl (lv_at hl 3 rfl) ?_
  refine lv_aload_n hx hb d_Ru_feed_70 rfl (lv_at hl 1 rfl) ?_
  have he21 := rd_R0 hSh
  refine va_get (C := R_Ru) (T := T_Ru) (N := 2) (v := .ref (aw_r ad 2)) hx hb hG in_Ru hown hK hP 0 he21 rfl 1 (by decide) (hG _ gw_2_29) (fun _ h => h) rfl d_Ru_feed_71 ?_
  refine lv_iload_n hx hb d_Ru_feed_74 rfl (lv_at hl 4 rfl) ?_
  refine lv_iload hx hb d_Ru_feed_75 (lv_at hl 5 rfl) ?_
  obtain ⟨_, _, _, _, _, _, _, he22⟩ := rd_C0 hSh hj
  refine va_calli (va_runV (As := [.int bk, .ref (aw_r ad 2), .int (nI k), .int (nI (8 * mm))]) (rest := []) ⟨hx, hb, hml, hown, hG⟩ (k_Cx_feedBytes8 l D g ad G M F N0 j bk k mm hj hm hk) (aw_wV 4 hG gw_7_57 gw_7_54 gw_0_2 gw_7_55 gw_7_56 rfl rfl hd_Cx_feedBytes ⟨Nat.le_of_ble_eq_true rfl, Nat.le_of_ble_eq_true rfl⟩) (aw_qV (va_recv hK hP rfl he22) hP hD hSh hU hS) rfl rfl hl.1 rfl (lv_room (Nat.le_of_ble_eq_true rfl)) d_Ru_feed_77 ⟨Nat.le_of_ble_eq_true rfl, Nat.le_of_ble_eq_true rfl⟩) hS (fun _ _ h => h) (fun _ h => h) (fun x23 u8 t8 H locs ht _ _ hB _ _ hS => ?_)
  obtain ⟨L, hP, hD, hSh⟩ := hB
  rw [ht] at hP
  clear ht
  exact W.iret hx hb hr (fun t ht hW => ⟨⟨_, (), rfl, trivial, aw_Hr ht hP hD hSh⟩, hS.F ht⟩) hS.2.2 d_Ru_feed_80
abbrev ws_Ru_seek1 : List Cond := Cond.code y_Ru_seek b_Ru_seek 5 none :: aw_G
abbrev rm_Ru_seek1 : Room := { frames := 1, cells := 0, slots := 0, locals := 22 }
set_option maxHeartbeats 4000000 in
set_option maxRecDepth 100000 in
theorem k_Ru_seek1 (l : Launch) (D : va_G) (g : Nat → ClassId) (ad : Nat → Nat) (G M : Nat → Nat × Nat) (F : Int32) (N0 : Nat) (j : Nat) (b : Int64) (hj : j < 4) (hs : (G j).1 = 3 ∧ (G j).2 = 4) : Met l y_Ru_seek ws_Ru_seek1 rm_Ru_seek1 (va_Pc ([.ref (aw_r ad 0), .int (nI j), .long b] : List Value) (aw_B D g ad G M F N0)) (va_Qv (fun (_ : Unit) => True) (fun (_ : Unit) t => aw_H D g ad G M F N0 t.heap) (aw_Z N0)) 0 0 (aw_Z N0) := by
  refine Met.ofW (cc := b_Ru_seek) (maxL := 5) (ret := none) (by decide) rfl ?_
  intro p e s m args below meth c s₁ B hml hv
  obtain ⟨rfl, ⟨L, hP, hD, hSh⟩, hU⟩ := hv
  have hx := B.exec
  have hb := B.bytes
  have hr := B.returns
  have hG : ∀ w ∈ aw_G, w.before _ s = true := fun w h => atoms_spec (ws := ws_Ru_seek1) B.pre w (List.mem_cons_of_mem _ h)
  have hown : s.vm.findClass "RuleCiphers" = some m.cls := findClass_of_methodNamed B.named
  have hlocks := B.notSynchronized
  have hE := hU.1
  have hK := hE.1
  have hN := hE.2.1
  have hS : va_S (aw_Z N0) s.heap s.heap [] := va_S.rf
  have hl := lv_entry ([.ref (aw_r ad 0), .int (nI j), .long b] : List Value) (n := 5) (Nat.le_of_ble_eq_true rfl)
  rw [lg_entry_eq]
  generalize (lg_sl ([.ref (aw_r ad 0), .int (nI j), .long b] : List Value) ++ List.replicate (5 - (lg_sl ([.ref (aw_r ad 0), .int (nI j), .long b] : List Value)).length) Slot.unset).toArray = ls at hl ⊢
  have hl : lv_has ls 5 [(0, .ref (aw_r ad 0)), (1, .int (nI j)), (2, .long b)] := hl
  refine lv_aload_n hx hb d_Ru_seek_0 rfl (lv_at hl 0 rfl) ?_
  refine lv_iload_n hx hb d_Ru_seek_1 rfl (lv_at hl 1 rfl) ?_
  have he1 := rd_R0 hSh
  refine va_callr (va_runV (As := [.int (nI j)]) (rest := []) ⟨hx, hb, hml, hown, hG⟩ (k_Ru_contextAt1 l D g ad G M F N0 j hj) (aw_wV 1 hG gw_2_47 gw_2_45 gw_0_1 gw_2_46 gw_p_0 rfl rfl hd_Ru_contextAt ⟨Nat.le_of_ble_eq_true rfl, Nat.le_of_ble_eq_true rfl⟩) (aw_qV (va_recv hK hP rfl he1) hP hD hSh hU hS) rfl rfl hl.1 rfl (lv_room (Nat.le_of_ble_eq_true rfl)) d_Ru_seek_2 ⟨Nat.le_of_ble_eq_true rfl, Nat.le_of_ble_eq_true rfl⟩) hS (fun _ _ h => h) (fun _ h => h) (fun u8 q2 t8 H locs ht _ _ hB _ _ hS => ?_)
  obtain ⟨eq2, hB⟩ := hB
  obtain ⟨L, hP, hD, hSh⟩ := hB
  rw [ht] at hP
  clear ht
  subst eq2
  refine lv_astore hx hb d_Ru_seek_5 hl (by decide) rfl (fun ls hl => ?_)
  have hl : lv_has ls 5 [(4, .ref (aw_c ad j 0)), (0, .ref (aw_r ad 0)), (1, .int (nI j)), (2, .long b)] := hl
  refine lv_aload hx hb d_Ru_seek_7 (lv_at hl 0 rfl) ?_
  refine lv_iconst (v := nI 4) hx hb d_Ru_seek_9 (by decide +kernel) ?_
  refine va_callv (va_runS (As := [.ref (aw_c ad j 0), .int (nI 4)]) (rest := []) ⟨hx, hb, hml, hown, hG⟩ (k_Ru_requireMode4 l D g ad G M F N0 j hj hs) (aw_wS 2 hG gw_8_33 gw_8_31 gw_0_1 gw_8_32 rfl rfl hd_Ru_requireMode ⟨Nat.le_of_ble_eq_true rfl, Nat.le_of_ble_eq_true rfl⟩) (aw_qS hP hD hSh hU hS) rfl rfl hl.1 rfl (lv_room (Nat.le_of_ble_eq_true rfl)) d_Ru_seek_10 ⟨Nat.le_of_ble_eq_true rfl, Nat.le_of_ble_eq_true rfl⟩) hS (fun _ _ h => h) (fun _ h => h) (fun u8 t8 H locs ht _ _ hB _ _ hS => ?_)
  obtain ⟨L, hP, hD, hSh⟩ := hB
  rw [ht] at hP
  clear ht
  refine lv_aload hx hb d_Ru_seek_13 (lv_at hl 0 rfl) ?_
  refine lv_lload_n hx hb d_Ru_seek_15 rfl (lv_at hl 3 rfl) ?_
  obtain ⟨_, _, _, _, _, _, _, he3⟩ := rd_C0 hSh hj
  refine va_callv (va_runV (As := [.long b]) (rest := []) ⟨hx, hb, hml, hown, hG⟩ (k_Cx_goToBlock l D g ad G M F N0 j b hj) (aw_wV 1 hG gw_8_37 gw_8_34 gw_0_2 gw_8_35 gw_8_36 rfl rfl hd_Cx_goToBlock ⟨Nat.le_of_ble_eq_true rfl, Nat.le_of_ble_eq_true rfl⟩) (aw_qV (va_recv hK hP rfl he3) hP hD hSh hU hS) rfl rfl hl.1 rfl (lv_room (Nat.le_of_ble_eq_true rfl)) d_Ru_seek_16 ⟨Nat.le_of_ble_eq_true rfl, Nat.le_of_ble_eq_true rfl⟩) hS (fun _ _ h => h) (fun _ h => h) (fun u8 t8 H locs ht _ _ hB _ _ hS => ?_)
  obtain ⟨L, hP, hD, hSh⟩ := hB
  rw [ht] at hP
  clear ht
  exact W.vret hx hb hr (fun t ht hW => ⟨⟨(), rfl, trivial, aw_Hr ht hP hD hSh⟩, hS.F ht⟩) hS.2.2 d_Ru_seek_19
abbrev ws_Ru_seekXc : List Cond := Cond.code y_Ru_seek b_Ru_seek 5 none :: aw_G
abbrev rm_Ru_seekXc : Room := { frames := 7, cells := 1, slots := 6, locals := 111 }
set_option maxHeartbeats 4000000 in
set_option maxRecDepth 100000 in
theorem k_Ru_seekXc (l : Launch) (hst : l.stackTraces = false) (D : va_G) (g : Nat → ClassId) (ad : Nat → Nat) (G M : Nat → Nat × Nat) (F : Int32) (N0 : Nat) (c0 : Int32) (b : Int64) (hc : c0 < 0 ∨ (¬ c0 < 0 ∧ ¬ c0 < nI 4)) : vx_Met l y_Ru_seek ws_Ru_seekXc rm_Ru_seekXc (va_Pc ([.ref (aw_r ad 0), .int c0, .long b] : List Value) (aw_B D g ad G M F N0)) (va_Qv (fun (_ : Unit) => False) (fun (_ : Unit) _ => True) (aw_Z N0)) (vx_X (fun (_ : Unit) => True) (fun E (_ : Unit) t => E = "java/lang/IndexOutOfBoundsException" ∧ aw_H D g ad G M F N0 t.heap) (aw_Z N0)) 1 6 (aw_Z N0) := by
  refine vx_ofW (cc := b_Ru_seek) (maxL := 5) (ret := none) (by decide) rfl ?_
  intro p e s m args below meth c s₁ B hml hex hv
  obtain ⟨rfl, ⟨L, hP, hD, hSh⟩, hU⟩ := hv
  have hx := B.exec
  have hb := B.bytes
  have hr := B.returns
  have hG : ∀ w ∈ aw_G, w.before _ s = true := fun w h => atoms_spec (ws := ws_Ru_seekXc) B.pre w (List.mem_cons_of_mem _ h)
  have hown : s.vm.findClass "RuleCiphers" = some m.cls := findClass_of_methodNamed B.named
  have hlocks := B.notSynchronized
  have hE := hU.1
  have hK := hE.1
  have hN := hE.2.1
  have hS : va_S (aw_Z N0) s.heap s.heap [] := va_S.rf
  have hl := lv_entry ([.ref (aw_r ad 0), .int c0, .long b] : List Value) (n := 5) (Nat.le_of_ble_eq_true rfl)
  rw [lg_entry_eq]
  generalize (lg_sl ([.ref (aw_r ad 0), .int c0, .long b] : List Value) ++ List.replicate (5 - (lg_sl ([.ref (aw_r ad 0), .int c0, .long b] : List Value)).length) Slot.unset).toArray = ls at hl ⊢
  have hl : lv_has ls 5 [(0, .ref (aw_r ad 0)), (1, .int c0), (2, .long b)] := hl
  refine lv_aload_n hx hb d_Ru_seek_0 rfl (lv_at hl 0 rfl) ?_
  refine lv_iload_n hx hb d_Ru_seek_1 rfl (lv_at hl 1 rfl) ?_
  have he1 := rd_R0 hSh
  refine vx_callv (vx_runV (As := [.int c0]) (rest := []) ⟨hx, hb, hml, hown, hG⟩ (k_Ru_contextAtX l hst D g ad G M F N0 c0 hc) (aw_wV 1 hG gw_2_47 gw_2_45 gw_0_1 gw_2_46 gw_p_0 rfl rfl hd_Ru_contextAt ⟨Nat.le_of_ble_eq_true rfl, Nat.le_of_ble_eq_true rfl⟩) (aw_qV (va_recv hK hP rfl he1) hP hD hSh hU hS) rfl rfl hl.1 rfl (lv_room (Nat.le_of_ble_eq_true rfl)) d_Ru_seek_2 ⟨Nat.le_of_ble_eq_true rfl, Nat.le_of_ble_eq_true rfl⟩) hS (fun _ _ h => h) (fun _ h => h) (fun _ _ h => h) (fun E ce q9 u t H locs ht _ _ hBX _ _ hS hce hcv hcl => ?_) (fun u t H locs _ _ hF _ _ _ _ => hF.elim)
  obtain ⟨rfl, L, hP, hD, hSh⟩ := hBX
  rw [ht] at hP
  exact vx_out (fun x h => (hex x h).elim) hlocks hce hcv hcl (fun t9 ht9 _ => ⟨(), trivial, ⟨rfl, aw_Hr ht9 hP hD hSh⟩, hS.F ht9⟩) hS.2.2 (Nat.le_of_ble_eq_true rfl) (Nat.le_of_ble_eq_true rfl)
abbrev ws_Ru_seekXs : List Cond := Cond.code y_Ru_seek b_Ru_seek 5 none :: aw_G
abbrev rm_Ru_seekXs : Room := { frames := 7, cells := 1, slots := 6, locals := 111 }
set_option maxHeartbeats 4000000 in
set_option maxRecDepth 100000 in
theorem k_Ru_seekXs (l : Launch) (hst : l.stackTraces = false) (D : va_G) (g : Nat → ClassId) (ad : Nat → Nat) (G M : Nat → Nat × Nat) (F : Int32) (N0 : Nat) (j : Nat) (b : Int64) (hj : j < 4) (hs : (G j).1 ≤ 2 ∨ ((G j).1 = 3 ∧ (G j).2 ≠ 4)) : vx_Met l y_Ru_seek ws_Ru_seekXs rm_Ru_seekXs (va_Pc ([.ref (aw_r ad 0), .int (nI j), .long b] : List Value) (aw_B D g ad G M F N0)) (va_Qv (fun (_ : Unit) => False) (fun (_ : Unit) _ => True) (aw_Z N0)) (vx_X (fun (_ : Unit) => True) (fun E (_ : Unit) t => E = "java/lang/IllegalStateException" ∧ aw_H D g ad G M F N0 t.heap) (aw_Z N0)) 1 6 (aw_Z N0) := by
  refine vx_ofW (cc := b_Ru_seek) (maxL := 5) (ret := none) (by decide) rfl ?_
  intro p e s m args below meth c s₁ B hml hex hv
  obtain ⟨rfl, ⟨L, hP, hD, hSh⟩, hU⟩ := hv
  have hx := B.exec
  have hb := B.bytes
  have hr := B.returns
  have hG : ∀ w ∈ aw_G, w.before _ s = true := fun w h => atoms_spec (ws := ws_Ru_seekXs) B.pre w (List.mem_cons_of_mem _ h)
  have hown : s.vm.findClass "RuleCiphers" = some m.cls := findClass_of_methodNamed B.named
  have hlocks := B.notSynchronized
  have hE := hU.1
  have hK := hE.1
  have hN := hE.2.1
  have hS : va_S (aw_Z N0) s.heap s.heap [] := va_S.rf
  have hl := lv_entry ([.ref (aw_r ad 0), .int (nI j), .long b] : List Value) (n := 5) (Nat.le_of_ble_eq_true rfl)
  rw [lg_entry_eq]
  generalize (lg_sl ([.ref (aw_r ad 0), .int (nI j), .long b] : List Value) ++ List.replicate (5 - (lg_sl ([.ref (aw_r ad 0), .int (nI j), .long b] : List Value)).length) Slot.unset).toArray = ls at hl ⊢
  have hl : lv_has ls 5 [(0, .ref (aw_r ad 0)), (1, .int (nI j)), (2, .long b)] := hl
  refine lv_aload_n hx hb d_Ru_seek_0 rfl (lv_at hl 0 rfl) ?_
  refine lv_iload_n hx hb d_Ru_seek_1 rfl (lv_at hl 1 rfl) ?_
  have he1 := rd_R0 hSh
  refine va_callr (va_runV (As := [.int (nI j)]) (rest := []) ⟨hx, hb, hml, hown, hG⟩ (k_Ru_contextAt1 l D g ad G M F N0 j hj) (aw_wV 1 hG gw_2_47 gw_2_45 gw_0_1 gw_2_46 gw_p_0 rfl rfl hd_Ru_contextAt ⟨Nat.le_of_ble_eq_true rfl, Nat.le_of_ble_eq_true rfl⟩) (aw_qV (va_recv hK hP rfl he1) hP hD hSh hU hS) rfl rfl hl.1 rfl (lv_room (Nat.le_of_ble_eq_true rfl)) d_Ru_seek_2 ⟨Nat.le_of_ble_eq_true rfl, Nat.le_of_ble_eq_true rfl⟩) hS (fun _ _ h => h) (fun _ h => h) (fun u8 q2 t8 H locs ht _ _ hB _ _ hS => ?_)
  obtain ⟨eq2, hB⟩ := hB
  obtain ⟨L, hP, hD, hSh⟩ := hB
  rw [ht] at hP
  clear ht
  subst eq2
  refine lv_astore hx hb d_Ru_seek_5 hl (by decide) rfl (fun ls hl => ?_)
  have hl : lv_has ls 5 [(4, .ref (aw_c ad j 0)), (0, .ref (aw_r ad 0)), (1, .int (nI j)), (2, .long b)] := hl
  refine lv_aload hx hb d_Ru_seek_7 (lv_at hl 0 rfl) ?_
  refine lv_iconst (v := nI 4) hx hb d_Ru_seek_9 (by decide +kernel) ?_
  refine vx_callv (vx_runS (As := [.ref (aw_c ad j 0), .int (nI 4)]) (rest := []) ⟨hx, hb, hml, hown, hG⟩ (k_Ru_requireMode4X l hst D g ad G M F N0 j hj hs) (aw_wS 2 hG gw_8_33 gw_8_31 gw_0_1 gw_8_32 rfl rfl hd_Ru_requireMode ⟨Nat.le_of_ble_eq_true rfl, Nat.le_of_ble_eq_true rfl⟩) (aw_qS hP hD hSh hU hS) rfl rfl hl.1 rfl (lv_room (Nat.le_of_ble_eq_true rfl)) d_Ru_seek_10 ⟨Nat.le_of_ble_eq_true rfl, Nat.le_of_ble_eq_true rfl⟩) hS (fun _ _ h => h) (fun _ h => h) (fun _ _ h => h) (fun E ce q9 u t H locs ht _ _ hBX _ _ hS hce hcv hcl => ?_) (fun u t H locs _ _ hF _ _ _ _ => hF.elim)
  obtain ⟨rfl, L, hP, hD, hSh⟩ := hBX
  rw [ht] at hP
  exact vx_out (fun x h => (hex x h).elim) hlocks hce hcv hcl (fun t9 ht9 _ => ⟨(), trivial, ⟨rfl, aw_Hr ht9 hP hD hSh⟩, hS.F ht9⟩) hS.2.2 (Nat.le_of_ble_eq_true rfl) (Nat.le_of_ble_eq_true rfl)
abbrev ws_Ru_take10 : List Cond := Cond.code y_Ru_take b_Ru_take 5 (some .int) :: aw_G
abbrev rm_Ru_take10 : Room := { frames := 2, cells := 0, slots := 0, locals := 48 }
set_option maxHeartbeats 4000000 in
set_option maxRecDepth 100000 in
theorem k_Ru_take10 (l : Launch) (D : va_G) (g : Nat → ClassId) (ad : Nat → Nat) (G M : Nat → Nat × Nat) (F : Int32) (N0 : Nat) (j : Nat) (fr : Int32) (hj : j < 4) (hs : (G j).1 = 3 ∧ (G j).2 = 5) : Met l y_Ru_take ws_Ru_take10 rm_Ru_take10 (va_Pc ([.ref (aw_r ad 0), .int (nI j), .int fr, .int (nI 0)] : List Value) (aw_B D g ad G M F N0)) (va_Qi (fun r (_ : Unit) => True) (fun (_ : Unit) t => aw_H D g ad G M F N0 t.heap) (aw_Z N0)) 0 0 (aw_Z N0) := by
  refine Met.ofW (cc := b_Ru_take) (maxL := 5) (ret := (some .int)) (by decide) rfl ?_
  intro p e s m args below meth c s₁ B hml hv
  obtain ⟨rfl, ⟨L, hP, hD, hSh⟩, hU⟩ := hv
  have hx := B.exec
  have hb := B.bytes
  have hr := B.returns
  have hG : ∀ w ∈ aw_G, w.before _ s = true := fun w h => atoms_spec (ws := ws_Ru_take10) B.pre w (List.mem_cons_of_mem _ h)
  have hown : s.vm.findClass "RuleCiphers" = some m.cls := findClass_of_methodNamed B.named
  have hlocks := B.notSynchronized
  have hE := hU.1
  have hK := hE.1
  have hN := hE.2.1
  have hS : va_S (aw_Z N0) s.heap s.heap [] := va_S.rf
  have hl := lv_entry ([.ref (aw_r ad 0), .int (nI j), .int fr, .int (nI 0)] : List Value) (n := 5) (Nat.le_of_ble_eq_true rfl)
  rw [lg_entry_eq]
  generalize (lg_sl ([.ref (aw_r ad 0), .int (nI j), .int fr, .int (nI 0)] : List Value) ++ List.replicate (5 - (lg_sl ([.ref (aw_r ad 0), .int (nI j), .int fr, .int (nI 0)] : List Value)).length) Slot.unset).toArray = ls at hl ⊢
  have hl : lv_has ls 5 [(0, .ref (aw_r ad 0)), (1, .int (nI j)), (2, .int fr), (3, .int (nI 0))] := hl
  refine lv_aload_n hx hb d_Ru_take_0 rfl (lv_at hl 0 rfl) ?_
  refine lv_iload_n hx hb d_Ru_take_1 rfl (lv_at hl 1 rfl) ?_
  have he1 := rd_R0 hSh
  refine va_callr (va_runV (As := [.int (nI j)]) (rest := []) ⟨hx, hb, hml, hown, hG⟩ (k_Ru_contextAt1 l D g ad G M F N0 j hj) (aw_wV 1 hG gw_2_47 gw_2_45 gw_0_1 gw_2_46 gw_p_0 rfl rfl hd_Ru_contextAt ⟨Nat.le_of_ble_eq_true rfl, Nat.le_of_ble_eq_true rfl⟩) (aw_qV (va_recv hK hP rfl he1) hP hD hSh hU hS) rfl rfl hl.1 rfl (lv_room (Nat.le_of_ble_eq_true rfl)) d_Ru_take_2 ⟨Nat.le_of_ble_eq_true rfl, Nat.le_of_ble_eq_true rfl⟩) hS (fun _ _ h => h) (fun _ h => h) (fun u8 q2 t8 H locs ht _ _ hB _ _ hS => ?_)
  obtain ⟨eq2, hB⟩ := hB
  obtain ⟨L, hP, hD, hSh⟩ := hB
  rw [ht] at hP
  clear ht
  subst eq2
  refine lv_astore hx hb d_Ru_take_5 hl (by decide) rfl (fun ls hl => ?_)
  have hl : lv_has ls 5 [(4, .ref (aw_c ad j 0)), (0, .ref (aw_r ad 0)), (1, .int (nI j)), (2, .int fr), (3, .int (nI 0))] := hl
  refine lv_iload_n hx hb d_Ru_take_7 rfl (lv_at hl 3 rfl) ?_
  refine lv_iload_n hx hb d_Ru_take_8 rfl (lv_at hl 4 rfl) ?_
  refine aw_cv ((va_runS (As := [.int fr, .int (nI 0)]) (rest := []) ⟨hx, hb, hml, hown, hG⟩ (k_Ru_requireInBuffer0 l fr) (aw_wS 2 hG gw_7_49 gw_7_47 gw_0_1 gw_7_48 rfl rfl hd_Ru_requireInBuffer ⟨Nat.le_of_ble_eq_true rfl, Nat.le_of_ble_eq_true rfl⟩) aw_p0 rfl rfl hl.1 rfl (lv_room (Nat.le_of_ble_eq_true rfl)) d_Ru_take_9 ⟨Nat.le_of_ble_eq_true rfl, Nat.le_of_ble_eq_true rfl⟩).run) ?_
  refine lv_aload hx hb d_Ru_take_12 (lv_at hl 0 rfl) ?_
  refine lv_iconst (v := nI 5) hx hb d_Ru_take_14 (by decide +kernel) ?_
  refine va_callv (va_runS (As := [.ref (aw_c ad j 0), .int (nI 5)]) (rest := []) ⟨hx, hb, hml, hown, hG⟩ (k_Ru_requireMode5 l D g ad G M F N0 j hj hs) (aw_wS 2 hG gw_8_33 gw_8_31 gw_0_1 gw_8_32 rfl rfl hd_Ru_requireMode ⟨Nat.le_of_ble_eq_true rfl, Nat.le_of_ble_eq_true rfl⟩) (aw_qS hP hD hSh hU hS) rfl rfl hl.1 rfl (lv_room (Nat.le_of_ble_eq_true rfl)) d_Ru_take_15 ⟨Nat.le_of_ble_eq_true rfl, Nat.le_of_ble_eq_true rfl⟩) hS (fun _ _ h => h) (fun _ h => h) (fun u8 t8 H locs ht _ _ hB _ _ hS => ?_)
  obtain ⟨L, hP, hD, hSh⟩ := hB
  rw [ht] at hP
  clear ht
  refine lv_aload hx hb d_Ru_take_18 (lv_at hl 0 rfl) ?_
  refine lv_aload_n hx hb d_Ru_take_20 rfl (lv_at hl 1 rfl) ?_
  have he3 := rd_R0 hSh
  refine va_get (C := R_Ru) (T := T_Ru) (N := 2) (v := .ref (aw_r ad 2)) hx hb hG in_Ru hown hK hP 0 he3 rfl 1 (by decide) (hG _ gw_2_29) (fun _ h => h) rfl d_Ru_take_21 ?_
  refine lv_iload_n hx hb d_Ru_take_24 rfl (lv_at hl 3 rfl) ?_
  refine lv_iload_n hx hb d_Ru_take_25 rfl (lv_at hl 4 rfl) ?_
  obtain ⟨_, _, _, _, _, _, _, he4⟩ := rd_C0 hSh hj
  refine va_calli (va_runV (As := [.ref (aw_r ad 2), .int fr, .int (nI 0)]) (rest := []) ⟨hx, hb, hml, hown, hG⟩ (k_Cx_takeBytes0 l D g ad G M F N0 j fr hj) (aw_wV 3 hG gw_8_48 gw_8_45 gw_0_2 gw_8_46 gw_8_47 rfl rfl hd_Cx_takeBytes ⟨Nat.le_of_ble_eq_true rfl, Nat.le_of_ble_eq_true rfl⟩) (aw_qV (va_recv hK hP rfl he4) hP hD hSh hU hS) rfl rfl hl.1 rfl (lv_room (Nat.le_of_ble_eq_true rfl)) d_Ru_take_26 ⟨Nat.le_of_ble_eq_true rfl, Nat.le_of_ble_eq_true rfl⟩) hS (fun _ _ h => h) (fun _ h => h) (fun x5 u8 t8 H locs ht _ _ hB _ _ hS => ?_)
  obtain ⟨L, hP, hD, hSh⟩ := hB
  rw [ht] at hP
  clear ht
  exact W.iret hx hb hr (fun t ht hW => ⟨⟨_, (), rfl, trivial, aw_Hr ht hP hD hSh⟩, hS.F ht⟩) hS.2.2 d_Ru_take_29
abbrev ws_Ru_take11 : List Cond := Cond.code y_Ru_take b_Ru_take 5 (some .int) :: aw_G
abbrev rm_Ru_take11 : Room := { frames := 6, cells := 0, slots := 0, locals := 149 }
set_option maxHeartbeats 4000000 in
set_option maxRecDepth 100000 in
theorem k_Ru_take11 (l : Launch) (D : va_G) (g : Nat → ClassId) (ad : Nat → Nat) (G M : Nat → Nat × Nat) (F : Int32) (N0 : Nat) (j : Nat) (k : Nat) (mm : Nat) (hj : j < 4) (h0 : 0 < mm) (hk : k + mm ≤ 64) (hs : (G j).1 = 3 ∧ (G j).2 = 5) : Met l y_Ru_take ws_Ru_take11 rm_Ru_take11 (va_Pc ([.ref (aw_r ad 0), .int (nI j), .int (nI k), .int (nI mm)] : List Value) (aw_B D g ad G M F N0)) (va_Qi (fun r (_ : Unit) => True) (fun (_ : Unit) t => aw_H D g ad G M F N0 t.heap) (aw_Z N0)) 0 0 (aw_Z N0) := by
  refine Met.ofW (cc := b_Ru_take) (maxL := 5) (ret := (some .int)) (by decide) rfl ?_
  intro p e s m args below meth c s₁ B hml hv
  obtain ⟨rfl, ⟨L, hP, hD, hSh⟩, hU⟩ := hv
  have hx := B.exec
  have hb := B.bytes
  have hr := B.returns
  have hG : ∀ w ∈ aw_G, w.before _ s = true := fun w h => atoms_spec (ws := ws_Ru_take11) B.pre w (List.mem_cons_of_mem _ h)
  have hown : s.vm.findClass "RuleCiphers" = some m.cls := findClass_of_methodNamed B.named
  have hlocks := B.notSynchronized
  have hE := hU.1
  have hK := hE.1
  have hN := hE.2.1
  have hS : va_S (aw_Z N0) s.heap s.heap [] := va_S.rf
  have hl := lv_entry ([.ref (aw_r ad 0), .int (nI j), .int (nI k), .int (nI mm)] : List Value) (n := 5) (Nat.le_of_ble_eq_true rfl)
  rw [lg_entry_eq]
  generalize (lg_sl ([.ref (aw_r ad 0), .int (nI j), .int (nI k), .int (nI mm)] : List Value) ++ List.replicate (5 - (lg_sl ([.ref (aw_r ad 0), .int (nI j), .int (nI k), .int (nI mm)] : List Value)).length) Slot.unset).toArray = ls at hl ⊢
  have hl : lv_has ls 5 [(0, .ref (aw_r ad 0)), (1, .int (nI j)), (2, .int (nI k)), (3, .int (nI mm))] := hl
  refine lv_aload_n hx hb d_Ru_take_0 rfl (lv_at hl 0 rfl) ?_
  refine lv_iload_n hx hb d_Ru_take_1 rfl (lv_at hl 1 rfl) ?_
  have he1 := rd_R0 hSh
  refine va_callr (va_runV (As := [.int (nI j)]) (rest := []) ⟨hx, hb, hml, hown, hG⟩ (k_Ru_contextAt1 l D g ad G M F N0 j hj) (aw_wV 1 hG gw_2_47 gw_2_45 gw_0_1 gw_2_46 gw_p_0 rfl rfl hd_Ru_contextAt ⟨Nat.le_of_ble_eq_true rfl, Nat.le_of_ble_eq_true rfl⟩) (aw_qV (va_recv hK hP rfl he1) hP hD hSh hU hS) rfl rfl hl.1 rfl (lv_room (Nat.le_of_ble_eq_true rfl)) d_Ru_take_2 ⟨Nat.le_of_ble_eq_true rfl, Nat.le_of_ble_eq_true rfl⟩) hS (fun _ _ h => h) (fun _ h => h) (fun u8 q2 t8 H locs ht _ _ hB _ _ hS => ?_)
  obtain ⟨eq2, hB⟩ := hB
  obtain ⟨L, hP, hD, hSh⟩ := hB
  rw [ht] at hP
  clear ht
  subst eq2
  refine lv_astore hx hb d_Ru_take_5 hl (by decide) rfl (fun ls hl => ?_)
  have hl : lv_has ls 5 [(4, .ref (aw_c ad j 0)), (0, .ref (aw_r ad 0)), (1, .int (nI j)), (2, .int (nI k)), (3, .int (nI mm))] := hl
  refine lv_iload_n hx hb d_Ru_take_7 rfl (lv_at hl 3 rfl) ?_
  refine lv_iload_n hx hb d_Ru_take_8 rfl (lv_at hl 4 rfl) ?_
  refine aw_cv ((va_runS (As := [.int (nI k), .int (nI mm)]) (rest := []) ⟨hx, hb, hml, hown, hG⟩ (k_Ru_requireInBuffer1 l k mm h0 hk) (aw_wS 2 hG gw_7_49 gw_7_47 gw_0_1 gw_7_48 rfl rfl hd_Ru_requireInBuffer ⟨Nat.le_of_ble_eq_true rfl, Nat.le_of_ble_eq_true rfl⟩) aw_p0 rfl rfl hl.1 rfl (lv_room (Nat.le_of_ble_eq_true rfl)) d_Ru_take_9 ⟨Nat.le_of_ble_eq_true rfl, Nat.le_of_ble_eq_true rfl⟩).run) ?_
  refine lv_aload hx hb d_Ru_take_12 (lv_at hl 0 rfl) ?_
  refine lv_iconst (v := nI 5) hx hb d_Ru_take_14 (by decide +kernel) ?_
  refine va_callv (va_runS (As := [.ref (aw_c ad j 0), .int (nI 5)]) (rest := []) ⟨hx, hb, hml, hown, hG⟩ (k_Ru_requireMode5 l D g ad G M F N0 j hj hs) (aw_wS 2 hG gw_8_33 gw_8_31 gw_0_1 gw_8_32 rfl rfl hd_Ru_requireMode ⟨Nat.le_of_ble_eq_true rfl, Nat.le_of_ble_eq_true rfl⟩) (aw_qS hP hD hSh hU hS) rfl rfl hl.1 rfl (lv_room (Nat.le_of_ble_eq_true rfl)) d_Ru_take_15 ⟨Nat.le_of_ble_eq_true rfl, Nat.le_of_ble_eq_true rfl⟩) hS (fun _ _ h => h) (fun _ h => h) (fun u8 t8 H locs ht _ _ hB _ _ hS => ?_)
  obtain ⟨L, hP, hD, hSh⟩ := hB
  rw [ht] at hP
  clear ht
  refine lv_aload hx hb d_Ru_take_18 (lv_at hl 0 rfl) ?_
  refine lv_aload_n hx hb d_Ru_take_20 rfl (lv_at hl 1 rfl) ?_
  have he3 := rd_R0 hSh
  refine va_get (C := R_Ru) (T := T_Ru) (N := 2) (v := .ref (aw_r ad 2)) hx hb hG in_Ru hown hK hP 0 he3 rfl 1 (by decide) (hG _ gw_2_29) (fun _ h => h) rfl d_Ru_take_21 ?_
  refine lv_iload_n hx hb d_Ru_take_24 rfl (lv_at hl 3 rfl) ?_
  refine lv_iload_n hx hb d_Ru_take_25 rfl (lv_at hl 4 rfl) ?_
  obtain ⟨_, _, _, _, _, _, _, he4⟩ := rd_C0 hSh hj
  refine va_calli (va_runV (As := [.ref (aw_r ad 2), .int (nI k), .int (nI mm)]) (rest := []) ⟨hx, hb, hml, hown, hG⟩ (k_Cx_takeBytes1 l D g ad G M F N0 j k mm hj hk) (aw_wV 3 hG gw_8_48 gw_8_45 gw_0_2 gw_8_46 gw_8_47 rfl rfl hd_Cx_takeBytes ⟨Nat.le_of_ble_eq_true rfl, Nat.le_of_ble_eq_true rfl⟩) (aw_qV (va_recv hK hP rfl he4) hP hD hSh hU hS) rfl rfl hl.1 rfl (lv_room (Nat.le_of_ble_eq_true rfl)) d_Ru_take_26 ⟨Nat.le_of_ble_eq_true rfl, Nat.le_of_ble_eq_true rfl⟩) hS (fun _ _ h => h) (fun _ h => h) (fun x5 u8 t8 H locs ht _ _ hB _ _ hS => ?_)
  obtain ⟨L, hP, hD, hSh⟩ := hB
  rw [ht] at hP
  clear ht
  exact W.iret hx hb hr (fun t ht hW => ⟨⟨_, (), rfl, trivial, aw_Hr ht hP hD hSh⟩, hS.F ht⟩) hS.2.2 d_Ru_take_29
abbrev ws_Ru_takeXc : List Cond := Cond.code y_Ru_take b_Ru_take 5 (some .int) :: aw_G
abbrev rm_Ru_takeXc : Room := { frames := 7, cells := 1, slots := 6, locals := 111 }
set_option maxHeartbeats 4000000 in
set_option maxRecDepth 100000 in
theorem k_Ru_takeXc (l : Launch) (hst : l.stackTraces = false) (D : va_G) (g : Nat → ClassId) (ad : Nat → Nat) (G M : Nat → Nat × Nat) (F : Int32) (N0 : Nat) (c0 : Int32) (fr : Int32) (m0 : Int32) (hc : c0 < 0 ∨ (¬ c0 < 0 ∧ ¬ c0 < nI 4)) : vx_Met l y_Ru_take ws_Ru_takeXc rm_Ru_takeXc (va_Pc ([.ref (aw_r ad 0), .int c0, .int fr, .int m0] : List Value) (aw_B D g ad G M F N0)) (va_Qv (fun (_ : Unit) => False) (fun (_ : Unit) _ => True) (aw_Z N0)) (vx_X (fun (_ : Unit) => True) (fun E (_ : Unit) t => E = "java/lang/IndexOutOfBoundsException" ∧ aw_H D g ad G M F N0 t.heap) (aw_Z N0)) 1 6 (aw_Z N0) := by
  refine vx_ofW (cc := b_Ru_take) (maxL := 5) (ret := (some .int)) (by decide) rfl ?_
  intro p e s m args below meth c s₁ B hml hex hv
  obtain ⟨rfl, ⟨L, hP, hD, hSh⟩, hU⟩ := hv
  have hx := B.exec
  have hb := B.bytes
  have hr := B.returns
  have hG : ∀ w ∈ aw_G, w.before _ s = true := fun w h => atoms_spec (ws := ws_Ru_takeXc) B.pre w (List.mem_cons_of_mem _ h)
  have hown : s.vm.findClass "RuleCiphers" = some m.cls := findClass_of_methodNamed B.named
  have hlocks := B.notSynchronized
  have hE := hU.1
  have hK := hE.1
  have hN := hE.2.1
  have hS : va_S (aw_Z N0) s.heap s.heap [] := va_S.rf
  have hl := lv_entry ([.ref (aw_r ad 0), .int c0, .int fr, .int m0] : List Value) (n := 5) (Nat.le_of_ble_eq_true rfl)
  rw [lg_entry_eq]
  generalize (lg_sl ([.ref (aw_r ad 0), .int c0, .int fr, .int m0] : List Value) ++ List.replicate (5 - (lg_sl ([.ref (aw_r ad 0), .int c0, .int fr, .int m0] : List Value)).length) Slot.unset).toArray = ls at hl ⊢
  have hl : lv_has ls 5 [(0, .ref (aw_r ad 0)), (1, .int c0), (2, .int fr), (3, .int m0)] := hl
  refine lv_aload_n hx hb d_Ru_take_0 rfl (lv_at hl 0 rfl) ?_
  refine lv_iload_n hx hb d_Ru_take_1 rfl (lv_at hl 1 rfl) ?_
  have he1 := rd_R0 hSh
  refine vx_callv (vx_runV (As := [.int c0]) (rest := []) ⟨hx, hb, hml, hown, hG⟩ (k_Ru_contextAtX l hst D g ad G M F N0 c0 hc) (aw_wV 1 hG gw_2_47 gw_2_45 gw_0_1 gw_2_46 gw_p_0 rfl rfl hd_Ru_contextAt ⟨Nat.le_of_ble_eq_true rfl, Nat.le_of_ble_eq_true rfl⟩) (aw_qV (va_recv hK hP rfl he1) hP hD hSh hU hS) rfl rfl hl.1 rfl (lv_room (Nat.le_of_ble_eq_true rfl)) d_Ru_take_2 ⟨Nat.le_of_ble_eq_true rfl, Nat.le_of_ble_eq_true rfl⟩) hS (fun _ _ h => h) (fun _ h => h) (fun _ _ h => h) (fun E ce q9 u t H locs ht _ _ hBX _ _ hS hce hcv hcl => ?_) (fun u t H locs _ _ hF _ _ _ _ => hF.elim)
  obtain ⟨rfl, L, hP, hD, hSh⟩ := hBX
  rw [ht] at hP
  exact vx_out (fun x h => (hex x h).elim) hlocks hce hcv hcl (fun t9 ht9 _ => ⟨(), trivial, ⟨rfl, aw_Hr ht9 hP hD hSh⟩, hS.F ht9⟩) hS.2.2 (Nat.le_of_ble_eq_true rfl) (Nat.le_of_ble_eq_true rfl)
abbrev ws_Ru_takeXb : List Cond := Cond.code y_Ru_take b_Ru_take 5 (some .int) :: aw_G
abbrev rm_Ru_takeXb : Room := { frames := 7, cells := 1, slots := 6, locals := 112 }
set_option maxHeartbeats 4000000 in
set_option maxRecDepth 100000 in
theorem k_Ru_takeXb (l : Launch) (hst : l.stackTraces = false) (D : va_G) (g : Nat → ClassId) (ad : Nat → Nat) (G M : Nat → Nat × Nat) (F : Int32) (N0 : Nat) (j : Nat) (fr : Int32) (m0 : Int32) (hj : j < 4) (hi : m0 < 0 ∨ (0 < m0 ∧ fr < 0) ∨ (0 < m0 ∧ ¬ fr < 0 ∧ nI 64 - fr < m0)) : vx_Met l y_Ru_take ws_Ru_takeXb rm_Ru_takeXb (va_Pc ([.ref (aw_r ad 0), .int (nI j), .int fr, .int m0] : List Value) (aw_B D g ad G M F N0)) (va_Qv (fun (_ : Unit) => False) (fun (_ : Unit) _ => True) (aw_Z N0)) (vx_X (fun (_ : Unit) => True) (fun E (_ : Unit) t => E = "java/lang/IndexOutOfBoundsException" ∧ aw_H D g ad G M F N0 t.heap) (aw_Z N0)) 1 6 (aw_Z N0) := by
  refine vx_ofW (cc := b_Ru_take) (maxL := 5) (ret := (some .int)) (by decide) rfl ?_
  intro p e s m args below meth c s₁ B hml hex hv
  obtain ⟨rfl, ⟨L, hP, hD, hSh⟩, hU⟩ := hv
  have hx := B.exec
  have hb := B.bytes
  have hr := B.returns
  have hG : ∀ w ∈ aw_G, w.before _ s = true := fun w h => atoms_spec (ws := ws_Ru_takeXb) B.pre w (List.mem_cons_of_mem _ h)
  have hown : s.vm.findClass "RuleCiphers" = some m.cls := findClass_of_methodNamed B.named
  have hlocks := B.notSynchronized
  have hE := hU.1
  have hK := hE.1
  have hN := hE.2.1
  have hS : va_S (aw_Z N0) s.heap s.heap [] := va_S.rf
  have hl := lv_entry ([.ref (aw_r ad 0), .int (nI j), .int fr, .int m0] : List Value) (n := 5) (Nat.le_of_ble_eq_true rfl)
  rw [lg_entry_eq]
  generalize (lg_sl ([.ref (aw_r ad 0), .int (nI j), .int fr, .int m0] : List Value) ++ List.replicate (5 - (lg_sl ([.ref (aw_r ad 0), .int (nI j), .int fr, .int m0] : List Value)).length) Slot.unset).toArray = ls at hl ⊢
  have hl : lv_has ls 5 [(0, .ref (aw_r ad 0)), (1, .int (nI j)), (2, .int fr), (3, .int m0)] := hl
  refine lv_aload_n hx hb d_Ru_take_0 rfl (lv_at hl 0 rfl) ?_
  refine lv_iload_n hx hb d_Ru_take_1 rfl (lv_at hl 1 rfl) ?_
  have he1 := rd_R0 hSh
  refine va_callr (va_runV (As := [.int (nI j)]) (rest := []) ⟨hx, hb, hml, hown, hG⟩ (k_Ru_contextAt1 l D g ad G M F N0 j hj) (aw_wV 1 hG gw_2_47 gw_2_45 gw_0_1 gw_2_46 gw_p_0 rfl rfl hd_Ru_contextAt ⟨Nat.le_of_ble_eq_true rfl, Nat.le_of_ble_eq_true rfl⟩) (aw_qV (va_recv hK hP rfl he1) hP hD hSh hU hS) rfl rfl hl.1 rfl (lv_room (Nat.le_of_ble_eq_true rfl)) d_Ru_take_2 ⟨Nat.le_of_ble_eq_true rfl, Nat.le_of_ble_eq_true rfl⟩) hS (fun _ _ h => h) (fun _ h => h) (fun u8 q2 t8 H locs ht _ _ hB _ _ hS => ?_)
  obtain ⟨eq2, hB⟩ := hB
  obtain ⟨L, hP, hD, hSh⟩ := hB
  rw [ht] at hP
  clear ht
  subst eq2
  refine lv_astore hx hb d_Ru_take_5 hl (by decide) rfl (fun ls hl => ?_)
  have hl : lv_has ls 5 [(4, .ref (aw_c ad j 0)), (0, .ref (aw_r ad 0)), (1, .int (nI j)), (2, .int fr), (3, .int m0)] := hl
  refine lv_iload_n hx hb d_Ru_take_7 rfl (lv_at hl 3 rfl) ?_
  refine lv_iload_n hx hb d_Ru_take_8 rfl (lv_at hl 4 rfl) ?_
  refine vx_callv (vx_runS (As := [.int fr, .int m0]) (rest := []) ⟨hx, hb, hml, hown, hG⟩ (k_Ru_requireInBufferX l hst D g ad G M F N0 fr m0 hi) (aw_wS 2 hG gw_7_49 gw_7_47 gw_0_1 gw_7_48 rfl rfl hd_Ru_requireInBuffer ⟨Nat.le_of_ble_eq_true rfl, Nat.le_of_ble_eq_true rfl⟩) (aw_qS hP hD hSh hU hS) rfl rfl hl.1 rfl (lv_room (Nat.le_of_ble_eq_true rfl)) d_Ru_take_9 ⟨Nat.le_of_ble_eq_true rfl, Nat.le_of_ble_eq_true rfl⟩) hS (fun _ _ h => h) (fun _ h => h) (fun _ _ h => h) (fun E ce q9 u t H locs ht _ _ hBX _ _ hS hce hcv hcl => ?_) (fun u t H locs _ _ hF _ _ _ _ => hF.elim)
  obtain ⟨rfl, L, hP, hD, hSh⟩ := hBX
  rw [ht] at hP
  exact vx_out (fun x h => (hex x h).elim) hlocks hce hcv hcl (fun t9 ht9 _ => ⟨(), trivial, ⟨rfl, aw_Hr ht9 hP hD hSh⟩, hS.F ht9⟩) hS.2.2 (Nat.le_of_ble_eq_true rfl) (Nat.le_of_ble_eq_true rfl)
abbrev ws_Ru_takeXs0 : List Cond := Cond.code y_Ru_take b_Ru_take 5 (some .int) :: aw_G
abbrev rm_Ru_takeXs0 : Room := { frames := 7, cells := 1, slots := 6, locals := 111 }
set_option maxHeartbeats 4000000 in
set_option maxRecDepth 100000 in
theorem k_Ru_takeXs0 (l : Launch) (hst : l.stackTraces = false) (D : va_G) (g : Nat → ClassId) (ad : Nat → Nat) (G M : Nat → Nat × Nat) (F : Int32) (N0 : Nat) (j : Nat) (fr : Int32) (hj : j < 4) (hs : (G j).1 ≤ 2 ∨ ((G j).1 = 3 ∧ (G j).2 ≠ 5)) : vx_Met l y_Ru_take ws_Ru_takeXs0 rm_Ru_takeXs0 (va_Pc ([.ref (aw_r ad 0), .int (nI j), .int fr, .int (nI 0)] : List Value) (aw_B D g ad G M F N0)) (va_Qv (fun (_ : Unit) => False) (fun (_ : Unit) _ => True) (aw_Z N0)) (vx_X (fun (_ : Unit) => True) (fun E (_ : Unit) t => E = "java/lang/IllegalStateException" ∧ aw_H D g ad G M F N0 t.heap) (aw_Z N0)) 1 6 (aw_Z N0) := by
  refine vx_ofW (cc := b_Ru_take) (maxL := 5) (ret := (some .int)) (by decide) rfl ?_
  intro p e s m args below meth c s₁ B hml hex hv
  obtain ⟨rfl, ⟨L, hP, hD, hSh⟩, hU⟩ := hv
  have hx := B.exec
  have hb := B.bytes
  have hr := B.returns
  have hG : ∀ w ∈ aw_G, w.before _ s = true := fun w h => atoms_spec (ws := ws_Ru_takeXs0) B.pre w (List.mem_cons_of_mem _ h)
  have hown : s.vm.findClass "RuleCiphers" = some m.cls := findClass_of_methodNamed B.named
  have hlocks := B.notSynchronized
  have hE := hU.1
  have hK := hE.1
  have hN := hE.2.1
  have hS : va_S (aw_Z N0) s.heap s.heap [] := va_S.rf
  have hl := lv_entry ([.ref (aw_r ad 0), .int (nI j), .int fr, .int (nI 0)] : List Value) (n := 5) (Nat.le_of_ble_eq_true rfl)
  rw [lg_entry_eq]
  generalize (lg_sl ([.ref (aw_r ad 0), .int (nI j), .int fr, .int (nI 0)] : List Value) ++ List.replicate (5 - (lg_sl ([.ref (aw_r ad 0), .int (nI j), .int fr, .int (nI 0)] : List Value)).length) Slot.unset).toArray = ls at hl ⊢
  have hl : lv_has ls 5 [(0, .ref (aw_r ad 0)), (1, .int (nI j)), (2, .int fr), (3, .int (nI 0))] := hl
  refine lv_aload_n hx hb d_Ru_take_0 rfl (lv_at hl 0 rfl) ?_
  refine lv_iload_n hx hb d_Ru_take_1 rfl (lv_at hl 1 rfl) ?_
  have he1 := rd_R0 hSh
  refine va_callr (va_runV (As := [.int (nI j)]) (rest := []) ⟨hx, hb, hml, hown, hG⟩ (k_Ru_contextAt1 l D g ad G M F N0 j hj) (aw_wV 1 hG gw_2_47 gw_2_45 gw_0_1 gw_2_46 gw_p_0 rfl rfl hd_Ru_contextAt ⟨Nat.le_of_ble_eq_true rfl, Nat.le_of_ble_eq_true rfl⟩) (aw_qV (va_recv hK hP rfl he1) hP hD hSh hU hS) rfl rfl hl.1 rfl (lv_room (Nat.le_of_ble_eq_true rfl)) d_Ru_take_2 ⟨Nat.le_of_ble_eq_true rfl, Nat.le_of_ble_eq_true rfl⟩) hS (fun _ _ h => h) (fun _ h => h) (fun u8 q2 t8 H locs ht _ _ hB _ _ hS => ?_)
  obtain ⟨eq2, hB⟩ := hB
  obtain ⟨L, hP, hD, hSh⟩ := hB
  rw [ht] at hP
  clear ht
  subst eq2
  refine lv_astore hx hb d_Ru_take_5 hl (by decide) rfl (fun ls hl => ?_)
  have hl : lv_has ls 5 [(4, .ref (aw_c ad j 0)), (0, .ref (aw_r ad 0)), (1, .int (nI j)), (2, .int fr), (3, .int (nI 0))] := hl
  refine lv_iload_n hx hb d_Ru_take_7 rfl (lv_at hl 3 rfl) ?_
  refine lv_iload_n hx hb d_Ru_take_8 rfl (lv_at hl 4 rfl) ?_
  refine aw_cv ((va_runS (As := [.int fr, .int (nI 0)]) (rest := []) ⟨hx, hb, hml, hown, hG⟩ (k_Ru_requireInBuffer0 l fr) (aw_wS 2 hG gw_7_49 gw_7_47 gw_0_1 gw_7_48 rfl rfl hd_Ru_requireInBuffer ⟨Nat.le_of_ble_eq_true rfl, Nat.le_of_ble_eq_true rfl⟩) aw_p0 rfl rfl hl.1 rfl (lv_room (Nat.le_of_ble_eq_true rfl)) d_Ru_take_9 ⟨Nat.le_of_ble_eq_true rfl, Nat.le_of_ble_eq_true rfl⟩).run) ?_
  refine lv_aload hx hb d_Ru_take_12 (lv_at hl 0 rfl) ?_
  refine lv_iconst (v := nI 5) hx hb d_Ru_take_14 (by decide +kernel) ?_
  refine vx_callv (vx_runS (As := [.ref (aw_c ad j 0), .int (nI 5)]) (rest := []) ⟨hx, hb, hml, hown, hG⟩ (k_Ru_requireMode5X l hst D g ad G M F N0 j hj hs) (aw_wS 2 hG gw_8_33 gw_8_31 gw_0_1 gw_8_32 rfl rfl hd_Ru_requireMode ⟨Nat.le_of_ble_eq_true rfl, Nat.le_of_ble_eq_true rfl⟩) (aw_qS hP hD hSh hU hS) rfl rfl hl.1 rfl (lv_room (Nat.le_of_ble_eq_true rfl)) d_Ru_take_15 ⟨Nat.le_of_ble_eq_true rfl, Nat.le_of_ble_eq_true rfl⟩) hS (fun _ _ h => h) (fun _ h => h) (fun _ _ h => h) (fun E ce q9 u t H locs ht _ _ hBX _ _ hS hce hcv hcl => ?_) (fun u t H locs _ _ hF _ _ _ _ => hF.elim)
  obtain ⟨rfl, L, hP, hD, hSh⟩ := hBX
  rw [ht] at hP
  exact vx_out (fun x h => (hex x h).elim) hlocks hce hcv hcl (fun t9 ht9 _ => ⟨(), trivial, ⟨rfl, aw_Hr ht9 hP hD hSh⟩, hS.F ht9⟩) hS.2.2 (Nat.le_of_ble_eq_true rfl) (Nat.le_of_ble_eq_true rfl)
abbrev ws_Ru_takeXs1 : List Cond := Cond.code y_Ru_take b_Ru_take 5 (some .int) :: aw_G
abbrev rm_Ru_takeXs1 : Room := { frames := 7, cells := 1, slots := 6, locals := 111 }
set_option maxHeartbeats 4000000 in
set_option maxRecDepth 100000 in
theorem k_Ru_takeXs1 (l : Launch) (hst : l.stackTraces = false) (D : va_G) (g : Nat → ClassId) (ad : Nat → Nat) (G M : Nat → Nat × Nat) (F : Int32) (N0 : Nat) (j : Nat) (k : Nat) (mm : Nat) (hj : j < 4) (h0 : 0 < mm) (hk : k + mm ≤ 64) (hs : (G j).1 ≤ 2 ∨ ((G j).1 = 3 ∧ (G j).2 ≠ 5)) : vx_Met l y_Ru_take ws_Ru_takeXs1 rm_Ru_takeXs1 (va_Pc ([.ref (aw_r ad 0), .int (nI j), .int (nI k), .int (nI mm)] : List Value) (aw_B D g ad G M F N0)) (va_Qv (fun (_ : Unit) => False) (fun (_ : Unit) _ => True) (aw_Z N0)) (vx_X (fun (_ : Unit) => True) (fun E (_ : Unit) t => E = "java/lang/IllegalStateException" ∧ aw_H D g ad G M F N0 t.heap) (aw_Z N0)) 1 6 (aw_Z N0) := by
  refine vx_ofW (cc := b_Ru_take) (maxL := 5) (ret := (some .int)) (by decide) rfl ?_
  intro p e s m args below meth c s₁ B hml hex hv
  obtain ⟨rfl, ⟨L, hP, hD, hSh⟩, hU⟩ := hv
  have hx := B.exec
  have hb := B.bytes
  have hr := B.returns
  have hG : ∀ w ∈ aw_G, w.before _ s = true := fun w h => atoms_spec (ws := ws_Ru_takeXs1) B.pre w (List.mem_cons_of_mem _ h)
  have hown : s.vm.findClass "RuleCiphers" = some m.cls := findClass_of_methodNamed B.named
  have hlocks := B.notSynchronized
  have hE := hU.1
  have hK := hE.1
  have hN := hE.2.1
  have hS : va_S (aw_Z N0) s.heap s.heap [] := va_S.rf
  have hl := lv_entry ([.ref (aw_r ad 0), .int (nI j), .int (nI k), .int (nI mm)] : List Value) (n := 5) (Nat.le_of_ble_eq_true rfl)
  rw [lg_entry_eq]
  generalize (lg_sl ([.ref (aw_r ad 0), .int (nI j), .int (nI k), .int (nI mm)] : List Value) ++ List.replicate (5 - (lg_sl ([.ref (aw_r ad 0), .int (nI j), .int (nI k), .int (nI mm)] : List Value)).length) Slot.unset).toArray = ls at hl ⊢
  have hl : lv_has ls 5 [(0, .ref (aw_r ad 0)), (1, .int (nI j)), (2, .int (nI k)), (3, .int (nI mm))] := hl
  refine lv_aload_n hx hb d_Ru_take_0 rfl (lv_at hl 0 rfl) ?_
  refine lv_iload_n hx hb d_Ru_take_1 rfl (lv_at hl 1 rfl) ?_
  have he1 := rd_R0 hSh
  refine va_callr (va_runV (As := [.int (nI j)]) (rest := []) ⟨hx, hb, hml, hown, hG⟩ (k_Ru_contextAt1 l D g ad G M F N0 j hj) (aw_wV 1 hG gw_2_47 gw_2_45 gw_0_1 gw_2_46 gw_p_0 rfl rfl hd_Ru_contextAt ⟨Nat.le_of_ble_eq_true rfl, Nat.le_of_ble_eq_true rfl⟩) (aw_qV (va_recv hK hP rfl he1) hP hD hSh hU hS) rfl rfl hl.1 rfl (lv_room (Nat.le_of_ble_eq_true rfl)) d_Ru_take_2 ⟨Nat.le_of_ble_eq_true rfl, Nat.le_of_ble_eq_true rfl⟩) hS (fun _ _ h => h) (fun _ h => h) (fun u8 q2 t8 H locs ht _ _ hB _ _ hS => ?_)
  obtain ⟨eq2, hB⟩ := hB
  obtain ⟨L, hP, hD, hSh⟩ := hB
  rw [ht] at hP
  clear ht
  subst eq2
  refine lv_astore hx hb d_Ru_take_5 hl (by decide) rfl (fun ls hl => ?_)
  have hl : lv_has ls 5 [(4, .ref (aw_c ad j 0)), (0, .ref (aw_r ad 0)), (1, .int (nI j)), (2, .int (nI k)), (3, .int (nI mm))] := hl
  refine lv_iload_n hx hb d_Ru_take_7 rfl (lv_at hl 3 rfl) ?_
  refine lv_iload_n hx hb d_Ru_take_8 rfl (lv_at hl 4 rfl) ?_
  refine aw_cv ((va_runS (As := [.int (nI k), .int (nI mm)]) (rest := []) ⟨hx, hb, hml, hown, hG⟩ (k_Ru_requireInBuffer1 l k mm h0 hk) (aw_wS 2 hG gw_7_49 gw_7_47 gw_0_1 gw_7_48 rfl rfl hd_Ru_requireInBuffer ⟨Nat.le_of_ble_eq_true rfl, Nat.le_of_ble_eq_true rfl⟩) aw_p0 rfl rfl hl.1 rfl (lv_room (Nat.le_of_ble_eq_true rfl)) d_Ru_take_9 ⟨Nat.le_of_ble_eq_true rfl, Nat.le_of_ble_eq_true rfl⟩).run) ?_
  refine lv_aload hx hb d_Ru_take_12 (lv_at hl 0 rfl) ?_
  refine lv_iconst (v := nI 5) hx hb d_Ru_take_14 (by decide +kernel) ?_
  refine vx_callv (vx_runS (As := [.ref (aw_c ad j 0), .int (nI 5)]) (rest := []) ⟨hx, hb, hml, hown, hG⟩ (k_Ru_requireMode5X l hst D g ad G M F N0 j hj hs) (aw_wS 2 hG gw_8_33 gw_8_31 gw_0_1 gw_8_32 rfl rfl hd_Ru_requireMode ⟨Nat.le_of_ble_eq_true rfl, Nat.le_of_ble_eq_true rfl⟩) (aw_qS hP hD hSh hU hS) rfl rfl hl.1 rfl (lv_room (Nat.le_of_ble_eq_true rfl)) d_Ru_take_15 ⟨Nat.le_of_ble_eq_true rfl, Nat.le_of_ble_eq_true rfl⟩) hS (fun _ _ h => h) (fun _ h => h) (fun _ _ h => h) (fun E ce q9 u t H locs ht _ _ hBX _ _ hS hce hcv hcl => ?_) (fun u t H locs _ _ hF _ _ _ _ => hF.elim)
  obtain ⟨rfl, L, hP, hD, hSh⟩ := hBX
  rw [ht] at hP
  exact vx_out (fun x h => (hex x h).elim) hlocks hce hcv hcl (fun t9 ht9 _ => ⟨(), trivial, ⟨rfl, aw_Hr ht9 hP hD hSh⟩, hS.F ht9⟩) hS.2.2 (Nat.le_of_ble_eq_true rfl) (Nat.le_of_ble_eq_true rfl)
abbrev ws_Ru_tag1 : List Cond := Cond.code y_Ru_tag b_Ru_tag 3 (some .long) :: aw_G
abbrev rm_Ru_tag1 : Room := { frames := 5, cells := 0, slots := 0, locals := 126 }
set_option maxHeartbeats 4000000 in
set_option maxRecDepth 100000 in
theorem k_Ru_tag1 (l : Launch) (D : va_G) (g : Nat → ClassId) (ad : Nat → Nat) (G M : Nat → Nat × Nat) (F : Int32) (N0 : Nat) (j : Nat) (hj : j < 4) (hs : (G j).1 = 3 ∧ (G j).2 = 5) : Met l y_Ru_tag ws_Ru_tag1 rm_Ru_tag1 (va_Pc ([.ref (aw_r ad 0), .int (nI j)] : List Value) (aw_B D g ad G M F N0)) (va_Ql (fun r (_ : Unit) => True) (fun (_ : Unit) t => aw_H D g ad G M F N0 t.heap) (aw_Z N0)) 0 0 (aw_Z N0) := by
  refine Met.ofW (cc := b_Ru_tag) (maxL := 3) (ret := (some .long)) (by decide) rfl ?_
  intro p e s m args below meth c s₁ B hml hv
  obtain ⟨rfl, ⟨L, hP, hD, hSh⟩, hU⟩ := hv
  have hx := B.exec
  have hb := B.bytes
  have hr := B.returns
  have hG : ∀ w ∈ aw_G, w.before _ s = true := fun w h => atoms_spec (ws := ws_Ru_tag1) B.pre w (List.mem_cons_of_mem _ h)
  have hown : s.vm.findClass "RuleCiphers" = some m.cls := findClass_of_methodNamed B.named
  have hlocks := B.notSynchronized
  have hE := hU.1
  have hK := hE.1
  have hN := hE.2.1
  have hS : va_S (aw_Z N0) s.heap s.heap [] := va_S.rf
  have hl := lv_entry ([.ref (aw_r ad 0), .int (nI j)] : List Value) (n := 3) (Nat.le_of_ble_eq_true rfl)
  rw [lg_entry_eq]
  generalize (lg_sl ([.ref (aw_r ad 0), .int (nI j)] : List Value) ++ List.replicate (3 - (lg_sl ([.ref (aw_r ad 0), .int (nI j)] : List Value)).length) Slot.unset).toArray = ls at hl ⊢
  have hl : lv_has ls 3 [(0, .ref (aw_r ad 0)), (1, .int (nI j))] := hl
  refine lv_aload_n hx hb d_Ru_tag_0 rfl (lv_at hl 0 rfl) ?_
  refine lv_iload_n hx hb d_Ru_tag_1 rfl (lv_at hl 1 rfl) ?_
  have he1 := rd_R0 hSh
  refine va_callr (va_runV (As := [.int (nI j)]) (rest := []) ⟨hx, hb, hml, hown, hG⟩ (k_Ru_contextAt1 l D g ad G M F N0 j hj) (aw_wV 1 hG gw_2_47 gw_2_45 gw_0_1 gw_2_46 gw_p_0 rfl rfl hd_Ru_contextAt ⟨Nat.le_of_ble_eq_true rfl, Nat.le_of_ble_eq_true rfl⟩) (aw_qV (va_recv hK hP rfl he1) hP hD hSh hU hS) rfl rfl hl.1 rfl (lv_room (Nat.le_of_ble_eq_true rfl)) d_Ru_tag_2 ⟨Nat.le_of_ble_eq_true rfl, Nat.le_of_ble_eq_true rfl⟩) hS (fun _ _ h => h) (fun _ h => h) (fun u8 q2 t8 H locs ht _ _ hB _ _ hS => ?_)
  obtain ⟨eq2, hB⟩ := hB
  obtain ⟨L, hP, hD, hSh⟩ := hB
  rw [ht] at hP
  clear ht
  subst eq2
  refine lv_astore_n hx hb d_Ru_tag_5 rfl hl (by decide) rfl (fun ls hl => ?_)
  have hl : lv_has ls 3 [(2, .ref (aw_c ad j 0)), (0, .ref (aw_r ad 0)), (1, .int (nI j))] := hl
  refine lv_aload_n hx hb d_Ru_tag_6 rfl (lv_at hl 0 rfl) ?_
  refine lv_iconst (v := nI 5) hx hb d_Ru_tag_7 (by decide +kernel) ?_
  refine va_callv (va_runS (As := [.ref (aw_c ad j 0), .int (nI 5)]) (rest := []) ⟨hx, hb, hml, hown, hG⟩ (k_Ru_requireMode5 l D g ad G M F N0 j hj hs) (aw_wS 2 hG gw_8_33 gw_8_31 gw_0_1 gw_8_32 rfl rfl hd_Ru_requireMode ⟨Nat.le_of_ble_eq_true rfl, Nat.le_of_ble_eq_true rfl⟩) (aw_qS hP hD hSh hU hS) rfl rfl hl.1 rfl (lv_room (Nat.le_of_ble_eq_true rfl)) d_Ru_tag_8 ⟨Nat.le_of_ble_eq_true rfl, Nat.le_of_ble_eq_true rfl⟩) hS (fun _ _ h => h) (fun _ h => h) (fun u8 t8 H locs ht _ _ hB _ _ hS => ?_)
  obtain ⟨L, hP, hD, hSh⟩ := hB
  rw [ht] at hP
  clear ht
  refine lv_aload_n hx hb d_Ru_tag_11 rfl (lv_at hl 0 rfl) ?_
  obtain ⟨_, _, _, _, _, _, _, he3⟩ := rd_C0 hSh hj
  refine va_calll (va_runV (As := []) (rest := []) ⟨hx, hb, hml, hown, hG⟩ (k_Cx_tellTag l D g ad G M F N0 j hj) (aw_wV 0 hG gw_9_10 gw_9_7 gw_0_2 gw_9_8 gw_9_9 rfl rfl hd_Cx_tellTag ⟨Nat.le_of_ble_eq_true rfl, Nat.le_of_ble_eq_true rfl⟩) (aw_qV (va_recv hK hP rfl he3) hP hD hSh hU hS) rfl rfl hl.1 rfl (lv_room (Nat.le_of_ble_eq_true rfl)) d_Ru_tag_12 ⟨Nat.le_of_ble_eq_true rfl, Nat.le_of_ble_eq_true rfl⟩) hS (fun _ _ h => h) (fun _ h => h) (fun y4 u8 t8 H locs ht _ _ hB _ _ hS => ?_)
  obtain ⟨L, hP, hD, hSh⟩ := hB
  rw [ht] at hP
  clear ht
  exact W.lret hx hb hr (fun t ht hW => ⟨⟨_, (), rfl, trivial, aw_Hr ht hP hD hSh⟩, hS.F ht⟩) hS.2.2 d_Ru_tag_15
abbrev ws_Ru_tagXc : List Cond := Cond.code y_Ru_tag b_Ru_tag 3 (some .long) :: aw_G
abbrev rm_Ru_tagXc : Room := { frames := 7, cells := 1, slots := 6, locals := 111 }
set_option maxHeartbeats 4000000 in
set_option maxRecDepth 100000 in
theorem k_Ru_tagXc (l : Launch) (hst : l.stackTraces = false) (D : va_G) (g : Nat → ClassId) (ad : Nat → Nat) (G M : Nat → Nat × Nat) (F : Int32) (N0 : Nat) (c0 : Int32) (hc : c0 < 0 ∨ (¬ c0 < 0 ∧ ¬ c0 < nI 4)) : vx_Met l y_Ru_tag ws_Ru_tagXc rm_Ru_tagXc (va_Pc ([.ref (aw_r ad 0), .int c0] : List Value) (aw_B D g ad G M F N0)) (va_Qv (fun (_ : Unit) => False) (fun (_ : Unit) _ => True) (aw_Z N0)) (vx_X (fun (_ : Unit) => True) (fun E (_ : Unit) t => E = "java/lang/IndexOutOfBoundsException" ∧ aw_H D g ad G M F N0 t.heap) (aw_Z N0)) 1 6 (aw_Z N0) := by
  refine vx_ofW (cc := b_Ru_tag) (maxL := 3) (ret := (some .long)) (by decide) rfl ?_
  intro p e s m args below meth c s₁ B hml hex hv
  obtain ⟨rfl, ⟨L, hP, hD, hSh⟩, hU⟩ := hv
  have hx := B.exec
  have hb := B.bytes
  have hr := B.returns
  have hG : ∀ w ∈ aw_G, w.before _ s = true := fun w h => atoms_spec (ws := ws_Ru_tagXc) B.pre w (List.mem_cons_of_mem _ h)
  have hown : s.vm.findClass "RuleCiphers" = some m.cls := findClass_of_methodNamed B.named
  have hlocks := B.notSynchronized
  have hE := hU.1
  have hK := hE.1
  have hN := hE.2.1
  have hS : va_S (aw_Z N0) s.heap s.heap [] := va_S.rf
  have hl := lv_entry ([.ref (aw_r ad 0), .int c0] : List Value) (n := 3) (Nat.le_of_ble_eq_true rfl)
  rw [lg_entry_eq]
  generalize (lg_sl ([.ref (aw_r ad 0), .int c0] : List Value) ++ List.replicate (3 - (lg_sl ([.ref (aw_r ad 0), .int c0] : List Value)).length) Slot.unset).toArray = ls at hl ⊢
  have hl : lv_has ls 3 [(0, .ref (aw_r ad 0)), (1, .int c0)] := hl
  refine lv_aload_n hx hb d_Ru_tag_0 rfl (lv_at hl 0 rfl) ?_
  refine lv_iload_n hx hb d_Ru_tag_1 rfl (lv_at hl 1 rfl) ?_
  have he1 := rd_R0 hSh
  refine vx_callv (vx_runV (As := [.int c0]) (rest := []) ⟨hx, hb, hml, hown, hG⟩ (k_Ru_contextAtX l hst D g ad G M F N0 c0 hc) (aw_wV 1 hG gw_2_47 gw_2_45 gw_0_1 gw_2_46 gw_p_0 rfl rfl hd_Ru_contextAt ⟨Nat.le_of_ble_eq_true rfl, Nat.le_of_ble_eq_true rfl⟩) (aw_qV (va_recv hK hP rfl he1) hP hD hSh hU hS) rfl rfl hl.1 rfl (lv_room (Nat.le_of_ble_eq_true rfl)) d_Ru_tag_2 ⟨Nat.le_of_ble_eq_true rfl, Nat.le_of_ble_eq_true rfl⟩) hS (fun _ _ h => h) (fun _ h => h) (fun _ _ h => h) (fun E ce q9 u t H locs ht _ _ hBX _ _ hS hce hcv hcl => ?_) (fun u t H locs _ _ hF _ _ _ _ => hF.elim)
  obtain ⟨rfl, L, hP, hD, hSh⟩ := hBX
  rw [ht] at hP
  exact vx_out (fun x h => (hex x h).elim) hlocks hce hcv hcl (fun t9 ht9 _ => ⟨(), trivial, ⟨rfl, aw_Hr ht9 hP hD hSh⟩, hS.F ht9⟩) hS.2.2 (Nat.le_of_ble_eq_true rfl) (Nat.le_of_ble_eq_true rfl)
abbrev ws_Ru_tagXs : List Cond := Cond.code y_Ru_tag b_Ru_tag 3 (some .long) :: aw_G
abbrev rm_Ru_tagXs : Room := { frames := 7, cells := 1, slots := 6, locals := 111 }
set_option maxHeartbeats 4000000 in
set_option maxRecDepth 100000 in
theorem k_Ru_tagXs (l : Launch) (hst : l.stackTraces = false) (D : va_G) (g : Nat → ClassId) (ad : Nat → Nat) (G M : Nat → Nat × Nat) (F : Int32) (N0 : Nat) (j : Nat) (hj : j < 4) (hs : (G j).1 ≤ 2 ∨ ((G j).1 = 3 ∧ (G j).2 ≠ 5)) : vx_Met l y_Ru_tag ws_Ru_tagXs rm_Ru_tagXs (va_Pc ([.ref (aw_r ad 0), .int (nI j)] : List Value) (aw_B D g ad G M F N0)) (va_Qv (fun (_ : Unit) => False) (fun (_ : Unit) _ => True) (aw_Z N0)) (vx_X (fun (_ : Unit) => True) (fun E (_ : Unit) t => E = "java/lang/IllegalStateException" ∧ aw_H D g ad G M F N0 t.heap) (aw_Z N0)) 1 6 (aw_Z N0) := by
  refine vx_ofW (cc := b_Ru_tag) (maxL := 3) (ret := (some .long)) (by decide) rfl ?_
  intro p e s m args below meth c s₁ B hml hex hv
  obtain ⟨rfl, ⟨L, hP, hD, hSh⟩, hU⟩ := hv
  have hx := B.exec
  have hb := B.bytes
  have hr := B.returns
  have hG : ∀ w ∈ aw_G, w.before _ s = true := fun w h => atoms_spec (ws := ws_Ru_tagXs) B.pre w (List.mem_cons_of_mem _ h)
  have hown : s.vm.findClass "RuleCiphers" = some m.cls := findClass_of_methodNamed B.named
  have hlocks := B.notSynchronized
  have hE := hU.1
  have hK := hE.1
  have hN := hE.2.1
  have hS : va_S (aw_Z N0) s.heap s.heap [] := va_S.rf
  have hl := lv_entry ([.ref (aw_r ad 0), .int (nI j)] : List Value) (n := 3) (Nat.le_of_ble_eq_true rfl)
  rw [lg_entry_eq]
  generalize (lg_sl ([.ref (aw_r ad 0), .int (nI j)] : List Value) ++ List.replicate (3 - (lg_sl ([.ref (aw_r ad 0), .int (nI j)] : List Value)).length) Slot.unset).toArray = ls at hl ⊢
  have hl : lv_has ls 3 [(0, .ref (aw_r ad 0)), (1, .int (nI j))] := hl
  refine lv_aload_n hx hb d_Ru_tag_0 rfl (lv_at hl 0 rfl) ?_
  refine lv_iload_n hx hb d_Ru_tag_1 rfl (lv_at hl 1 rfl) ?_
  have he1 := rd_R0 hSh
  refine va_callr (va_runV (As := [.int (nI j)]) (rest := []) ⟨hx, hb, hml, hown, hG⟩ (k_Ru_contextAt1 l D g ad G M F N0 j hj) (aw_wV 1 hG gw_2_47 gw_2_45 gw_0_1 gw_2_46 gw_p_0 rfl rfl hd_Ru_contextAt ⟨Nat.le_of_ble_eq_true rfl, Nat.le_of_ble_eq_true rfl⟩) (aw_qV (va_recv hK hP rfl he1) hP hD hSh hU hS) rfl rfl hl.1 rfl (lv_room (Nat.le_of_ble_eq_true rfl)) d_Ru_tag_2 ⟨Nat.le_of_ble_eq_true rfl, Nat.le_of_ble_eq_true rfl⟩) hS (fun _ _ h => h) (fun _ h => h) (fun u8 q2 t8 H locs ht _ _ hB _ _ hS => ?_)
  obtain ⟨eq2, hB⟩ := hB
  obtain ⟨L, hP, hD, hSh⟩ := hB
  rw [ht] at hP
  clear ht
  subst eq2
  refine lv_astore_n hx hb d_Ru_tag_5 rfl hl (by decide) rfl (fun ls hl => ?_)
  have hl : lv_has ls 3 [(2, .ref (aw_c ad j 0)), (0, .ref (aw_r ad 0)), (1, .int (nI j))] := hl
  refine lv_aload_n hx hb d_Ru_tag_6 rfl (lv_at hl 0 rfl) ?_
  refine lv_iconst (v := nI 5) hx hb d_Ru_tag_7 (by decide +kernel) ?_
  refine vx_callv (vx_runS (As := [.ref (aw_c ad j 0), .int (nI 5)]) (rest := []) ⟨hx, hb, hml, hown, hG⟩ (k_Ru_requireMode5X l hst D g ad G M F N0 j hj hs) (aw_wS 2 hG gw_8_33 gw_8_31 gw_0_1 gw_8_32 rfl rfl hd_Ru_requireMode ⟨Nat.le_of_ble_eq_true rfl, Nat.le_of_ble_eq_true rfl⟩) (aw_qS hP hD hSh hU hS) rfl rfl hl.1 rfl (lv_room (Nat.le_of_ble_eq_true rfl)) d_Ru_tag_8 ⟨Nat.le_of_ble_eq_true rfl, Nat.le_of_ble_eq_true rfl⟩) hS (fun _ _ h => h) (fun _ h => h) (fun _ _ h => h) (fun E ce q9 u t H locs ht _ _ hBX _ _ hS hce hcv hcl => ?_) (fun u t H locs _ _ hF _ _ _ _ => hF.elim)
  obtain ⟨rfl, L, hP, hD, hSh⟩ := hBX
  rw [ht] at hP
  exact vx_out (fun x h => (hex x h).elim) hlocks hce hcv hcl (fun t9 ht9 _ => ⟨(), trivial, ⟨rfl, aw_Hr ht9 hP hD hSh⟩, hS.F ht9⟩) hS.2.2 (Nat.le_of_ble_eq_true rfl) (Nat.le_of_ble_eq_true rfl)
