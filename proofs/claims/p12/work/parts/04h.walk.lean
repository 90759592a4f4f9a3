abbrev ws_Cx_feedBytes0 : List Cond := Cond.code y_Cx_feedBytes b_Cx_feedBytes 7 (some .int) :: aw_G
abbrev rm_Cx_feedBytes0 : Room := { frames := 1, cells := 0, slots := 0, locals := 20 }
set_option maxHeartbeats 4000000 in
set_option maxRecDepth 100000 in
theorem k_Cx_feedBytes0 (l : Launch) (D : va_G) (g : Nat → ClassId) (ad : Nat → Nat) (G M : Nat → Nat × Nat) (F : Int32) (N0 : Nat) (j : Nat) (bk : Int32) (fr : Int32) (hj : j < 4) (hm : 2 ≤ (G j).2) : Met l y_Cx_feedBytes ws_Cx_feedBytes0 rm_Cx_feedBytes0 (va_Pc ([.ref (aw_c ad j 0), .int bk, .ref (aw_r ad 2), .int fr, .int (nI 0)] : List Value) (aw_B D g ad G M F N0)) (va_Qi (fun r (_ : Unit) => True) (fun (_ : Unit) t => aw_H D g ad G M F N0 t.heap) (aw_Z N0)) 0 0 (aw_Z N0) := by
  refine Met.ofW (cc := b_Cx_feedBytes) (maxL := 7) (ret := (some .int)) (by decide) rfl ?_
  intro p e s m args below meth c s₁ B hml hv
  obtain ⟨rfl, ⟨L, hP, hD, hSh⟩, hU⟩ := hv
  have hx := B.exec
  have hb := B.bytes
  have hr := B.returns
  have hG : ∀ w ∈ aw_G, w.before _ s = true := fun w h => atoms_spec (ws := ws_Cx_feedBytes0) B.pre w (List.mem_cons_of_mem _ h)
  have hown : s.vm.findClass "RuleCiphers$Context" = some m.cls := findClass_of_methodNamed B.named
  have hlocks := B.notSynchronized
  have hE := hU.1
  have hK := hE.1
  have hN := hE.2.1
  have hS : va_S (aw_Z N0) s.heap s.heap [] := va_S.rf
  have hl := lv_entry ([.ref (aw_c ad j 0), .int bk, .ref (aw_r ad 2), .int fr, .int (nI 0)] : List Value) (n := 7) (Nat.le_of_ble_eq_true rfl)
  rw [lg_entry_eq]
  generalize (lg_sl ([.ref (aw_c ad j 0), .int bk, .ref (aw_r ad 2), .int fr, .int (nI 0)] : List Value) ++ List.replicate (7 - (lg_sl ([.ref (aw_c ad j 0), .int bk, .ref (aw_r ad 2), .int fr, .int (nI 0)] : List Value)).length) Slot.unset).toArray = ls at hl ⊢
  have hl : lv_has ls 7 [(0, .ref (aw_c ad j 0)), (1, .int bk), (2, .ref (aw_r ad 2)), (3, .int fr), (4, .int (nI 0))] := hl
  refine lv_aload_n hx hb d_Cx_feedBytes_0 rfl (lv_at hl 0 rfl) ?_
  obtain ⟨_, _, _, _, _, _, _, he1⟩ := rd_C0 hSh hj
  refine va_calli (va_runV (As := []) (rest := []) ⟨hx, hb, hml, hown, hG⟩ (k_Cx_feedsWholeBlocks0 l D g ad G M F N0 j hj hm) (aw_wV 0 hG gw_7_53 gw_7_58 gw_0_2 gw_7_51 gw_7_52 rfl rfl hd_Cx_feedsWholeBlocks ⟨Nat.le_of_ble_eq_true rfl, Nat.le_of_ble_eq_true rfl⟩) (aw_qV (va_recv hK hP rfl he1) hP hD hSh hU hS) rfl rfl hl.1 rfl (lv_room (Nat.le_of_ble_eq_true rfl)) d_Cx_feedBytes_1 ⟨Nat.le_of_ble_eq_true rfl, Nat.le_of_ble_eq_true rfl⟩) hS (fun _ _ h => h) (fun _ h => h) (fun x2 u8 t8 H locs ht _ hpx2 hB _ _ hS => ?_)
  obtain ⟨L, hP, hD, hSh⟩ := hB
  rw [ht] at hP
  clear ht
  subst hpx2
  refine lv_if_eq (tgt := 12) hx hb d_Cx_feedBytes_4 (by decide) (fun _ => ?_) (fun h => absurd (by decide +kernel) h)
  refine lv_iconst (v := nI 1) hx hb d_Cx_feedBytes_12 (by decide +kernel) ?_
  refine lv_istore hx hb d_Cx_feedBytes_13 hl (by decide) rfl (fun ls hl => ?_)
  have hl : lv_has ls 7 [(5, .int (nI 1)), (0, .ref (aw_c ad j 0)), (1, .int bk), (2, .ref (aw_r ad 2)), (3, .int fr), (4, .int (nI 0))] := hl
  refine lv_iconst (v := nI 0) hx hb d_Cx_feedBytes_15 (by decide +kernel) ?_
  refine lv_istore hx hb d_Cx_feedBytes_16 hl (by decide) rfl (fun ls hl => ?_)
  have hl : lv_has ls 7 [(6, .int (nI 0)), (5, .int (nI 1)), (0, .ref (aw_c ad j 0)), (1, .int bk), (2, .ref (aw_r ad 2)), (3, .int fr), (4, .int (nI 0))] := hl
  refine lv_iload hx hb d_Cx_feedBytes_18 (lv_at hl 0 rfl) ?_
  refine lv_iload hx hb d_Cx_feedBytes_20 (lv_at hl 6 rfl) ?_
  refine lv_icmp_ge (tgt := 45) hx hb d_Cx_feedBytes_22 (by decide) (fun _ => ?_) (fun h => absurd (by decide +kernel) h)
  refine lv_aload_n hx hb d_Cx_feedBytes_45 rfl (lv_at hl 2 rfl) ?_
  refine lv_dup hx hb d_Cx_feedBytes_46 rfl ?_
  obtain ⟨o4, y5, y6, y7, x8, x9, ho10, he3⟩ := rd_C0 hSh hj
  have hg := hSh.2.2.2.2.1 j hj
  refine va_get (C := R_Cx) (T := T_Cx) (N := 10) (v := .int x9) hx hb hG in_Cx hown hK hP (3 + 16 * j + 0) he3 rfl 9 (by decide) (hG _ gw_2_6) (fun _ h => h) rfl d_Cx_feedBytes_47 ?_
  refine lv_iload hx hb d_Cx_feedBytes_50 (lv_at hl 6 rfl) ?_
  refine lv_iadd hx hb d_Cx_feedBytes_52 ?_
  refine lv_topi (fun x11 _ => ?_)
  obtain ⟨o13, y14, y15, y16, x17, x18, ho19, he12⟩ := rd_C0 hSh hj
  have hg := hSh.2.2.2.2.1 j hj
  refine aw_put (v := .int x11) (ty := .int) (C := R_Cx) (T := T_Cx) (N := 10) hx hb hG in_Cx t_Cx t_Cx_ok n_Cx hown hK hP hD hS (3 + 16 * j + 0) he12 rfl 9 (by decide) (hG _ gw_2_6) (fun _ h => h) rfl (by decide +kernel) rfl rfl (Nat.le_of_ble_eq_true rfl) d_Cx_feedBytes_53 (wr_C0 hSh hj o13 y14 y15 y16 x17 x11 ho19) (fun H locs L hP hD hSh hS => ?_)
  refine lv_aload_n hx hb d_Cx_feedBytes_56 rfl (lv_at hl 2 rfl) ?_
  obtain ⟨o21, y22, y23, y24, x25, x26, ho27, he20⟩ := rd_C0 hSh hj
  have hg := hSh.2.2.2.2.1 j hj
  refine va_get (C := R_Cx) (T := T_Cx) (N := 10) (v := .int x26) hx hb hG in_Cx hown hK hP (3 + 16 * j + 0) he20 rfl 9 (by decide) (hG _ gw_2_6) (fun _ h => h) rfl d_Cx_feedBytes_57 ?_
  exact W.iret hx hb hr (fun t ht hW => ⟨⟨_, (), rfl, trivial, aw_Hr ht hP hD hSh⟩, hS.F ht⟩) hS.2.2 d_Cx_feedBytes_60
abbrev ws_Cx_feedBytes0b : List Cond := Cond.code y_Cx_feedBytes b_Cx_feedBytes 7 (some .int) :: aw_G
abbrev rm_Cx_feedBytes0b : Room := { frames := 1, cells := 0, slots := 0, locals := 20 }
set_option maxHeartbeats 4000000 in
set_option maxRecDepth 100000 in
theorem k_Cx_feedBytes0b (l : Launch) (D : va_G) (g : Nat → ClassId) (ad : Nat → Nat) (G M : Nat → Nat × Nat) (F : Int32) (N0 : Nat) (j : Nat) (bk : Int32) (fr : Int32) (hj : j < 4) (hm : (G j).2 ≤ 1) : Met l y_Cx_feedBytes ws_Cx_feedBytes0b rm_Cx_feedBytes0b (va_Pc ([.ref (aw_c ad j 0), .int bk, .ref (aw_r ad 2), .int fr, .int (nI 0)] : List Value) (aw_B D g ad G M F N0)) (va_Qi (fun r (_ : Unit) => True) (fun (_ : Unit) t => aw_H D g ad G M F N0 t.heap) (aw_Z N0)) 0 0 (aw_Z N0) := by
  refine Met.ofW (cc := b_Cx_feedBytes) (maxL := 7) (ret := (some .int)) (by decide) rfl ?_
  intro p e s m args below meth c s₁ B hml hv
  obtain ⟨rfl, ⟨L, hP, hD, hSh⟩, hU⟩ := hv
  have hx := B.exec
  have hb := B.bytes
  have hr := B.returns
  have hG : ∀ w ∈ aw_G, w.before _ s = true := fun w h => atoms_spec (ws := ws_Cx_feedBytes0b) B.pre w (List.mem_cons_of_mem _ h)
  have hown : s.vm.findClass "RuleCiphers$Context" = some m.cls := findClass_of_methodNamed B.named
  have hlocks := B.notSynchronized
  have hE := hU.1
  have hK := hE.1
  have hN := hE.2.1
  have hS : va_S (aw_Z N0) s.heap s.heap [] := va_S.rf
  have hl := lv_entry ([.ref (aw_c ad j 0), .int bk, .ref (aw_r ad 2), .int fr, .int (nI 0)] : List Value) (n := 7) (Nat.le_of_ble_eq_true rfl)
  rw [lg_entry_eq]
  generalize (lg_sl ([.ref (aw_c ad j 0), .int bk, .ref (aw_r ad 2), .int fr, .int (nI 0)] : List Value) ++ List.replicate (7 - (lg_sl ([.ref (aw_c ad j 0), .int bk, .ref (aw_r ad 2), .int fr, .int (nI 0)] : List Value)).length) Slot.unset).toArray = ls at hl ⊢
  have hl : lv_has ls 7 [(0, .ref (aw_c ad j 0)), (1, .int bk), (2, .ref (aw_r ad 2)), (3, .int fr), (4, .int (nI 0))] := hl
  refine lv_aload_n hx hb d_Cx_feedBytes_0 rfl (lv_at hl 0 rfl) ?_
  obtain ⟨_, _, _, _, _, _, _, he1⟩ := rd_C0 hSh hj
  refine va_calli (va_runV (As := []) (rest := []) ⟨hx, hb, hml, hown, hG⟩ (k_Cx_feedsWholeBlocks1 l D g ad G M F N0 j hj hm) (aw_wV 0 hG gw_7_53 gw_7_58 gw_0_2 gw_7_51 gw_7_52 rfl rfl hd_Cx_feedsWholeBlocks ⟨Nat.le_of_ble_eq_true rfl, Nat.le_of_ble_eq_true rfl⟩) (aw_qV (va_recv hK hP rfl he1) hP hD hSh hU hS) rfl rfl hl.1 rfl (lv_room (Nat.le_of_ble_eq_true rfl)) d_Cx_feedBytes_1 ⟨Nat.le_of_ble_eq_true rfl, Nat.le_of_ble_eq_true rfl⟩) hS (fun _ _ h => h) (fun _ h => h) (fun x2 u8 t8 H locs ht _ hpx2 hB _ _ hS => ?_)
  obtain ⟨L, hP, hD, hSh⟩ := hB
  rw [ht] at hP
  clear ht
  subst hpx2
  refine lv_if_eq (tgt := 12) hx hb d_Cx_feedBytes_4 (by decide) (fun h => absurd h (by decide +kernel)) (fun _ => ?_)
  refine lv_bipush (v := nI 8) hx hb d_Cx_feedBytes_7 (by decide +kernel) ?_
  refine lv_goto (tgt := 13) hx hb d_Cx_feedBytes_9 (by decide) ?_
  refine lv_istore hx hb d_Cx_feedBytes_13 hl (by decide) rfl (fun ls hl => ?_)
  have hl : lv_has ls 7 [(5, .int (nI 8)), (0, .ref (aw_c ad j 0)), (1, .int bk), (2, .ref (aw_r ad 2)), (3, .int fr), (4, .int (nI 0))] := hl
  refine lv_iconst (v := nI 0) hx hb d_Cx_feedBytes_15 (by decide +kernel) ?_
  refine lv_istore hx hb d_Cx_feedBytes_16 hl (by decide) rfl (fun ls hl => ?_)
  have hl : lv_has ls 7 [(6, .int (nI 0)), (5, .int (nI 8)), (0, .ref (aw_c ad j 0)), (1, .int bk), (2, .ref (aw_r ad 2)), (3, .int fr), (4, .int (nI 0))] := hl
  refine lv_iload hx hb d_Cx_feedBytes_18 (lv_at hl 0 rfl) ?_
  refine lv_iload hx hb d_Cx_feedBytes_20 (lv_at hl 6 rfl) ?_
  refine lv_icmp_ge (tgt := 45) hx hb d_Cx_feedBytes_22 (by decide) (fun _ => ?_) (fun h => absurd (by decide +kernel) h)
  refine lv_aload_n hx hb d_Cx_feedBytes_45 rfl (lv_at hl 2 rfl) ?_
  refine lv_dup hx hb d_Cx_feedBytes_46 rfl ?_
  obtain ⟨o4, y5, y6, y7, x8, x9, ho10, he3⟩ := rd_C0 hSh hj
  have hg := hSh.2.2.2.2.1 j hj
  refine va_get (C := R_Cx) (T := T_Cx) (N := 10) (v := .int x9) hx hb hG in_Cx hown hK hP (3 + 16 * j + 0) he3 rfl 9 (by decide) (hG _ gw_2_6) (fun _ h => h) rfl d_Cx_feedBytes_47 ?_
  refine lv_iload hx hb d_Cx_feedBytes_50 (lv_at hl 6 rfl) ?_
  refine lv_iadd hx hb d_Cx_feedBytes_52 ?_
  refine lv_topi (fun x11 _ => ?_)
  obtain ⟨o13, y14, y15, y16, x17, x18, ho19, he12⟩ := rd_C0 hSh hj
  have hg := hSh.2.2.2.2.1 j hj
  refine aw_put (v := .int x11) (ty := .int) (C := R_Cx) (T := T_Cx) (N := 10) hx hb hG in_Cx t_Cx t_Cx_ok n_Cx hown hK hP hD hS (3 + 16 * j + 0) he12 rfl 9 (by decide) (hG _ gw_2_6) (fun _ h => h) rfl (by decide +kernel) rfl rfl (Nat.le_of_ble_eq_true rfl) d_Cx_feedBytes_53 (wr_C0 hSh hj o13 y14 y15 y16 x17 x11 ho19) (fun H locs L hP hD hSh hS => ?_)
  refine lv_aload_n hx hb d_Cx_feedBytes_56 rfl (lv_at hl 2 rfl) ?_
  obtain ⟨o21, y22, y23, y24, x25, x26, ho27, he20⟩ := rd_C0 hSh hj
  have hg := hSh.2.2.2.2.1 j hj
  refine va_get (C := R_Cx) (T := T_Cx) (N := 10) (v := .int x26) hx hb hG in_Cx hown hK hP (3 + 16 * j + 0) he20 rfl 9 (by decide) (hG _ gw_2_6) (fun _ h => h) rfl d_Cx_feedBytes_57 ?_
  exact W.iret hx hb hr (fun t ht hW => ⟨⟨_, (), rfl, trivial, aw_Hr ht hP hD hSh⟩, hS.F ht⟩) hS.2.2 d_Cx_feedBytes_60
abbrev ws_Cx_feedBytes1 : List Cond := Cond.code y_Cx_feedBytes b_Cx_feedBytes 7 (some .int) :: aw_G
abbrev rm_Cx_feedBytes1 : Room := { frames := 5, cells := 0, slots := 0, locals := 125 }
set_option maxHeartbeats 4000000 in
set_option maxRecDepth 100000 in
theorem k_Cx_feedBytes1 (l : Launch) (D : va_G) (g : Nat → ClassId) (ad : Nat → Nat) (G M : Nat → Nat × Nat) (F : Int32) (N0 : Nat) (j : Nat) (bk : Int32) (k : Nat) (mm : Nat) (hj : j < 4) (hm : 2 ≤ (G j).2) (hk : k + mm ≤ 64) : Met l y_Cx_feedBytes ws_Cx_feedBytes1 rm_Cx_feedBytes1 (va_Pc ([.ref (aw_c ad j 0), .int bk, .ref (aw_r ad 2), .int (nI k), .int (nI mm)] : List Value) (aw_B D g ad G M F N0)) (va_Qi (fun r (_ : Unit) => True) (fun (_ : Unit) t => aw_H D g ad G M F N0 t.heap) (aw_Z N0)) 0 0 (aw_Z N0) := by
  refine Met.ofW (cc := b_Cx_feedBytes) (maxL := 7) (ret := (some .int)) (by decide) rfl ?_
  intro p e s m args below meth c s₁ B hml hv
  obtain ⟨rfl, ⟨L, hP, hD, hSh⟩, hU⟩ := hv
  have hx := B.exec
  have hb := B.bytes
  have hr := B.returns
  have hG : ∀ w ∈ aw_G, w.before _ s = true := fun w h => atoms_spec (ws := ws_Cx_feedBytes1) B.pre w (List.mem_cons_of_mem _ h)
  have hown : s.vm.findClass "RuleCiphers$Context" = some m.cls := findClass_of_methodNamed B.named
  have hlocks := B.notSynchronized
  have hE := hU.1
  have hK := hE.1
  have hN := hE.2.1
  have hS : va_S (aw_Z N0) s.heap s.heap [] := va_S.rf
  have hl := lv_entry ([.ref (aw_c ad j 0), .int bk, .ref (aw_r ad 2), .int (nI k), .int (nI mm)] : List Value) (n := 7) (Nat.le_of_ble_eq_true rfl)
  rw [lg_entry_eq]
  generalize (lg_sl ([.ref (aw_c ad j 0), .int bk, .ref (aw_r ad 2), .int (nI k), .int (nI mm)] : List Value) ++ List.replicate (7 - (lg_sl ([.ref (aw_c ad j 0), .int bk, .ref (aw_r ad 2), .int (nI k), .int (nI mm)] : List Value)).length) Slot.unset).toArray = ls at hl ⊢
  have hl : lv_has ls 7 [(0, .ref (aw_c ad j 0)), (1, .int bk), (2, .ref (aw_r ad 2)), (3, .int (nI k)), (4, .int (nI mm))] := hl
  refine lv_aload_n hx hb d_Cx_feedBytes_0 rfl (lv_at hl 0 rfl) ?_
  obtain ⟨_, _, _, _, _, _, _, he1⟩ := rd_C0 hSh hj
  refine va_calli (va_runV (As := []) (rest := []) ⟨hx, hb, hml, hown, hG⟩ (k_Cx_feedsWholeBlocks0 l D g ad G M F N0 j hj hm) (aw_wV 0 hG gw_7_53 gw_7_58 gw_0_2 gw_7_51 gw_7_52 rfl rfl hd_Cx_feedsWholeBlocks ⟨Nat.le_of_ble_eq_true rfl, Nat.le_of_ble_eq_true rfl⟩) (aw_qV (va_recv hK hP rfl he1) hP hD hSh hU hS) rfl rfl hl.1 rfl (lv_room (Nat.le_of_ble_eq_true rfl)) d_Cx_feedBytes_1 ⟨Nat.le_of_ble_eq_true rfl, Nat.le_of_ble_eq_true rfl⟩) hS (fun _ _ h => h) (fun _ h => h) (fun x2 u8 t8 H locs ht _ hpx2 hB _ _ hS => ?_)
  obtain ⟨L, hP, hD, hSh⟩ := hB
  rw [ht] at hP
  clear ht
  subst hpx2
  refine lv_if_eq (tgt := 12) hx hb d_Cx_feedBytes_4 (by decide) (fun _ => ?_) (fun h => absurd (by decide +kernel) h)
  refine lv_iconst (v := nI 1) hx hb d_Cx_feedBytes_12 (by decide +kernel) ?_
  refine lv_istore hx hb d_Cx_feedBytes_13 hl (by decide) rfl (fun ls hl => ?_)
  have hl : lv_has ls 7 [(5, .int (nI 1)), (0, .ref (aw_c ad j 0)), (1, .int bk), (2, .ref (aw_r ad 2)), (3, .int (nI k)), (4, .int (nI mm))] := hl
  refine lv_iconst (v := nI 0) hx hb d_Cx_feedBytes_15 (by decide +kernel) ?_
  refine lv_istore hx hb d_Cx_feedBytes_16 hl (by decide) rfl (fun ls hl => ?_)
  have hl : lv_has ls 7 [(6, .int (nI 0)), (5, .int (nI 1)), (0, .ref (aw_c ad j 0)), (1, .int bk), (2, .ref (aw_r ad 2)), (3, .int (nI k)), (4, .int (nI mm))] := hl
  have L18 : ∀ (d t : Nat)  (H : Heap) (locs : List Loc) (L : va_W) (ls : Array Slot), t + d = mm → va_P D aw_C L H → va_D (aw_Z N0) L → aw_Sh g ad G M F L → va_S (aw_Z N0) s.heap H locs → lv_has ls 7 [(0, .ref (aw_c ad j 0)), (1, .int bk), (2, .ref (aw_r ad 2)), (3, .int (nI k)), (4, .int (nI mm)), (5, .int (nI 1)), (6, .int (nI t))] → W p l e (headSpec ws_Cx_feedBytes1 rm_Cx_feedBytes1).room s m ([.ref (aw_c ad j 0), .int bk, .ref (aw_r ad 2), .int (nI k), .int (nI mm)] : List Value).toArray below meth c H locs 0 0 (MQ below (va_Qi (fun r (_ : Unit) => True) (fun (_ : Unit) t => aw_H D g ad G M F N0 t.heap) (aw_Z N0)) ([.ref (aw_c ad j 0), .int bk, .ref (aw_r ad 2), .int (nI k), .int (nI mm)] : List Value).toArray s 0 0 (aw_Z N0)) (F0 m 18 ls []) := by
    clear hP hD hSh hS
    clear hl
    intro d
    induction d with
    | zero => 
      intro t  H locs L ls ht0 hP hD hSh hS hl
      refine lv_iload hx hb d_Cx_feedBytes_18 (lv_at hl 6 rfl) ?_
      refine lv_iload hx hb d_Cx_feedBytes_20 (lv_at hl 4 rfl) ?_
      refine lv_icmp_ge (tgt := 45) hx hb d_Cx_feedBytes_22 (by decide) (fun _ => ?_) (fun h => absurd (show nI mm ≤ nI t from (nI_leI (by omega) (by omega)).mpr (by omega)) h)
      refine lv_aload_n hx hb d_Cx_feedBytes_45 rfl (lv_at hl 0 rfl) ?_
      refine lv_dup hx hb d_Cx_feedBytes_46 rfl ?_
      obtain ⟨o4, y5, y6, y7, x8, x9, ho10, he3⟩ := rd_C0 hSh hj
      have hg := hSh.2.2.2.2.1 j hj
      refine va_get (C := R_Cx) (T := T_Cx) (N := 10) (v := .int x9) hx hb hG in_Cx hown hK hP (3 + 16 * j + 0) he3 rfl 9 (by decide) (hG _ gw_2_6) (fun _ h => h) rfl d_Cx_feedBytes_47 ?_
      refine lv_iload hx hb d_Cx_feedBytes_50 (lv_at hl 4 rfl) ?_
      refine lv_iadd hx hb d_Cx_feedBytes_52 ?_
      refine lv_topi (fun x11 _ => ?_)
      obtain ⟨o13, y14, y15, y16, x17, x18, ho19, he12⟩ := rd_C0 hSh hj
      have hg := hSh.2.2.2.2.1 j hj
      refine aw_put (v := .int x11) (ty := .int) (C := R_Cx) (T := T_Cx) (N := 10) hx hb hG in_Cx t_Cx t_Cx_ok n_Cx hown hK hP hD hS (3 + 16 * j + 0) he12 rfl 9 (by decide) (hG _ gw_2_6) (fun _ h => h) rfl (by decide +kernel) rfl rfl (Nat.le_of_ble_eq_true rfl) d_Cx_feedBytes_53 (wr_C0 hSh hj o13 y14 y15 y16 x17 x11 ho19) (fun H locs L hP hD hSh hS => ?_)
      refine lv_aload_n hx hb d_Cx_feedBytes_56 rfl (lv_at hl 0 rfl) ?_
      obtain ⟨o21, y22, y23, y24, x25, x26, ho27, he20⟩ := rd_C0 hSh hj
      have hg := hSh.2.2.2.2.1 j hj
      refine va_get (C := R_Cx) (T := T_Cx) (N := 10) (v := .int x26) hx hb hG in_Cx hown hK hP (3 + 16 * j + 0) he20 rfl 9 (by decide) (hG _ gw_2_6) (fun _ h => h) rfl d_Cx_feedBytes_57 ?_
      exact W.iret hx hb hr (fun t ht hW => ⟨⟨_, (), rfl, trivial, aw_Hr ht hP hD hSh⟩, hS.F ht⟩) hS.2.2 d_Cx_feedBytes_60
    | succ d ih => 
      intro t  H locs L ls ht0 hP hD hSh hS hl
      refine lv_iload hx hb d_Cx_feedBytes_18 (lv_at hl 6 rfl) ?_
      refine lv_iload hx hb d_Cx_feedBytes_20 (lv_at hl 4 rfl) ?_
      refine lv_icmp_ge (tgt := 45) hx hb d_Cx_feedBytes_22 (by decide) (fun h => absurd h (show ¬ nI mm ≤ nI t from fun h9 => absurd ((nI_leI (by omega) (by omega)).mp h9) (by omega))) (fun _ => ?_)
      refine lv_aload_n hx hb d_Cx_feedBytes_25 rfl (lv_at hl 0 rfl) ?_
      refine lv_iload_n hx hb d_Cx_feedBytes_26 rfl (lv_at hl 1 rfl) ?_
      refine lv_aload_n hx hb d_Cx_feedBytes_27 rfl (lv_at hl 2 rfl) ?_
      refine lv_iload_n hx hb d_Cx_feedBytes_28 rfl (lv_at hl 3 rfl) ?_
      refine lv_iload hx hb d_Cx_feedBytes_29 (lv_at hl 6 rfl) ?_
      refine lv_iadd hx hb d_Cx_feedBytes_31 ?_
      refine aw_ti (nI_add k t) ?_
      obtain ⟨_, _, _, _, _, _, _, he28⟩ := rd_C0 hSh hj
      refine va_callv (va_runV (As := [.int bk, .ref (aw_r ad 2), .int (nI (k + t))]) (rest := []) ⟨hx, hb, hml, hown, hG⟩ (k_Cx_feedStep0 l D g ad G M F N0 j bk (k + t) hj hm (by omega)) (aw_wV 3 hG gw_8_1 gw_7_59 gw_0_2 gw_8_0 gw_p_3 rfl rfl hd_Cx_feedStep ⟨Nat.le_of_ble_eq_true rfl, Nat.le_of_ble_eq_true rfl⟩) (aw_qV (va_recv hK hP rfl he28) hP hD hSh hU hS) rfl rfl hl.1 rfl (lv_room (Nat.le_of_ble_eq_true rfl)) d_Cx_feedBytes_32 ⟨Nat.le_of_ble_eq_true rfl, Nat.le_of_ble_eq_true rfl⟩) hS (fun _ _ h => h) (fun _ h => h) (fun u8 t8 H locs ht _ _ hB _ _ hS => ?_)
      obtain ⟨L, hP, hD, hSh⟩ := hB
      rw [ht] at hP
      clear ht
      refine lv_iload hx hb d_Cx_feedBytes_35 (lv_at hl 6 rfl) ?_
      refine lv_iload hx hb d_Cx_feedBytes_37 (lv_at hl 5 rfl) ?_
      refine lv_iadd hx hb d_Cx_feedBytes_39 ?_
      refine aw_ti (nI_add t 1) ?_
      refine lv_istore hx hb d_Cx_feedBytes_40 hl (by decide) rfl (fun ls hl => ?_)
      have hl : lv_has ls 7 [(6, .int (nI (t + 1))), (0, .ref (aw_c ad j 0)), (1, .int bk), (2, .ref (aw_r ad 2)), (3, .int (nI k)), (4, .int (nI mm)), (5, .int (nI 1))] := hl
      refine lv_goto (tgt := 18) hx hb d_Cx_feedBytes_42 (by decide) ?_
      have hl := lv_sub hl (l' := [(0, .ref (aw_c ad j 0)), (1, .int bk), (2, .ref (aw_r ad 2)), (3, .int (nI k)), (4, .int (nI mm)), (5, .int (nI 1)), (6, .int (nI (t + 1)))]) [1, 2, 3, 4, 5, 6, 0] rfl
      exact ih (t + 1)  H locs L ls (by omega) hP hD hSh hS (by first | exact hl | simpa [Nat.add_assoc, Nat.mul_add, Nat.add_comm] using hl)
  have hl := lv_sub hl (l' := [(0, .ref (aw_c ad j 0)), (1, .int bk), (2, .ref (aw_r ad 2)), (3, .int (nI k)), (4, .int (nI mm)), (5, .int (nI 1)), (6, .int (nI 0))]) [2, 3, 4, 5, 6, 1, 0] rfl
  exact L18 mm 0  _ _ _ ls (by omega) hP hD hSh hS (by first | exact hl | simpa using hl)
abbrev ws_Cx_feedBytes8 : List Cond := Cond.code y_Cx_feedBytes b_Cx_feedBytes 7 (some .int) :: aw_G
abbrev rm_Cx_feedBytes8 : Room := { frames := 5, cells := 0, slots := 0, locals := 127 }
set_option maxHeartbeats 4000000 in
set_option maxRecDepth 100000 in
theorem k_Cx_feedBytes8 (l : Launch) (D : va_G) (g : Nat → ClassId) (ad : Nat → Nat) (G M : Nat → Nat × Nat) (F : Int32) (N0 : Nat) (j : Nat) (bk : Int32) (k : Nat) (mm : Nat) (hj : j < 4) (hm : (G j).2 ≤ 1) (hk : k + 8 * mm ≤ 64) : Met l y_Cx_feedBytes ws_Cx_feedBytes8 rm_Cx_feedBytes8 (va_Pc ([.ref (aw_c ad j 0), .int bk, .ref (aw_r ad 2), .int (nI k), .int (nI (8 * mm))] : List Value) (aw_B D g ad G M F N0)) (va_Qi (fun r (_ : Unit) => True) (fun (_ : Unit) t => aw_H D g ad G M F N0 t.heap) (aw_Z N0)) 0 0 (aw_Z N0) := by
  refine Met.ofW (cc := b_Cx_feedBytes) (maxL := 7) (ret := (some .int)) (by decide) rfl ?_
  intro p e s m args below meth c s₁ B hml hv
  obtain ⟨rfl, ⟨L, hP, hD, hSh⟩, hU⟩ := hv
  have hx := B.exec
  have hb := B.bytes
  have hr := B.returns
  have hG : ∀ w ∈ aw_G, w.before _ s = true := fun w h => atoms_spec (ws := ws_Cx_feedBytes8) B.pre w (List.mem_cons_of_mem _ h)
  have hown : s.vm.findClass "RuleCiphers$Context" = some m.cls := findClass_of_methodNamed B.named
  have hlocks := B.notSynchronized
  have hE := hU.1
  have hK := hE.1
  have hN := hE.2.1
  have hS : va_S (aw_Z N0) s.heap s.heap [] := va_S.rf
  have hl := lv_entry ([.ref (aw_c ad j 0), .int bk, .ref (aw_r ad 2), .int (nI k), .int (nI (8 * mm))] : List Value) (n := 7) (Nat.le_of_ble_eq_true rfl)
  rw [lg_entry_eq]
  generalize (lg_sl ([.ref (aw_c ad j 0), .int bk, .ref (aw_r ad 2), .int (nI k), .int (nI (8 * mm))] : List Value) ++ List.replicate (7 - (lg_sl ([.ref (aw_c ad j 0), .int bk, .ref (aw_r ad 2), .int (nI k), .int (nI (8 * mm))] : List Value)).length) Slot.unset).toArray = ls at hl ⊢
  have hl : lv_has ls 7 [(0, .ref (aw_c ad j 0)), (1, .int bk), (2, .ref (aw_r ad 2)), (3, .int (nI k)), (4, .int (nI (8 * mm)))] := hl
  refine lv_aload_n hx hb d_Cx_feedBytes_0 rfl (lv_at hl 0 rfl) ?_
  obtain ⟨_, _, _, _, _, _, _, he1⟩ := rd_C0 hSh hj
  refine va_calli (va_runV (As := []) (rest := []) ⟨hx, hb, hml, hown, hG⟩ (k_Cx_feedsWholeBlocks1 l D g ad G M F N0 j hj hm) (aw_wV 0 hG gw_7_53 gw_7_58 gw_0_2 gw_7_51 gw_7_52 rfl rfl hd_Cx_feedsWholeBlocks ⟨Nat.le_of_ble_eq_true rfl, Nat.le_of_ble_eq_true rfl⟩) (aw_qV (va_recv hK hP rfl he1) hP hD hSh hU hS) rfl rfl hl.1 rfl (lv_room (Nat.le_of_ble_eq_true rfl)) d_Cx_feedBytes_1 ⟨Nat.le_of_ble_eq_true rfl, Nat.le_of_ble_eq_true rfl⟩) hS (fun _ _ h => h) (fun _ h => h) (fun x2 u8 t8 H locs ht _ hpx2 hB _ _ hS => ?_)
  obtain ⟨L, hP, hD, hSh⟩ := hB
  rw [ht] at hP
  clear ht
  subst hpx2
  refine lv_if_eq (tgt := 12) hx hb d_Cx_feedBytes_4 (by decide) (fun h => absurd h (by decide +kernel)) (fun _ => ?_)
  refine lv_bipush (v := nI 8) hx hb d_Cx_feedBytes_7 (by decide +kernel) ?_
  refine lv_goto (tgt := 13) hx hb d_Cx_feedBytes_9 (by decide) ?_
  refine lv_istore hx hb d_Cx_feedBytes_13 hl (by decide) rfl (fun ls hl => ?_)
  have hl : lv_has ls 7 [(5, .int (nI 8)), (0, .ref (aw_c ad j 0)), (1, .int bk), (2, .ref (aw_r ad 2)), (3, .int (nI k)), (4, .int (nI (8 * mm)))] := hl
  refine lv_iconst (v := nI 0) hx hb d_Cx_feedBytes_15 (by decide +kernel) ?_
  refine lv_istore hx hb d_Cx_feedBytes_16 hl (by decide) rfl (fun ls hl => ?_)
  have hl : lv_has ls 7 [(6, .int (nI 0)), (5, .int (nI 8)), (0, .ref (aw_c ad j 0)), (1, .int bk), (2, .ref (aw_r ad 2)), (3, .int (nI k)), (4, .int (nI (8 * mm)))] := hl
  have L18 : ∀ (d t : Nat)  (H : Heap) (locs : List Loc) (L : va_W) (ls : Array Slot), t + d = mm → va_P D aw_C L H → va_D (aw_Z N0) L → aw_Sh g ad G M F L → va_S (aw_Z N0) s.heap H locs → lv_has ls 7 [(0, .ref (aw_c ad j 0)), (1, .int bk), (2, .ref (aw_r ad 2)), (3, .int (nI k)), (4, .int (nI (8 * mm))), (5, .int (nI 8)), (6, .int (nI (8 * t)))] → W p l e (headSpec ws_Cx_feedBytes8 rm_Cx_feedBytes8).room s m ([.ref (aw_c ad j 0), .int bk, .ref (aw_r ad 2), .int (nI k), .int (nI (8 * mm))] : List Value).toArray below meth c H locs 0 0 (MQ below (va_Qi (fun r (_ : Unit) => True) (fun (_ : Unit) t => aw_H D g ad G M F N0 t.heap) (aw_Z N0)) ([.ref (aw_c ad j 0), .int bk, .ref (aw_r ad 2), .int (nI k), .int (nI (8 * mm))] : List Value).toArray s 0 0 (aw_Z N0)) (F0 m 18 ls []) := by
    clear hP hD hSh hS
    clear hl
    intro d
    induction d with
    | zero => 
      intro t  H locs L ls ht0 hP hD hSh hS hl
      refine lv_iload hx hb d_Cx_feedBytes_18 (lv_at hl 6 rfl) ?_
      refine lv_iload hx hb d_Cx_feedBytes_20 (lv_at hl 4 rfl) ?_
      refine lv_icmp_ge (tgt := 45) hx hb d_Cx_feedBytes_22 (by decide) (fun _ => ?_) (fun h => absurd (show nI (8 * mm) ≤ nI (8 * t) from (nI_leI (by omega) (by omega)).mpr (by omega)) h)
      refine lv_aload_n hx hb d_Cx_feedBytes_45 rfl (lv_at hl 0 rfl) ?_
      refine lv_dup hx hb d_Cx_feedBytes_46 rfl ?_
      obtain ⟨o4, y5, y6, y7, x8, x9, ho10, he3⟩ := rd_C0 hSh hj
      have hg := hSh.2.2.2.2.1 j hj
      refine va_get (C := R_Cx) (T := T_Cx) (N := 10) (v := .int x9) hx hb hG in_Cx hown hK hP (3 + 16 * j + 0) he3 rfl 9 (by decide) (hG _ gw_2_6) (fun _ h => h) rfl d_Cx_feedBytes_47 ?_
      refine lv_iload hx hb d_Cx_feedBytes_50 (lv_at hl 4 rfl) ?_
      refine lv_iadd hx hb d_Cx_feedBytes_52 ?_
      refine lv_topi (fun x11 _ => ?_)
      obtain ⟨o13, y14, y15, y16, x17, x18, ho19, he12⟩ := rd_C0 hSh hj
      have hg := hSh.2.2.2.2.1 j hj
      refine aw_put (v := .int x11) (ty := .int) (C := R_Cx) (T := T_Cx) (N := 10) hx hb hG in_Cx t_Cx t_Cx_ok n_Cx hown hK hP hD hS (3 + 16 * j + 0) he12 rfl 9 (by decide) (hG _ gw_2_6) (fun _ h => h) rfl (by decide +kernel) rfl rfl (Nat.le_of_ble_eq_true rfl) d_Cx_feedBytes_53 (wr_C0 hSh hj o13 y14 y15 y16 x17 x11 ho19) (fun H locs L hP hD hSh hS => ?_)
      refine lv_aload_n hx hb d_Cx_feedBytes_56 rfl (lv_at hl 0 rfl) ?_
      obtain ⟨o21, y22, y23, y24, x25, x26, ho27, he20⟩ := rd_C0 hSh hj
      have hg := hSh.2.2.2.2.1 j hj
      refine va_get (C := R_Cx) (T := T_Cx) (N := 10) (v := .int x26) hx hb hG in_Cx hown hK hP (3 + 16 * j + 0) he20 rfl 9 (by decide) (hG _ gw_2_6) (fun _ h => h) rfl d_Cx_feedBytes_57 ?_
      exact W.iret hx hb hr (fun t ht hW => ⟨⟨_, (), rfl, trivial, aw_Hr ht hP hD hSh⟩, hS.F ht⟩) hS.2.2 d_Cx_feedBytes_60
    | succ d ih => 
      intro t  H locs L ls ht0 hP hD hSh hS hl
      refine lv_iload hx hb d_Cx_feedBytes_18 (lv_at hl 6 rfl) ?_
      refine lv_iload hx hb d_Cx_feedBytes_20 (lv_at hl 4 rfl) ?_
      refine lv_icmp_ge (tgt := 45) hx hb d_Cx_feedBytes_22 (by decide) (fun h => absurd h (show ¬ nI (8 * mm) ≤ nI (8 * t) from fun h9 => absurd ((nI_leI (by omega) (by omega)).mp h9) (by omega))) (fun _ => ?_)
      refine lv_aload_n hx hb d_Cx_feedBytes_25 rfl (lv_at hl 0 rfl) ?_
      refine lv_iload_n hx hb d_Cx_feedBytes_26 rfl (lv_at hl 1 rfl) ?_
      refine lv_aload_n hx hb d_Cx_feedBytes_27 rfl (lv_at hl 2 rfl) ?_
      refine lv_iload_n hx hb d_Cx_feedBytes_28 rfl (lv_at hl 3 rfl) ?_
      refine lv_iload hx hb d_Cx_feedBytes_29 (lv_at hl 6 rfl) ?_
      refine lv_iadd hx hb d_Cx_feedBytes_31 ?_
      refine aw_ti (nI_add k (8 * t)) ?_
      obtain ⟨_, _, _, _, _, _, _, he28⟩ := rd_C0 hSh hj
      refine va_callv (va_runV (As := [.int bk, .ref (aw_r ad 2), .int (nI (k + (8 * t)))]) (rest := []) ⟨hx, hb, hml, hown, hG⟩ (k_Cx_feedStep1 l D g ad G M F N0 j bk (k + (8 * t)) hj hm (by omega)) (aw_wV 3 hG gw_8_1 gw_7_59 gw_0_2 gw_8_0 gw_p_3 rfl rfl hd_Cx_feedStep ⟨Nat.le_of_ble_eq_true rfl, Nat.le_of_ble_eq_true rfl⟩) (aw_qV (va_recv hK hP rfl he28) hP hD hSh hU hS) rfl rfl hl.1 rfl (lv_room (Nat.le_of_ble_eq_true rfl)) d_Cx_feedBytes_32 ⟨Nat.le_of_ble_eq_true rfl, Nat.le_of_ble_eq_true rfl⟩) hS (fun _ _ h => h) (fun _ h => h) (fun u8 t8 H locs ht _ _ hB _ _ hS => ?_)
      obtain ⟨L, hP, hD, hSh⟩ := hB
      rw [ht] at hP
      clear ht
      refine lv_iload hx hb d_Cx_feedBytes_35 (lv_at hl 6 rfl) ?_
      refine lv_iload hx hb d_Cx_feedBytes_37 (lv_at hl 5 rfl) ?_
      refine lv_iadd hx hb d_Cx_feedBytes_39 ?_
      refine aw_ti (nI_add (8 * t) 8) ?_
      refine lv_istore hx hb d_Cx_feedBytes_40 hl (by decide) rfl (fun ls hl => ?_)
      have hl : lv_has ls 7 [(6, .int (nI ((8 * t) + 8))), (0, .ref (aw_c ad j 0)), (1, .int bk), (2, .ref (aw_r ad 2)), (3, .int (nI k)), (4, .int (nI (8 * mm))), (5, .int (nI 8))] := hl
      refine lv_goto (tgt := 18) hx hb d_Cx_feedBytes_42 (by decide) ?_
      have hl := lv_sub hl (l' := [(0, .ref (aw_c ad j 0)), (1, .int bk), (2, .ref (aw_r ad 2)), (3, .int (nI k)), (4, .int (nI (8 * mm))), (5, .int (nI 8)), (6, .int (nI ((8 * t) + 8)))]) [1, 2, 3, 4, 5, 6, 0] rfl
      exact ih (t + 1)  H locs L ls (by omega) hP hD hSh hS (by first | exact hl | simpa [Nat.add_assoc, Nat.mul_add, Nat.add_comm] using hl)
  have hl := lv_sub hl (l' := [(0, .ref (aw_c ad j 0)), (1, .int bk), (2, .ref (aw_r ad 2)), (3, .int (nI k)), (4, .int (nI (8 * mm))), (5, .int (nI 8)), (6, .int (nI 0))]) [2, 3, 4, 5, 6, 1, 0] rfl
  exact L18 mm 0  _ _ _ ls (by omega) hP hD hSh hS (by first | exact hl | simpa using hl)
abbrev ws_Cx_goToBlock : List Cond := Cond.code y_Cx_goToBlock b_Cx_goToBlock 3 none :: aw_G
abbrev rm_Cx_goToBlock : Room := { frames := 0, cells := 0, slots := 0, locals := 0 }
set_option maxHeartbeats 4000000 in
set_option maxRecDepth 100000 in
theorem k_Cx_goToBlock (l : Launch) (D : va_G) (g : Nat → ClassId) (ad : Nat → Nat) (G M : Nat → Nat × Nat) (F : Int32) (N0 : Nat) (j : Nat) (b : Int64) (hj : j < 4) : Met l y_Cx_goToBlock ws_Cx_goToBlock rm_Cx_goToBlock (va_Pc ([.ref (aw_c ad j 0), .long b] : List Value) (aw_B D g ad G M F N0)) (va_Qv (fun (_ : Unit) => True) (fun (_ : Unit) t => aw_H D g ad G M F N0 t.heap) (aw_Z N0)) 0 0 (aw_Z N0) := by
  refine Met.ofW (cc := b_Cx_goToBlock) (maxL := 3) (ret := none) (by decide) rfl ?_
  intro p e s m args below meth c s₁ B hml hv
  obtain ⟨rfl, ⟨L, hP, hD, hSh⟩, hU⟩ := hv
  have hx := B.exec
  have hb := B.bytes
  have hr := B.returns
  have hG : ∀ w ∈ aw_G, w.before _ s = true := fun w h => atoms_spec (ws := ws_Cx_goToBlock) B.pre w (List.mem_cons_of_mem _ h)
  have hown : s.vm.findClass "RuleCiphers$Context" = some m.cls := findClass_of_methodNamed B.named
  have hlocks := B.notSynchronized
  have hE := hU.1
  have hK := hE.1
  have hN := hE.2.1
  have hS : va_S (aw_Z N0) s.heap s.heap [] := va_S.rf
  have hl := lv_entry ([.ref (aw_c ad j 0), .long b] : List Value) (n := 3) (Nat.le_of_ble_eq_true rfl)
  rw [lg_entry_eq]
  generalize (lg_sl ([.ref (aw_c ad j 0), .long b] : List Value) ++ List.replicate (3 - (lg_sl ([.ref (aw_c ad j 0), .long b] : List Value)).length) Slot.unset).toArray = ls at hl ⊢
  have hl : lv_has ls 3 [(0, .ref (aw_c ad j 0)), (1, .long b)] := hl
  refine lv_aload_n hx hb d_Cx_goToBlock_0 rfl (lv_at hl 0 rfl) ?_
  refine lv_aload_n hx hb d_Cx_goToBlock_1 rfl (lv_at hl 0 rfl) ?_
  obtain ⟨o2, y3, y4, y5, x6, x7, ho8, he1⟩ := rd_C0 hSh hj
  have hg := hSh.2.2.2.2.1 j hj
  refine va_get (C := R_Cx) (T := T_Cx) (N := 10) (v := .long y3) hx hb hG in_Cx hown hK hP (3 + 16 * j + 0) he1 rfl 5 (by decide) (hG _ gw_2_2) (fun _ h => h) rfl d_Cx_goToBlock_2 ?_
  refine lv_lload_n hx hb d_Cx_goToBlock_5 rfl (lv_at hl 1 rfl) ?_
  refine lv_ladd hx hb d_Cx_goToBlock_6 ?_
  refine lv_topl (fun y9 _ => ?_)
  obtain ⟨o11, y12, y13, y14, x15, x16, ho17, he10⟩ := rd_C0 hSh hj
  have hg := hSh.2.2.2.2.1 j hj
  refine aw_put (v := .long y9) (ty := .long) (C := R_Cx) (T := T_Cx) (N := 10) hx hb hG in_Cx t_Cx t_Cx_ok n_Cx hown hK hP hD hS (3 + 16 * j + 0) he10 rfl 6 (by decide) (hG _ gw_2_3) (fun _ h => h) rfl (by decide +kernel) rfl rfl (Nat.le_of_ble_eq_true rfl) d_Cx_goToBlock_7 (wr_C0 hSh hj o11 y12 y9 y14 x15 x16 ho17) (fun H locs L hP hD hSh hS => ?_)
  refine lv_aload_n hx hb d_Cx_goToBlock_10 rfl (lv_at hl 0 rfl) ?_
  refine lv_iconst (v := nI 0) hx hb d_Cx_goToBlock_11 (by decide +kernel) ?_
  obtain ⟨o19, y20, y21, y22, x23, x24, ho25, he18⟩ := rd_C0 hSh hj
  have hg := hSh.2.2.2.2.1 j hj
  refine aw_put (v := .int (nI 0)) (ty := .int) (C := R_Cx) (T := T_Cx) (N := 10) hx hb hG in_Cx t_Cx t_Cx_ok n_Cx hown hK hP hD hS (3 + 16 * j + 0) he18 rfl 8 (by decide) (hG _ gw_2_5) (fun _ h => h) rfl (by decide +kernel) rfl rfl (Nat.le_of_ble_eq_true rfl) d_Cx_goToBlock_12 (wr_C0 hSh hj o19 y20 y21 y22 (nI 0) x24 ho25) (fun H locs L hP hD hSh hS => ?_)
  exact W.vret hx hb hr (fun t ht hW => ⟨⟨(), rfl, trivial, aw_Hr ht hP hD hSh⟩, hS.F ht⟩) hS.2.2 d_Cx_goToBlock_15
abbrev ws_Cx_takeBytes0 : List Cond := Cond.code y_Cx_takeBytes b_Cx_takeBytes 4 (some .int) :: aw_G
abbrev rm_Cx_takeBytes0 : Room := { frames := 1, cells := 0, slots := 0, locals := 25 }
set_option maxHeartbeats 4000000 in
set_option maxRecDepth 100000 in
theorem k_Cx_takeBytes0 (l : Launch) (D : va_G) (g : Nat → ClassId) (ad : Nat → Nat) (G M : Nat → Nat × Nat) (F : Int32) (N0 : Nat) (j : Nat) (fr : Int32) (hj : j < 4) : Met l y_Cx_takeBytes ws_Cx_takeBytes0 rm_Cx_takeBytes0 (va_Pc ([.ref (aw_c ad j 0), .ref (aw_r ad 2), .int fr, .int (nI 0)] : List Value) (aw_B D g ad G M F N0)) (va_Qi (fun r (_ : Unit) => True) (fun (_ : Unit) t => aw_H D g ad G M F N0 t.heap) (aw_Z N0)) 0 0 (aw_Z N0) := by
  refine Met.ofW (cc := b_Cx_takeBytes) (maxL := 4) (ret := (some .int)) (by decide) rfl ?_
  intro p e s m args below meth c s₁ B hml hv
  obtain ⟨rfl, ⟨L, hP, hD, hSh⟩, hU⟩ := hv
  have hx := B.exec
  have hb := B.bytes
  have hr := B.returns
  have hG : ∀ w ∈ aw_G, w.before _ s = true := fun w h => atoms_spec (ws := ws_Cx_takeBytes0) B.pre w (List.mem_cons_of_mem _ h)
  have hown : s.vm.findClass "RuleCiphers$Context" = some m.cls := findClass_of_methodNamed B.named
  have hlocks := B.notSynchronized
  have hE := hU.1
  have hK := hE.1
  have hN := hE.2.1
  have hS : va_S (aw_Z N0) s.heap s.heap [] := va_S.rf
  have hl := lv_entry ([.ref (aw_c ad j 0), .ref (aw_r ad 2), .int fr, .int (nI 0)] : List Value) (n := 4) (Nat.le_of_ble_eq_true rfl)
  rw [lg_entry_eq]
  generalize (lg_sl ([.ref (aw_c ad j 0), .ref (aw_r ad 2), .int fr, .int (nI 0)] : List Value) ++ List.replicate (4 - (lg_sl ([.ref (aw_c ad j 0), .ref (aw_r ad 2), .int fr, .int (nI 0)] : List Value)).length) Slot.unset).toArray = ls at hl ⊢
  have hl : lv_has ls 4 [(0, .ref (aw_c ad j 0)), (1, .ref (aw_r ad 2)), (2, .int fr), (3, .int (nI 0))] := hl
  refine lv_aload_n hx hb d_Cx_takeBytes_0 rfl (lv_at hl 0 rfl) ?_
  obtain ⟨o2, y3, y4, y5, x6, x7, ho8, he1⟩ := rd_C0 hSh hj
  have hg := hSh.2.2.2.2.1 j hj
  refine va_get (C := R_Cx) (T := T_Cx) (N := 10) (v := .ref (aw_c ad j 15)) hx hb hG in_Cx hown hK hP (3 + 16 * j + 0) he1 rfl 1 (by decide) (hG _ gw_1_55) (fun _ h => h) rfl d_Cx_takeBytes_1 ?_
  refine lv_aload_n hx hb d_Cx_takeBytes_4 rfl (lv_at hl 0 rfl) ?_
  obtain ⟨o10, y11, y12, y13, x14, x15, ho16, he9⟩ := rd_C0 hSh hj
  have hg := hSh.2.2.2.2.1 j hj
  refine va_get (C := R_Cx) (T := T_Cx) (N := 10) (v := .ref (aw_c ad j o10)) hx hb hG in_Cx hown hK hP (3 + 16 * j + 0) he9 rfl 4 (by decide) (hG _ gw_2_0) (fun _ h => h) rfl d_Cx_takeBytes_5 ?_
  refine lv_aload_n hx hb d_Cx_takeBytes_8 rfl (lv_at hl 1 rfl) ?_
  refine lv_iload_n hx hb d_Cx_takeBytes_9 rfl (lv_at hl 2 rfl) ?_
  refine lv_iload_n hx hb d_Cx_takeBytes_10 rfl (lv_at hl 3 rfl) ?_
  obtain ⟨_, _, _, _, he17⟩ := rd_C15 hSh hj
  refine va_calli (va_runV (As := [.ref (aw_c ad j o10), .ref (aw_r ad 2), .int fr, .int (nI 0)]) (rest := []) ⟨hx, hb, hml, hown, hG⟩ (k_Tk_add0 l D g ad G M F N0 j o10 fr hj ho16) (aw_wV 4 hG gw_8_52 gw_8_49 gw_0_9 gw_8_50 gw_8_51 rfl rfl hd_Tk_add ⟨Nat.le_of_ble_eq_true rfl, Nat.le_of_ble_eq_true rfl⟩) (aw_qV (va_recv hK hP rfl he17) hP hD hSh hU hS) rfl rfl hl.1 rfl (lv_room (Nat.le_of_ble_eq_true rfl)) d_Cx_takeBytes_11 ⟨Nat.le_of_ble_eq_true rfl, Nat.le_of_ble_eq_true rfl⟩) hS (fun _ _ h => h) (fun _ h => h) (fun x18 u8 t8 H locs ht _ _ hB _ _ hS => ?_)
  obtain ⟨L, hP, hD, hSh⟩ := hB
  rw [ht] at hP
  clear ht
  exact W.iret hx hb hr (fun t ht hW => ⟨⟨_, (), rfl, trivial, aw_Hr ht hP hD hSh⟩, hS.F ht⟩) hS.2.2 d_Cx_takeBytes_14
abbrev ws_Cx_takeBytes1 : List Cond := Cond.code y_Cx_takeBytes b_Cx_takeBytes 4 (some .int) :: aw_G
abbrev rm_Cx_takeBytes1 : Room := { frames := 5, cells := 0, slots := 0, locals := 126 }
set_option maxHeartbeats 4000000 in
set_option maxRecDepth 100000 in
theorem k_Cx_takeBytes1 (l : Launch) (D : va_G) (g : Nat → ClassId) (ad : Nat → Nat) (G M : Nat → Nat × Nat) (F : Int32) (N0 : Nat) (j : Nat) (k : Nat) (mm : Nat) (hj : j < 4) (hk : k + mm ≤ 64) : Met l y_Cx_takeBytes ws_Cx_takeBytes1 rm_Cx_takeBytes1 (va_Pc ([.ref (aw_c ad j 0), .ref (aw_r ad 2), .int (nI k), .int (nI mm)] : List Value) (aw_B D g ad G M F N0)) (va_Qi (fun r (_ : Unit) => True) (fun (_ : Unit) t => aw_H D g ad G M F N0 t.heap) (aw_Z N0)) 0 0 (aw_Z N0) := by
  refine Met.ofW (cc := b_Cx_takeBytes) (maxL := 4) (ret := (some .int)) (by decide) rfl ?_
  intro p e s m args below meth c s₁ B hml hv
  obtain ⟨rfl, ⟨L, hP, hD, hSh⟩, hU⟩ := hv
  have hx := B.exec
  have hb := B.bytes
  have hr := B.returns
  have hG : ∀ w ∈ aw_G, w.before _ s = true := fun w h => atoms_spec (ws := ws_Cx_takeBytes1) B.pre w (List.mem_cons_of_mem _ h)
  have hown : s.vm.findClass "RuleCiphers$Context" = some m.cls := findClass_of_methodNamed B.named
  have hlocks := B.notSynchronized
  have hE := hU.1
  have hK := hE.1
  have hN := hE.2.1
  have hS : va_S (aw_Z N0) s.heap s.heap [] := va_S.rf
  have hl := lv_entry ([.ref (aw_c ad j 0), .ref (aw_r ad 2), .int (nI k), .int (nI mm)] : List Value) (n := 4) (Nat.le_of_ble_eq_true rfl)
  rw [lg_entry_eq]
  generalize (lg_sl ([.ref (aw_c ad j 0), .ref (aw_r ad 2), .int (nI k), .int (nI mm)] : List Value) ++ List.replicate (4 - (lg_sl ([.ref (aw_c ad j 0), .ref (aw_r ad 2), .int (nI k), .int (nI mm)] : List Value)).length) Slot.unset).toArray = ls at hl ⊢
  have hl : lv_has ls 4 [(0, .ref (aw_c ad j 0)), (1, .ref (aw_r ad 2)), (2, .int (nI k)), (3, .int (nI mm))] := hl
  refine lv_aload_n hx hb d_Cx_takeBytes_0 rfl (lv_at hl 0 rfl) ?_
  obtain ⟨o2, y3, y4, y5, x6, x7, ho8, he1⟩ := rd_C0 hSh hj
  have hg := hSh.2.2.2.2.1 j hj
  refine va_get (C := R_Cx) (T := T_Cx) (N := 10) (v := .ref (aw_c ad j 15)) hx hb hG in_Cx hown hK hP (3 + 16 * j + 0) he1 rfl 1 (by decide) (hG _ gw_1_55) (fun _ h => h) rfl d_Cx_takeBytes_1 ?_
  refine lv_aload_n hx hb d_Cx_takeBytes_4 rfl (lv_at hl 0 rfl) ?_
  obtain ⟨o10, y11, y12, y13, x14, x15, ho16, he9⟩ := rd_C0 hSh hj
  have hg := hSh.2.2.2.2.1 j hj
  refine va_get (C := R_Cx) (T := T_Cx) (N := 10) (v := .ref (aw_c ad j o10)) hx hb hG in_Cx hown hK hP (3 + 16 * j + 0) he9 rfl 4 (by decide) (hG _ gw_2_0) (fun _ h => h) rfl d_Cx_takeBytes_5 ?_
  refine lv_aload_n hx hb d_Cx_takeBytes_8 rfl (lv_at hl 1 rfl) ?_
  refine lv_iload_n hx hb d_Cx_takeBytes_9 rfl (lv_at hl 2 rfl) ?_
  refine lv_iload_n hx hb d_Cx_takeBytes_10 rfl (lv_at hl 3 rfl) ?_
  obtain ⟨_, _, _, _, he17⟩ := rd_C15 hSh hj
  refine va_calli (va_runV (As := [.ref (aw_c ad j o10), .ref (aw_r ad 2), .int (nI k), .int (nI mm)]) (rest := []) ⟨hx, hb, hml, hown, hG⟩ (k_Tk_add1 l D g ad G M F N0 j o10 k mm hj ho16 hk) (aw_wV 4 hG gw_8_52 gw_8_49 gw_0_9 gw_8_50 gw_8_51 rfl rfl hd_Tk_add ⟨Nat.le_of_ble_eq_true rfl, Nat.le_of_ble_eq_true rfl⟩) (aw_qV (va_recv hK hP rfl he17) hP hD hSh hU hS) rfl rfl hl.1 rfl (lv_room (Nat.le_of_ble_eq_true rfl)) d_Cx_takeBytes_11 ⟨Nat.le_of_ble_eq_true rfl, Nat.le_of_ble_eq_true rfl⟩) hS (fun _ _ h => h) (fun _ h => h) (fun x18 u8 t8 H locs ht _ _ hB _ _ hS => ?_)
  obtain ⟨L, hP, hD, hSh⟩ := hB
  rw [ht] at hP
  clear ht
  exact W.iret hx hb hr (fun t ht hW => ⟨⟨_, (), rfl, trivial, aw_Hr ht hP hD hSh⟩, hS.F ht⟩) hS.2.2 d_Cx_takeBytes_14
abbrev ws_Cx_tellTag : List Cond := Cond.code y_Cx_tellTag b_Cx_tellTag 3 (some .long) :: aw_G
abbrev rm_Cx_tellTag : Room := { frames := 4, cells := 0, slots := 0, locals := 104 }
set_option maxHeartbeats 4000000 in
set_option maxRecDepth 100000 in
theorem k_Cx_tellTag (l : Launch) (D : va_G) (g : Nat → ClassId) (ad : Nat → Nat) (G M : Nat → Nat × Nat) (F : Int32) (N0 : Nat) (j : Nat) (hj : j < 4) : Met l y_Cx_tellTag ws_Cx_tellTag rm_Cx_tellTag (va_Pc ([.ref (aw_c ad j 0)] : List Value) (aw_B D g ad G M F N0)) (va_Ql (fun r (_ : Unit) => True) (fun (_ : Unit) t => aw_H D g ad G M F N0 t.heap) (aw_Z N0)) 0 0 (aw_Z N0) := by
  refine Met.ofW (cc := b_Cx_tellTag) (maxL := 3) (ret := (some .long)) (by decide) rfl ?_
  intro p e s m args below meth c s₁ B hml hv
  obtain ⟨rfl, ⟨L, hP, hD, hSh⟩, hU⟩ := hv
  have hx := B.exec
  have hb := B.bytes
  have hr := B.returns
  have hG : ∀ w ∈ aw_G, w.before _ s = true := fun w h => atoms_spec (ws := ws_Cx_tellTag) B.pre w (List.mem_cons_of_mem _ h)
  have hown : s.vm.findClass "RuleCiphers$Context" = some m.cls := findClass_of_methodNamed B.named
  have hlocks := B.notSynchronized
  have hE := hU.1
  have hK := hE.1
  have hN := hE.2.1
  have hS : va_S (aw_Z N0) s.heap s.heap [] := va_S.rf
  have hl := lv_entry ([.ref (aw_c ad j 0)] : List Value) (n := 3) (Nat.le_of_ble_eq_true rfl)
  rw [lg_entry_eq]
  generalize (lg_sl ([.ref (aw_c ad j 0)] : List Value) ++ List.replicate (3 - (lg_sl ([.ref (aw_c ad j 0)] : List Value)).length) Slot.unset).toArray = ls at hl ⊢
  have hl : lv_has ls 3 [(0, .ref (aw_c ad j 0))] := hl
  refine lv_aload_n hx hb d_Cx_tellTag_0 rfl (lv_at hl 0 rfl) ?_
  obtain ⟨o2, y3, y4, y5, x6, x7, ho8, he1⟩ := rd_C0 hSh hj
  have hg := hSh.2.2.2.2.1 j hj
  refine va_get (C := R_Cx) (T := T_Cx) (N := 10) (v := .ref (aw_c ad j 15)) hx hb hG in_Cx hown hK hP (3 + 16 * j + 0) he1 rfl 1 (by decide) (hG _ gw_1_55) (fun _ h => h) rfl d_Cx_tellTag_1 ?_
  refine lv_aload_n hx hb d_Cx_tellTag_4 rfl (lv_at hl 0 rfl) ?_
  obtain ⟨o10, y11, y12, y13, x14, x15, ho16, he9⟩ := rd_C0 hSh hj
  have hg := hSh.2.2.2.2.1 j hj
  refine va_get (C := R_Cx) (T := T_Cx) (N := 10) (v := .ref (aw_c ad j o10)) hx hb hG in_Cx hown hK hP (3 + 16 * j + 0) he9 rfl 4 (by decide) (hG _ gw_2_0) (fun _ h => h) rfl d_Cx_tellTag_5 ?_
  obtain ⟨_, _, _, _, he17⟩ := rd_C15 hSh hj
  refine va_calll (va_runV (As := [.ref (aw_c ad j o10)]) (rest := []) ⟨hx, hb, hml, hown, hG⟩ (k_Tk_tagBy l D g ad G M F N0 j o10 hj ho16) (aw_wV 1 hG gw_9_14 gw_9_11 gw_0_9 gw_9_12 gw_9_13 rfl rfl hd_Tk_tagBy ⟨Nat.le_of_ble_eq_true rfl, Nat.le_of_ble_eq_true rfl⟩) (aw_qV (va_recv hK hP rfl he17) hP hD hSh hU hS) rfl rfl hl.1 rfl (lv_room (Nat.le_of_ble_eq_true rfl)) d_Cx_tellTag_8 ⟨Nat.le_of_ble_eq_true rfl, Nat.le_of_ble_eq_true rfl⟩) hS (fun _ _ h => h) (fun _ h => h) (fun y18 u8 t8 H locs ht _ _ hB _ _ hS => ?_)
  obtain ⟨L, hP, hD, hSh⟩ := hB
  rw [ht] at hP
  clear ht
  refine lv_lstore_n hx hb d_Cx_tellTag_11 rfl hl (by decide) rfl (fun ls hl => ?_)
  have hl : lv_has ls 3 [(1, .long y18), (0, .ref (aw_c ad j 0))] := hl
  refine lv_aload_n hx hb d_Cx_tellTag_12 rfl (lv_at hl 1 rfl) ?_
  obtain ⟨o20, y21, y22, y23, x24, x25, ho26, he19⟩ := rd_C0 hSh hj
  have hg := hSh.2.2.2.2.1 j hj
  refine va_get (C := R_Cx) (T := T_Cx) (N := 10) (v := .ref (aw_c ad j 15)) hx hb hG in_Cx hown hK hP (3 + 16 * j + 0) he19 rfl 1 (by decide) (hG _ gw_1_55) (fun _ h => h) rfl d_Cx_tellTag_13 ?_
  obtain ⟨_, _, _, _, he27⟩ := rd_C15 hSh hj
  refine va_callv (va_runV (As := []) (rest := []) ⟨hx, hb, hml, hown, hG⟩ (k_Tk_clear l D g ad G M F N0 j hj) (aw_wV 0 hG gw_5_38 gw_5_35 gw_0_9 gw_5_36 gw_5_37 rfl rfl hd_Tk_clear ⟨Nat.le_of_ble_eq_true rfl, Nat.le_of_ble_eq_true rfl⟩) (aw_qV (va_recv hK hP rfl he27) hP hD hSh hU hS) rfl rfl hl.1 rfl (lv_room (Nat.le_of_ble_eq_true rfl)) d_Cx_tellTag_16 ⟨Nat.le_of_ble_eq_true rfl, Nat.le_of_ble_eq_true rfl⟩) hS (fun _ _ h => h) (fun _ h => h) (fun u8 t8 H locs ht _ _ hB _ _ hS => ?_)
  obtain ⟨L, hP, hD, hSh⟩ := hB
  rw [ht] at hP
  clear ht
  refine lv_lload_n hx hb d_Cx_tellTag_19 rfl (lv_at hl 0 rfl) ?_
  exact W.lret hx hb hr (fun t ht hW => ⟨⟨_, (), rfl, trivial, aw_Hr ht hP hD hSh⟩, hS.F ht⟩) hS.2.2 d_Cx_tellTag_20
