abbrev ws_Tk_clear : List Cond := Cond.code y_Tk_clear b_Tk_clear 1 none :: aw_G
abbrev rm_Tk_clear : Room := { frames := 0, cells := 0, slots := 0, locals := 0 }
set_option maxHeartbeats 4000000 in
set_option maxRecDepth 100000 in
theorem k_Tk_clear (l : Launch) (D : va_G) (g : Nat → ClassId) (ad : Nat → Nat) (G M : Nat → Nat × Nat) (F : Int32) (N0 : Nat) (j : Nat) (hj : j < 4) : Met l y_Tk_clear ws_Tk_clear rm_Tk_clear (va_Pc ([.ref (aw_c ad j 15)] : List Value) (aw_B D g ad G M F N0)) (va_Qv (fun (_ : Unit) => True) (fun (_ : Unit) t => aw_H D g ad G M F N0 t.heap) (aw_Z N0)) 0 0 (aw_Z N0) := by
  refine Met.ofW (cc := b_Tk_clear) (maxL := 1) (ret := none) (by decide) rfl ?_
  intro p e s m args below meth c s₁ B hml hv
  obtain ⟨rfl, ⟨L, hP, hD, hSh⟩, hU⟩ := hv
  have hx := B.exec
  have hb := B.bytes
  have hr := B.returns
  have hG : ∀ w ∈ aw_G, w.before _ s = true := fun w h => atoms_spec (ws := ws_Tk_clear) B.pre w (List.mem_cons_of_mem _ h)
  have hown : s.vm.findClass "RuleCiphers$Taken" = some m.cls := findClass_of_methodNamed B.named
  have hlocks := B.notSynchronized
  have hE := hU.1
  have hK := hE.1
  have hN := hE.2.1
  have hS : va_S (aw_Z N0) s.heap s.heap [] := va_S.rf
  have hl := lv_entry ([.ref (aw_c ad j 15)] : List Value) (n := 1) (Nat.le_of_ble_eq_true rfl)
  rw [lg_entry_eq]
  generalize (lg_sl ([.ref (aw_c ad j 15)] : List Value) ++ List.replicate (1 - (lg_sl ([.ref (aw_c ad j 15)] : List Value)).length) Slot.unset).toArray = ls at hl ⊢
  have hl : lv_has ls 1 [(0, .ref (aw_c ad j 15))] := hl
  refine lv_aload_n hx hb d_Tk_clear_0 rfl (lv_at hl 0 rfl) ?_
  refine lv_iconst (v := nI 0) hx hb d_Tk_clear_1 (by decide +kernel) ?_
  obtain ⟨x2, y3, y4, x5, he1⟩ := rd_C15 hSh hj
  refine aw_put (v := .int (nI 0)) (ty := .int) (C := R_Tk) (T := T_Tk) (N := 4) hx hb hG in_Tk t_Tk t_Tk_ok n_Tk hown hK hP hD hS (3 + 16 * j + 15) he1 rfl 0 (by decide) (hG _ gw_1_41) (fun _ h => h) rfl (by decide +kernel) rfl rfl (Nat.le_of_ble_eq_true rfl) d_Tk_clear_2 (wr_C15 hSh hj (nI 0) y3 y4 x5 ) (fun H locs L hP hD hSh hS => ?_)
  refine lv_aload_n hx hb d_Tk_clear_5 rfl (lv_at hl 0 rfl) ?_
  refine lv_lconst (v := 0) hx hb d_Tk_clear_6 (by decide +kernel) ?_
  obtain ⟨x7, y8, y9, x10, he6⟩ := rd_C15 hSh hj
  refine aw_put (v := .long 0) (ty := .long) (C := R_Tk) (T := T_Tk) (N := 4) hx hb hG in_Tk t_Tk t_Tk_ok n_Tk hown hK hP hD hS (3 + 16 * j + 15) he6 rfl 1 (by decide) (hG _ gw_1_42) (fun _ h => h) rfl (by decide +kernel) rfl rfl (Nat.le_of_ble_eq_true rfl) d_Tk_clear_7 (wr_C15 hSh hj x7 0 y9 x10 ) (fun H locs L hP hD hSh hS => ?_)
  refine lv_aload_n hx hb d_Tk_clear_10 rfl (lv_at hl 0 rfl) ?_
  refine lv_lconst (v := 0) hx hb d_Tk_clear_11 (by decide +kernel) ?_
  obtain ⟨x12, y13, y14, x15, he11⟩ := rd_C15 hSh hj
  refine aw_put (v := .long 0) (ty := .long) (C := R_Tk) (T := T_Tk) (N := 4) hx hb hG in_Tk t_Tk t_Tk_ok n_Tk hown hK hP hD hS (3 + 16 * j + 15) he11 rfl 2 (by decide) (hG _ gw_1_43) (fun _ h => h) rfl (by decide +kernel) rfl rfl (Nat.le_of_ble_eq_true rfl) d_Tk_clear_12 (wr_C15 hSh hj x12 y13 0 x15 ) (fun H locs L hP hD hSh hS => ?_)
  refine lv_aload_n hx hb d_Tk_clear_15 rfl (lv_at hl 0 rfl) ?_
  refine lv_iconst (v := nI 0) hx hb d_Tk_clear_16 (by decide +kernel) ?_
  obtain ⟨x17, y18, y19, x20, he16⟩ := rd_C15 hSh hj
  refine aw_put (v := .int (nI 0)) (ty := .int) (C := R_Tk) (T := T_Tk) (N := 4) hx hb hG in_Tk t_Tk t_Tk_ok n_Tk hown hK hP hD hS (3 + 16 * j + 15) he16 rfl 3 (by decide) (hG _ gw_1_44) (fun _ h => h) rfl (by decide +kernel) rfl rfl (Nat.le_of_ble_eq_true rfl) d_Tk_clear_17 (wr_C15 hSh hj x17 y18 y19 (nI 0) ) (fun H locs L hP hD hSh hS => ?_)
  exact W.vret hx hb hr (fun t ht hW => ⟨⟨(), rfl, trivial, aw_Hr ht hP hD hSh⟩, hS.F ht⟩) hS.2.2 d_Tk_clear_20
abbrev ws_Tk_addByte : List Cond := Cond.code y_Tk_addByte b_Tk_addByte 3 none :: aw_G
abbrev rm_Tk_addByte : Room := { frames := 3, cells := 0, slots := 0, locals := 79 }
set_option maxHeartbeats 4000000 in
set_option maxRecDepth 100000 in
theorem k_Tk_addByte (l : Launch) (D : va_G) (g : Nat → ClassId) (ad : Nat → Nat) (G M : Nat → Nat × Nat) (F : Int32) (N0 : Nat) (j : Nat) (o : Nat) (b : Int32) (hj : j < 4) (ho : aw_cof o) : Met l y_Tk_addByte ws_Tk_addByte rm_Tk_addByte (va_Pc ([.ref (aw_c ad j 15), .ref (aw_c ad j o), .int b] : List Value) (aw_B D g ad G M F N0)) (va_Qv (fun (_ : Unit) => True) (fun (_ : Unit) t => aw_H D g ad G M F N0 t.heap) (aw_Z N0)) 0 0 (aw_Z N0) := by
  refine Met.ofW (cc := b_Tk_addByte) (maxL := 3) (ret := none) (by decide) rfl ?_
  intro p e s m args below meth c s₁ B hml hv
  obtain ⟨rfl, ⟨L, hP, hD, hSh⟩, hU⟩ := hv
  have hx := B.exec
  have hb := B.bytes
  have hr := B.returns
  have hG : ∀ w ∈ aw_G, w.before _ s = true := fun w h => atoms_spec (ws := ws_Tk_addByte) B.pre w (List.mem_cons_of_mem _ h)
  have hown : s.vm.findClass "RuleCiphers$Taken" = some m.cls := findClass_of_methodNamed B.named
  have hlocks := B.notSynchronized
  have hE := hU.1
  have hK := hE.1
  have hN := hE.2.1
  have hS : va_S (aw_Z N0) s.heap s.heap [] := va_S.rf
  have hl := lv_entry ([.ref (aw_c ad j 15), .ref (aw_c ad j o), .int b] : List Value) (n := 3) (Nat.le_of_ble_eq_true rfl)
  rw [lg_entry_eq]
  generalize (lg_sl ([.ref (aw_c ad j 15), .ref (aw_c ad j o), .int b] : List Value) ++ List.replicate (3 - (lg_sl ([.ref (aw_c ad j 15), .ref (aw_c ad j o), .int b] : List Value)).length) Slot.unset).toArray = ls at hl ⊢
  have hl : lv_has ls 3 [(0, .ref (aw_c ad j 15)), (1, .ref (aw_c ad j o)), (2, .int b)] := hl
  refine lv_aload_n hx hb d_Tk_addByte_0 rfl (lv_at hl 0 rfl) ?_
  obtain ⟨x2, y3, y4, x5, he1⟩ := rd_C15 hSh hj
  refine va_get (C := R_Tk) (T := T_Tk) (N := 4) (v := .int x5) hx hb hG in_Tk hown hK hP (3 + 16 * j + 15) he1 rfl 3 (by decide) (hG _ gw_1_44) (fun _ h => h) rfl d_Tk_addByte_1 ?_
  refine lv_bipush (v := nI 8) hx hb d_Tk_addByte_4 (by decide +kernel) ?_
  refine lv_icmp_ne (tgt := 36) hx hb d_Tk_addByte_6 (by decide) (fun hb6 => ?_) (fun hb6 => ?_)
  · refine lv_aload_n hx hb d_Tk_addByte_36 rfl (lv_at hl 0 rfl) ?_
    refine lv_dup hx hb d_Tk_addByte_37 rfl ?_
    obtain ⟨x8, y9, y10, x11, he7⟩ := rd_C15 hSh hj
    refine va_get (C := R_Tk) (T := T_Tk) (N := 4) (v := .long y10) hx hb hG in_Tk hown hK hP (3 + 16 * j + 15) he7 rfl 2 (by decide) (hG _ gw_1_43) (fun _ h => h) rfl d_Tk_addByte_38 ?_
    refine lv_iload_n hx hb d_Tk_addByte_41 rfl (lv_at hl 2 rfl) ?_
    refine lv_aload_n hx hb d_Tk_addByte_42 rfl (lv_at hl 0 rfl) ?_
    obtain ⟨x13, y14, y15, x16, he12⟩ := rd_C15 hSh hj
    refine va_get (C := R_Tk) (T := T_Tk) (N := 4) (v := .int x16) hx hb hG in_Tk hown hK hP (3 + 16 * j + 15) he12 rfl 3 (by decide) (hG _ gw_1_44) (fun _ h => h) rfl d_Tk_addByte_43 ?_
    refine aw_cl ((va_runS (As := [.int b, .int x16]) (rest := [.long y10, .ref (aw_c ad j 15)]) ⟨hx, hb, hml, hown, hG⟩ (k_Tk_atByte l b x16) (aw_wS 2 hG gw_8_59 gw_8_57 gw_0_9 gw_8_58 rfl rfl hd_Tk_atByte ⟨Nat.le_of_ble_eq_true rfl, Nat.le_of_ble_eq_true rfl⟩) aw_p0 rfl rfl hl.1 rfl (lv_room (Nat.le_of_ble_eq_true rfl)) d_Tk_addByte_46 ⟨Nat.le_of_ble_eq_true rfl, Nat.le_of_ble_eq_true rfl⟩).run) (fun y17 hy17 => ?_)
    refine lv_lor hx hb d_Tk_addByte_49 ?_
    refine lv_topl (fun y18 _ => ?_)
    obtain ⟨x20, y21, y22, x23, he19⟩ := rd_C15 hSh hj
    refine aw_put (v := .long y18) (ty := .long) (C := R_Tk) (T := T_Tk) (N := 4) hx hb hG in_Tk t_Tk t_Tk_ok n_Tk hown hK hP hD hS (3 + 16 * j + 15) he19 rfl 2 (by decide) (hG _ gw_1_43) (fun _ h => h) rfl (by decide +kernel) rfl rfl (Nat.le_of_ble_eq_true rfl) d_Tk_addByte_50 (wr_C15 hSh hj x20 y21 y18 x23 ) (fun H locs L hP hD hSh hS => ?_)
    refine lv_aload_n hx hb d_Tk_addByte_53 rfl (lv_at hl 0 rfl) ?_
    refine lv_dup hx hb d_Tk_addByte_54 rfl ?_
    obtain ⟨x25, y26, y27, x28, he24⟩ := rd_C15 hSh hj
    refine va_get (C := R_Tk) (T := T_Tk) (N := 4) (v := .int x28) hx hb hG in_Tk hown hK hP (3 + 16 * j + 15) he24 rfl 3 (by decide) (hG _ gw_1_44) (fun _ h => h) rfl d_Tk_addByte_55 ?_
    refine lv_iconst (v := nI 1) hx hb d_Tk_addByte_58 (by decide +kernel) ?_
    refine lv_iadd hx hb d_Tk_addByte_59 ?_
    refine lv_topi (fun x29 _ => ?_)
    obtain ⟨x31, y32, y33, x34, he30⟩ := rd_C15 hSh hj
    refine aw_put (v := .int x29) (ty := .int) (C := R_Tk) (T := T_Tk) (N := 4) hx hb hG in_Tk t_Tk t_Tk_ok n_Tk hown hK hP hD hS (3 + 16 * j + 15) he30 rfl 3 (by decide) (hG _ gw_1_44) (fun _ h => h) rfl (by decide +kernel) rfl rfl (Nat.le_of_ble_eq_true rfl) d_Tk_addByte_60 (wr_C15 hSh hj x31 y32 y33 x29 ) (fun H locs L hP hD hSh hS => ?_)
    exact W.vret hx hb hr (fun t ht hW => ⟨⟨(), rfl, trivial, aw_Hr ht hP hD hSh⟩, hS.F ht⟩) hS.2.2 d_Tk_addByte_63
  · refine lv_aload_n hx hb d_Tk_addByte_9 rfl (lv_at hl 0 rfl) ?_
    refine lv_aload_n hx hb d_Tk_addByte_10 rfl (lv_at hl 1 rfl) ?_
    refine lv_aload_n hx hb d_Tk_addByte_11 rfl (lv_at hl 0 rfl) ?_
    obtain ⟨x36, y37, y38, x39, he35⟩ := rd_C15 hSh hj
    refine va_get (C := R_Tk) (T := T_Tk) (N := 4) (v := .long y37) hx hb hG in_Tk hown hK hP (3 + 16 * j + 15) he35 rfl 1 (by decide) (hG _ gw_1_42) (fun _ h => h) rfl d_Tk_addByte_12 ?_
    refine lv_aload_n hx hb d_Tk_addByte_15 rfl (lv_at hl 0 rfl) ?_
    obtain ⟨x41, y42, y43, x44, he40⟩ := rd_C15 hSh hj
    refine va_get (C := R_Tk) (T := T_Tk) (N := 4) (v := .long y43) hx hb hG in_Tk hown hK hP (3 + 16 * j + 15) he40 rfl 2 (by decide) (hG _ gw_1_43) (fun _ h => h) rfl d_Tk_addByte_16 ?_
    refine lv_lxor hx hb d_Tk_addByte_19 ?_
    refine lv_topl (fun y45 _ => ?_)
    have hrun46 : va_Run p l e (headSpec ws_Tk_addByte rm_Tk_addByte).room s m ([.ref (aw_c ad j 15), .ref (aw_c ad j o), .int b] : List Value).toArray below meth c s.heap [] 0 0 0 0 (F0 m 20 ls [.long y45, .ref (aw_c ad j o), .ref (aw_c ad j 15)]) [.ref (aw_c ad j 15)] (va_Ql (fun r (_ : Unit) => True) (fun (_ : Unit) t => aw_H D g ad G M F N0 t.heap) (aw_Z N0) ([.ref (aw_c ad j o), .long y45] : List Value).toArray) (aw_Z N0) := by
      rcases ho with rfl | rfl | rfl | rfl | rfl
      · have he47 := rd_C2 hSh hj
        exact va_runU (As := [.long y45]) (rest := [.ref (aw_c ad j 15)]) ⟨hx, hb, hml, hown, hG⟩ (k_Rc_on l D g ad G M F N0 j y45 hj) (aw_wA (owner := "RuleCiphers$Cipher") 1 hG hN gw_6_57 gw_8_56 gw_6_51 gw_6_55 gw_6_56 gw_0_4 nw_36 rfl rfl hd_Ci_on ⟨Nat.le_of_ble_eq_true rfl, Nat.le_of_ble_eq_true rfl⟩) (aw_qV (va_recv hK hP rfl he47) hP hD hSh hU hS) rfl rfl hl.1 rfl (lv_room (Nat.le_of_ble_eq_true rfl)) d_Tk_addByte_20 ⟨Nat.le_of_ble_eq_true rfl, Nat.le_of_ble_eq_true rfl⟩
      · have he48 := rd_C5 hSh hj
        exact va_runU (As := [.long y45]) (rest := [.ref (aw_c ad j 15)]) ⟨hx, hb, hml, hown, hG⟩ (k_Xt_on l D g ad G M F N0 j y45 hj) (aw_wA (owner := "RuleCiphers$Cipher") 1 hG hN gw_7_6 gw_8_56 gw_6_51 gw_7_4 gw_7_5 gw_0_5 nw_36 rfl rfl hd_Ci_on ⟨Nat.le_of_ble_eq_true rfl, Nat.le_of_ble_eq_true rfl⟩) (aw_qV (va_recv hK hP rfl he48) hP hD hSh hU hS) rfl rfl hl.1 rfl (lv_room (Nat.le_of_ble_eq_true rfl)) d_Tk_addByte_20 ⟨Nat.le_of_ble_eq_true rfl, Nat.le_of_ble_eq_true rfl⟩
      · have he49 := rd_C7 hSh hj
        exact va_runU (As := [.long y45]) (rest := [.ref (aw_c ad j 15)]) ⟨hx, hb, hml, hown, hG⟩ (k_Sp_on l D g ad G M F N0 j y45 hj) (aw_wA (owner := "RuleCiphers$Cipher") 1 hG hN gw_7_3 gw_8_56 gw_6_51 gw_7_1 gw_7_2 gw_0_6 nw_36 rfl rfl hd_Ci_on ⟨Nat.le_of_ble_eq_true rfl, Nat.le_of_ble_eq_true rfl⟩) (aw_qV (va_recv hK hP rfl he49) hP hD hSh hU hS) rfl rfl hl.1 rfl (lv_room (Nat.le_of_ble_eq_true rfl)) d_Tk_addByte_20 ⟨Nat.le_of_ble_eq_true rfl, Nat.le_of_ble_eq_true rfl⟩
      · have he50 := rd_C10 hSh hj
        exact va_runU (As := [.long y45]) (rest := [.ref (aw_c ad j 15)]) ⟨hx, hb, hml, hown, hG⟩ (k_Si_on l D g ad G M F N0 j y45 hj) (aw_wA (owner := "RuleCiphers$Cipher") 1 hG hN gw_7_0 gw_8_56 gw_6_51 gw_6_58 gw_6_59 gw_0_7 nw_36 rfl rfl hd_Ci_on ⟨Nat.le_of_ble_eq_true rfl, Nat.le_of_ble_eq_true rfl⟩) (aw_qV (va_recv hK hP rfl he50) hP hD hSh hU hS) rfl rfl hl.1 rfl (lv_room (Nat.le_of_ble_eq_true rfl)) d_Tk_addByte_20 ⟨Nat.le_of_ble_eq_true rfl, Nat.le_of_ble_eq_true rfl⟩
      · have he51 := rd_C12 hSh hj
        exact va_runU (As := [.long y45]) (rest := [.ref (aw_c ad j 15)]) ⟨hx, hb, hml, hown, hG⟩ (k_Id_on l D g ad G M F N0 j y45 hj) (aw_wA (owner := "RuleCiphers$Cipher") 1 hG hN gw_6_54 gw_8_56 gw_6_51 gw_6_52 gw_6_53 gw_0_8 nw_36 rfl rfl hd_Ci_on ⟨Nat.le_of_ble_eq_true rfl, Nat.le_of_ble_eq_true rfl⟩) (aw_qV (va_recv hK hP rfl he51) hP hD hSh hU hS) rfl rfl hl.1 rfl (lv_room (Nat.le_of_ble_eq_true rfl)) d_Tk_addByte_20 ⟨Nat.le_of_ble_eq_true rfl, Nat.le_of_ble_eq_true rfl⟩
    refine va_calll hrun46 hS (fun _ _ h => h) (fun _ h => h) (fun y52 u8 t8 H locs ht _ _ hB _ _ hS => ?_)
    obtain ⟨L, hP, hD, hSh⟩ := hB
    rw [ht] at hP
    clear ht
    obtain ⟨x54, y55, y56, x57, he53⟩ := rd_C15 hSh hj
    refine aw_put (v := .long y52) (ty := .long) (C := R_Tk) (T := T_Tk) (N := 4) hx hb hG in_Tk t_Tk t_Tk_ok n_Tk hown hK hP hD hS (3 + 16 * j + 15) he53 rfl 1 (by decide) (hG _ gw_1_42) (fun _ h => h) rfl (by decide +kernel) rfl rfl (Nat.le_of_ble_eq_true rfl) d_Tk_addByte_23 (wr_C15 hSh hj x54 y52 y56 x57 ) (fun H locs L hP hD hSh hS => ?_)
    refine lv_aload_n hx hb d_Tk_addByte_26 rfl (lv_at hl 0 rfl) ?_
    refine lv_lconst (v := 0) hx hb d_Tk_addByte_27 (by decide +kernel) ?_
    obtain ⟨x59, y60, y61, x62, he58⟩ := rd_C15 hSh hj
    refine aw_put (v := .long 0) (ty := .long) (C := R_Tk) (T := T_Tk) (N := 4) hx hb hG in_Tk t_Tk t_Tk_ok n_Tk hown hK hP hD hS (3 + 16 * j + 15) he58 rfl 2 (by decide) (hG _ gw_1_43) (fun _ h => h) rfl (by decide +kernel) rfl rfl (Nat.le_of_ble_eq_true rfl) d_Tk_addByte_28 (wr_C15 hSh hj x59 y60 0 x62 ) (fun H locs L hP hD hSh hS => ?_)
    refine lv_aload_n hx hb d_Tk_addByte_31 rfl (lv_at hl 0 rfl) ?_
    refine lv_iconst (v := nI 0) hx hb d_Tk_addByte_32 (by decide +kernel) ?_
    obtain ⟨x64, y65, y66, x67, he63⟩ := rd_C15 hSh hj
    refine aw_put (v := .int (nI 0)) (ty := .int) (C := R_Tk) (T := T_Tk) (N := 4) hx hb hG in_Tk t_Tk t_Tk_ok n_Tk hown hK hP hD hS (3 + 16 * j + 15) he63 rfl 3 (by decide) (hG _ gw_1_44) (fun _ h => h) rfl (by decide +kernel) rfl rfl (Nat.le_of_ble_eq_true rfl) d_Tk_addByte_33 (wr_C15 hSh hj x64 y65 y66 (nI 0) ) (fun H locs L hP hD hSh hS => ?_)
    refine lv_aload_n hx hb d_Tk_addByte_36 rfl (lv_at hl 0 rfl) ?_
    refine lv_dup hx hb d_Tk_addByte_37 rfl ?_
    obtain ⟨x69, y70, y71, x72, he68⟩ := rd_C15 hSh hj
    refine va_get (C := R_Tk) (T := T_Tk) (N := 4) (v := .long y71) hx hb hG in_Tk hown hK hP (3 + 16 * j + 15) he68 rfl 2 (by decide) (hG _ gw_1_43) (fun _ h => h) rfl d_Tk_addByte_38 ?_
    refine lv_iload_n hx hb d_Tk_addByte_41 rfl (lv_at hl 2 rfl) ?_
    refine lv_aload_n hx hb d_Tk_addByte_42 rfl (lv_at hl 0 rfl) ?_
    obtain ⟨x74, y75, y76, x77, he73⟩ := rd_C15 hSh hj
    refine va_get (C := R_Tk) (T := T_Tk) (N := 4) (v := .int x77) hx hb hG in_Tk hown hK hP (3 + 16 * j + 15) he73 rfl 3 (by decide) (hG _ gw_1_44) (fun _ h => h) rfl d_Tk_addByte_43 ?_
    refine aw_cl ((va_runS (As := [.int b, .int x77]) (rest := [.long y71, .ref (aw_c ad j 15)]) ⟨hx, hb, hml, hown, hG⟩ (k_Tk_atByte l b x77) (aw_wS 2 hG gw_8_59 gw_8_57 gw_0_9 gw_8_58 rfl rfl hd_Tk_atByte ⟨Nat.le_of_ble_eq_true rfl, Nat.le_of_ble_eq_true rfl⟩) aw_p0 rfl rfl hl.1 rfl (lv_room (Nat.le_of_ble_eq_true rfl)) d_Tk_addByte_46 ⟨Nat.le_of_ble_eq_true rfl, Nat.le_of_ble_eq_true rfl⟩).run) (fun y78 hy78 => ?_)
    refine lv_lor hx hb d_Tk_addByte_49 ?_
    refine lv_topl (fun y79 _ => ?_)
    obtain ⟨x81, y82, y83, x84, he80⟩ := rd_C15 hSh hj
    refine aw_put (v := .long y79) (ty := .long) (C := R_Tk) (T := T_Tk) (N := 4) hx hb hG in_Tk t_Tk t_Tk_ok n_Tk hown hK hP hD hS (3 + 16 * j + 15) he80 rfl 2 (by decide) (hG _ gw_1_43) (fun _ h => h) rfl (by decide +kernel) rfl rfl (Nat.le_of_ble_eq_true rfl) d_Tk_addByte_50 (wr_C15 hSh hj x81 y82 y79 x84 ) (fun H locs L hP hD hSh hS => ?_)
    refine lv_aload_n hx hb d_Tk_addByte_53 rfl (lv_at hl 0 rfl) ?_
    refine lv_dup hx hb d_Tk_addByte_54 rfl ?_
    obtain ⟨x86, y87, y88, x89, he85⟩ := rd_C15 hSh hj
    refine va_get (C := R_Tk) (T := T_Tk) (N := 4) (v := .int x89) hx hb hG in_Tk hown hK hP (3 + 16 * j + 15) he85 rfl 3 (by decide) (hG _ gw_1_44) (fun _ h => h) rfl d_Tk_addByte_55 ?_
    refine lv_iconst (v := nI 1) hx hb d_Tk_addByte_58 (by decide +kernel) ?_
    refine lv_iadd hx hb d_Tk_addByte_59 ?_
    refine lv_topi (fun x90 _ => ?_)
    obtain ⟨x92, y93, y94, x95, he91⟩ := rd_C15 hSh hj
    refine aw_put (v := .int x90) (ty := .int) (C := R_Tk) (T := T_Tk) (N := 4) hx hb hG in_Tk t_Tk t_Tk_ok n_Tk hown hK hP hD hS (3 + 16 * j + 15) he91 rfl 3 (by decide) (hG _ gw_1_44) (fun _ h => h) rfl (by decide +kernel) rfl rfl (Nat.le_of_ble_eq_true rfl) d_Tk_addByte_60 (wr_C15 hSh hj x92 y93 y94 x90 ) (fun H locs L hP hD hSh hS => ?_)
    exact W.vret hx hb hr (fun t ht hW => ⟨⟨(), rfl, trivial, aw_Hr ht hP hD hSh⟩, hS.F ht⟩) hS.2.2 d_Tk_addByte_63
abbrev ws_Tk_add0 : List Cond := Cond.code y_Tk_add b_Tk_add 6 (some .int) :: aw_G
abbrev rm_Tk_add0 : Room := { frames := 0, cells := 0, slots := 0, locals := 0 }
set_option maxHeartbeats 4000000 in
set_option maxRecDepth 100000 in
theorem k_Tk_add0 (l : Launch) (D : va_G) (g : Nat → ClassId) (ad : Nat → Nat) (G M : Nat → Nat × Nat) (F : Int32) (N0 : Nat) (j : Nat) (o : Nat) (fr : Int32) (hj : j < 4) (ho : aw_cof o) : Met l y_Tk_add ws_Tk_add0 rm_Tk_add0 (va_Pc ([.ref (aw_c ad j 15), .ref (aw_c ad j o), .ref (aw_r ad 2), .int fr, .int (nI 0)] : List Value) (aw_B D g ad G M F N0)) (va_Qi (fun r (_ : Unit) => True) (fun (_ : Unit) t => aw_H D g ad G M F N0 t.heap) (aw_Z N0)) 0 0 (aw_Z N0) := by
  refine Met.ofW (cc := b_Tk_add) (maxL := 6) (ret := (some .int)) (by decide) rfl ?_
  intro p e s m args below meth c s₁ B hml hv
  obtain ⟨rfl, ⟨L, hP, hD, hSh⟩, hU⟩ := hv
  have hx := B.exec
  have hb := B.bytes
  have hr := B.returns
  have hG : ∀ w ∈ aw_G, w.before _ s = true := fun w h => atoms_spec (ws := ws_Tk_add0) B.pre w (List.mem_cons_of_mem _ h)
  have hown : s.vm.findClass "RuleCiphers$Taken" = some m.cls := findClass_of_methodNamed B.named
  have hlocks := B.notSynchronized
  have hE := hU.1
  have hK := hE.1
  have hN := hE.2.1
  have hS : va_S (aw_Z N0) s.heap s.heap [] := va_S.rf
  have hl := lv_entry ([.ref (aw_c ad j 15), .ref (aw_c ad j o), .ref (aw_r ad 2), .int fr, .int (nI 0)] : List Value) (n := 6) (Nat.le_of_ble_eq_true rfl)
  rw [lg_entry_eq]
  generalize (lg_sl ([.ref (aw_c ad j 15), .ref (aw_c ad j o), .ref (aw_r ad 2), .int fr, .int (nI 0)] : List Value) ++ List.replicate (6 - (lg_sl ([.ref (aw_c ad j 15), .ref (aw_c ad j o), .ref (aw_r ad 2), .int fr, .int (nI 0)] : List Value)).length) Slot.unset).toArray = ls at hl ⊢
  have hl : lv_has ls 6 [(0, .ref (aw_c ad j 15)), (1, .ref (aw_c ad j o)), (2, .ref (aw_r ad 2)), (3, .int fr), (4, .int (nI 0))] := hl
  refine lv_iconst (v := nI 0) hx hb d_Tk_add_0 (by decide +kernel) ?_
  refine lv_istore hx hb d_Tk_add_1 hl (by decide) rfl (fun ls hl => ?_)
  have hl : lv_has ls 6 [(5, .int (nI 0)), (0, .ref (aw_c ad j 15)), (1, .ref (aw_c ad j o)), (2, .ref (aw_r ad 2)), (3, .int fr), (4, .int (nI 0))] := hl
  refine lv_iload hx hb d_Tk_add_3 (lv_at hl 0 rfl) ?_
  refine lv_iload hx hb d_Tk_add_5 (lv_at hl 5 rfl) ?_
  refine lv_icmp_ge (tgt := 27) hx hb d_Tk_add_7 (by decide) (fun _ => ?_) (fun h => absurd (by decide +kernel) h)
  refine lv_aload_n hx hb d_Tk_add_27 rfl (lv_at hl 1 rfl) ?_
  refine lv_dup hx hb d_Tk_add_28 rfl ?_
  obtain ⟨x2, y3, y4, x5, he1⟩ := rd_C15 hSh hj
  refine va_get (C := R_Tk) (T := T_Tk) (N := 4) (v := .int x2) hx hb hG in_Tk hown hK hP (3 + 16 * j + 15) he1 rfl 0 (by decide) (hG _ gw_1_41) (fun _ h => h) rfl d_Tk_add_29 ?_
  refine lv_iload hx hb d_Tk_add_32 (lv_at hl 5 rfl) ?_
  refine lv_iadd hx hb d_Tk_add_34 ?_
  refine lv_topi (fun x6 _ => ?_)
  obtain ⟨x8, y9, y10, x11, he7⟩ := rd_C15 hSh hj
  refine aw_put (v := .int x6) (ty := .int) (C := R_Tk) (T := T_Tk) (N := 4) hx hb hG in_Tk t_Tk t_Tk_ok n_Tk hown hK hP hD hS (3 + 16 * j + 15) he7 rfl 0 (by decide) (hG _ gw_1_41) (fun _ h => h) rfl (by decide +kernel) rfl rfl (Nat.le_of_ble_eq_true rfl) d_Tk_add_35 (wr_C15 hSh hj x6 y9 y10 x11 ) (fun H locs L hP hD hSh hS => ?_)
  refine lv_aload_n hx hb d_Tk_add_38 rfl (lv_at hl 1 rfl) ?_
  obtain ⟨x13, y14, y15, x16, he12⟩ := rd_C15 hSh hj
  refine va_get (C := R_Tk) (T := T_Tk) (N := 4) (v := .int x13) hx hb hG in_Tk hown hK hP (3 + 16 * j + 15) he12 rfl 0 (by decide) (hG _ gw_1_41) (fun _ h => h) rfl d_Tk_add_39 ?_
  exact W.iret hx hb hr (fun t ht hW => ⟨⟨_, (), rfl, trivial, aw_Hr ht hP hD hSh⟩, hS.F ht⟩) hS.2.2 d_Tk_add_42
abbrev ws_Tk_add1 : List Cond := Cond.code y_Tk_add b_Tk_add 6 (some .int) :: aw_G
abbrev rm_Tk_add1 : Room := { frames := 4, cells := 0, slots := 0, locals := 101 }
set_option maxHeartbeats 4000000 in
set_option maxRecDepth 100000 in
theorem k_Tk_add1 (l : Launch) (D : va_G) (g : Nat → ClassId) (ad : Nat → Nat) (G M : Nat → Nat × Nat) (F : Int32) (N0 : Nat) (j : Nat) (o : Nat) (k : Nat) (mm : Nat) (hj : j < 4) (ho : aw_cof o) (hk : k + mm ≤ 64) : Met l y_Tk_add ws_Tk_add1 rm_Tk_add1 (va_Pc ([.ref (aw_c ad j 15), .ref (aw_c ad j o), .ref (aw_r ad 2), .int (nI k), .int (nI mm)] : List Value) (aw_B D g ad G M F N0)) (va_Qi (fun r (_ : Unit) => True) (fun (_ : Unit) t => aw_H D g ad G M F N0 t.heap) (aw_Z N0)) 0 0 (aw_Z N0) := by
  refine Met.ofW (cc := b_Tk_add) (maxL := 6) (ret := (some .int)) (by decide) rfl ?_
  intro p e s m args below meth c s₁ B hml hv
  obtain ⟨rfl, ⟨L, hP, hD, hSh⟩, hU⟩ := hv
  have hx := B.exec
  have hb := B.bytes
  have hr := B.returns
  have hG : ∀ w ∈ aw_G, w.before _ s = true := fun w h => atoms_spec (ws := ws_Tk_add1) B.pre w (List.mem_cons_of_mem _ h)
  have hown : s.vm.findClass "RuleCiphers$Taken" = some m.cls := findClass_of_methodNamed B.named
  have hlocks := B.notSynchronized
  have hE := hU.1
  have hK := hE.1
  have hN := hE.2.1
  have hS : va_S (aw_Z N0) s.heap s.heap [] := va_S.rf
  have hl := lv_entry ([.ref (aw_c ad j 15), .ref (aw_c ad j o), .ref (aw_r ad 2), .int (nI k), .int (nI mm)] : List Value) (n := 6) (Nat.le_of_ble_eq_true rfl)
  rw [lg_entry_eq]
  generalize (lg_sl ([.ref (aw_c ad j 15), .ref (aw_c ad j o), .ref (aw_r ad 2), .int (nI k), .int (nI mm)] : List Value) ++ List.replicate (6 - (lg_sl ([.ref (aw_c ad j 15), .ref (aw_c ad j o), .ref (aw_r ad 2), .int (nI k), .int (nI mm)] : List Value)).length) Slot.unset).toArray = ls at hl ⊢
  have hl : lv_has ls 6 [(0, .ref (aw_c ad j 15)), (1, .ref (aw_c ad j o)), (2, .ref (aw_r ad 2)), (3, .int (nI k)), (4, .int (nI mm))] := hl
  refine lv_iconst (v := nI 0) hx hb d_Tk_add_0 (by decide +kernel) ?_
  refine lv_istore hx hb d_Tk_add_1 hl (by decide) rfl (fun ls hl => ?_)
  have hl : lv_has ls 6 [(5, .int (nI 0)), (0, .ref (aw_c ad j 15)), (1, .ref (aw_c ad j o)), (2, .ref (aw_r ad 2)), (3, .int (nI k)), (4, .int (nI mm))] := hl
  have L3 : ∀ (d t : Nat)  (H : Heap) (locs : List Loc) (L : va_W) (ls : Array Slot), t + d = mm → va_P D aw_C L H → va_D (aw_Z N0) L → aw_Sh g ad G M F L → va_S (aw_Z N0) s.heap H locs → lv_has ls 6 [(0, .ref (aw_c ad j 15)), (1, .ref (aw_c ad j o)), (2, .ref (aw_r ad 2)), (3, .int (nI k)), (4, .int (nI mm)), (5, .int (nI t))] → W p l e (headSpec ws_Tk_add1 rm_Tk_add1).room s m ([.ref (aw_c ad j 15), .ref (aw_c ad j o), .ref (aw_r ad 2), .int (nI k), .int (nI mm)] : List Value).toArray below meth c H locs 0 0 (MQ below (va_Qi (fun r (_ : Unit) => True) (fun (_ : Unit) t => aw_H D g ad G M F N0 t.heap) (aw_Z N0)) ([.ref (aw_c ad j 15), .ref (aw_c ad j o), .ref (aw_r ad 2), .int (nI k), .int (nI mm)] : List Value).toArray s 0 0 (aw_Z N0)) (F0 m 3 ls []) := by
    clear hP hD hSh hS
    clear hl
    intro d
    induction d with
    | zero => 
      intro t  H locs L ls ht0 hP hD hSh hS hl
      refine lv_iload hx hb d_Tk_add_3 (lv_at hl 5 rfl) ?_
      refine lv_iload hx hb d_Tk_add_5 (lv_at hl 4 rfl) ?_
      refine lv_icmp_ge (tgt := 27) hx hb d_Tk_add_7 (by decide) (fun _ => ?_) (fun h => absurd (show nI mm ≤ nI t from (nI_leI (by omega) (by omega)).mpr (by omega)) h)
      refine lv_aload_n hx hb d_Tk_add_27 rfl (lv_at hl 0 rfl) ?_
      refine lv_dup hx hb d_Tk_add_28 rfl ?_
      obtain ⟨x2, y3, y4, x5, he1⟩ := rd_C15 hSh hj
      refine va_get (C := R_Tk) (T := T_Tk) (N := 4) (v := .int x2) hx hb hG in_Tk hown hK hP (3 + 16 * j + 15) he1 rfl 0 (by decide) (hG _ gw_1_41) (fun _ h => h) rfl d_Tk_add_29 ?_
      refine lv_iload hx hb d_Tk_add_32 (lv_at hl 4 rfl) ?_
      refine lv_iadd hx hb d_Tk_add_34 ?_
      refine lv_topi (fun x6 _ => ?_)
      obtain ⟨x8, y9, y10, x11, he7⟩ := rd_C15 hSh hj
      refine aw_put (v := .int x6) (ty := .int) (C := R_Tk) (T := T_Tk) (N := 4) hx hb hG in_Tk t_Tk t_Tk_ok n_Tk hown hK hP hD hS (3 + 16 * j + 15) he7 rfl 0 (by decide) (hG _ gw_1_41) (fun _ h => h) rfl (by decide +kernel) rfl rfl (Nat.le_of_ble_eq_true rfl) d_Tk_add_35 (wr_C15 hSh hj x6 y9 y10 x11 ) (fun H locs L hP hD hSh hS => ?_)
      refine lv_aload_n hx hb d_Tk_add_38 rfl (lv_at hl 0 rfl) ?_
      obtain ⟨x13, y14, y15, x16, he12⟩ := rd_C15 hSh hj
      refine va_get (C := R_Tk) (T := T_Tk) (N := 4) (v := .int x13) hx hb hG in_Tk hown hK hP (3 + 16 * j + 15) he12 rfl 0 (by decide) (hG _ gw_1_41) (fun _ h => h) rfl d_Tk_add_39 ?_
      exact W.iret hx hb hr (fun t ht hW => ⟨⟨_, (), rfl, trivial, aw_Hr ht hP hD hSh⟩, hS.F ht⟩) hS.2.2 d_Tk_add_42
    | succ d ih => 
      intro t  H locs L ls ht0 hP hD hSh hS hl
      refine lv_iload hx hb d_Tk_add_3 (lv_at hl 5 rfl) ?_
      refine lv_iload hx hb d_Tk_add_5 (lv_at hl 4 rfl) ?_
      refine lv_icmp_ge (tgt := 27) hx hb d_Tk_add_7 (by decide) (fun h => absurd h (show ¬ nI mm ≤ nI t from fun h9 => absurd ((nI_leI (by omega) (by omega)).mp h9) (by omega))) (fun _ => ?_)
      refine lv_aload_n hx hb d_Tk_add_10 rfl (lv_at hl 0 rfl) ?_
      refine lv_aload_n hx hb d_Tk_add_11 rfl (lv_at hl 1 rfl) ?_
      refine lv_aload_n hx hb d_Tk_add_12 rfl (lv_at hl 2 rfl) ?_
      refine lv_iload_n hx hb d_Tk_add_13 rfl (lv_at hl 3 rfl) ?_
      refine lv_iload hx hb d_Tk_add_14 (lv_at hl 5 rfl) ?_
      refine lv_iadd hx hb d_Tk_add_16 ?_
      refine aw_ti (nI_add k t) ?_
      obtain ⟨f18, he17⟩ := rd_R2 hSh
      refine aw_ild hx hb hK hP 2 0 he17 rfl (k := (k + t)) (by omega) (by decide) d_Tk_add_17 ?_
      refine lv_topi (fun x19 _ => ?_)
      obtain ⟨_, _, _, _, he20⟩ := rd_C15 hSh hj
      refine va_callv (va_runV (As := [.ref (aw_c ad j o), .int x19]) (rest := []) ⟨hx, hb, hml, hown, hG⟩ (k_Tk_addByte l D g ad G M F N0 j o x19 hj ho) (aw_wV 2 hG gw_8_55 gw_8_53 gw_0_9 gw_8_54 gw_p_8 rfl rfl hd_Tk_addByte ⟨Nat.le_of_ble_eq_true rfl, Nat.le_of_ble_eq_true rfl⟩) (aw_qV (va_recv hK hP rfl he20) hP hD hSh hU hS) rfl rfl hl.1 rfl (lv_room (Nat.le_of_ble_eq_true rfl)) d_Tk_add_18 ⟨Nat.le_of_ble_eq_true rfl, Nat.le_of_ble_eq_true rfl⟩) hS (fun _ _ h => h) (fun _ h => h) (fun u8 t8 H locs ht _ _ hB _ _ hS => ?_)
      obtain ⟨L, hP, hD, hSh⟩ := hB
      rw [ht] at hP
      clear ht
      refine lv_iinc (k := 5) (v := nI (t + 1)) hx hb d_Tk_add_21 hl rfl (aw_inc t 1 1 (by decide +kernel)) (by decide) rfl (fun ls hl => ?_)
      have hl : lv_has ls 6 [(5, .int (nI (t + 1))), (0, .ref (aw_c ad j 15)), (1, .ref (aw_c ad j o)), (2, .ref (aw_r ad 2)), (3, .int (nI k)), (4, .int (nI mm))] := hl
      refine lv_goto (tgt := 3) hx hb d_Tk_add_24 (by decide) ?_
      have hl := lv_sub hl (l' := [(0, .ref (aw_c ad j 15)), (1, .ref (aw_c ad j o)), (2, .ref (aw_r ad 2)), (3, .int (nI k)), (4, .int (nI mm)), (5, .int (nI (t + 1)))]) [1, 2, 3, 4, 5, 0] rfl
      exact ih (t + 1)  H locs L ls (by omega) hP hD hSh hS (by first | exact hl | simpa [Nat.add_assoc, Nat.mul_add, Nat.add_comm] using hl)
  have hl := lv_sub hl (l' := [(0, .ref (aw_c ad j 15)), (1, .ref (aw_c ad j o)), (2, .ref (aw_r ad 2)), (3, .int (nI k)), (4, .int (nI mm)), (5, .int (nI 0))]) [1, 2, 3, 4, 5, 0] rfl
  exact L3 mm 0  _ _ _ ls (by omega) hP hD hSh hS (by first | exact hl | simpa using hl)
abbrev ws_Tk_tagBy : List Cond := Cond.code y_Tk_tagBy b_Tk_tagBy 6 (some .long) :: aw_G
abbrev rm_Tk_tagBy : Room := { frames := 3, cells := 0, slots := 0, locals := 79 }
set_option maxHeartbeats 4000000 in
set_option maxRecDepth 100000 in
theorem k_Tk_tagBy (l : Launch) (D : va_G) (g : Nat → ClassId) (ad : Nat → Nat) (G M : Nat → Nat × Nat) (F : Int32) (N0 : Nat) (j : Nat) (o : Nat) (hj : j < 4) (ho : aw_cof o) : Met l y_Tk_tagBy ws_Tk_tagBy rm_Tk_tagBy (va_Pc ([.ref (aw_c ad j 15), .ref (aw_c ad j o)] : List Value) (aw_B D g ad G M F N0)) (va_Ql (fun r (_ : Unit) => True) (fun (_ : Unit) t => aw_H D g ad G M F N0 t.heap) (aw_Z N0)) 0 0 (aw_Z N0) := by
  refine Met.ofW (cc := b_Tk_tagBy) (maxL := 6) (ret := (some .long)) (by decide) rfl ?_
  intro p e s m args below meth c s₁ B hml hv
  obtain ⟨rfl, ⟨L, hP, hD, hSh⟩, hU⟩ := hv
  have hx := B.exec
  have hb := B.bytes
  have hr := B.returns
  have hG : ∀ w ∈ aw_G, w.before _ s = true := fun w h => atoms_spec (ws := ws_Tk_tagBy) B.pre w (List.mem_cons_of_mem _ h)
  have hown : s.vm.findClass "RuleCiphers$Taken" = some m.cls := findClass_of_methodNamed B.named
  have hlocks := B.notSynchronized
  have hE := hU.1
  have hK := hE.1
  have hN := hE.2.1
  have hS : va_S (aw_Z N0) s.heap s.heap [] := va_S.rf
  have hl := lv_entry ([.ref (aw_c ad j 15), .ref (aw_c ad j o)] : List Value) (n := 6) (Nat.le_of_ble_eq_true rfl)
  rw [lg_entry_eq]
  generalize (lg_sl ([.ref (aw_c ad j 15), .ref (aw_c ad j o)] : List Value) ++ List.replicate (6 - (lg_sl ([.ref (aw_c ad j 15), .ref (aw_c ad j o)] : List Value)).length) Slot.unset).toArray = ls at hl ⊢
  have hl : lv_has ls 6 [(0, .ref (aw_c ad j 15)), (1, .ref (aw_c ad j o))] := hl
  refine lv_aload_n hx hb d_Tk_tagBy_0 rfl (lv_at hl 1 rfl) ?_
  refine lv_lconst (v := 0) hx hb d_Tk_tagBy_1 (by decide +kernel) ?_
  have hrun1 : va_Run p l e (headSpec ws_Tk_tagBy rm_Tk_tagBy).room s m ([.ref (aw_c ad j 15), .ref (aw_c ad j o)] : List Value).toArray below meth c s.heap [] 0 0 0 0 (F0 m 2 ls [.long 0, .ref (aw_c ad j o)]) [] (va_Ql (fun r (_ : Unit) => True) (fun (_ : Unit) t => aw_H D g ad G M F N0 t.heap) (aw_Z N0) ([.ref (aw_c ad j o), .long 0] : List Value).toArray) (aw_Z N0) := by
    rcases ho with rfl | rfl | rfl | rfl | rfl
    · have he2 := rd_C2 hSh hj
      exact va_runU (As := [.long 0]) (rest := []) ⟨hx, hb, hml, hown, hG⟩ (k_Rc_on l D g ad G M F N0 j 0 hj) (aw_wA (owner := "RuleCiphers$Cipher") 1 hG hN gw_6_57 gw_8_56 gw_6_51 gw_6_55 gw_6_56 gw_0_4 nw_36 rfl rfl hd_Ci_on ⟨Nat.le_of_ble_eq_true rfl, Nat.le_of_ble_eq_true rfl⟩) (aw_qV (va_recv hK hP rfl he2) hP hD hSh hU hS) rfl rfl hl.1 rfl (lv_room (Nat.le_of_ble_eq_true rfl)) d_Tk_tagBy_2 ⟨Nat.le_of_ble_eq_true rfl, Nat.le_of_ble_eq_true rfl⟩
    · have he3 := rd_C5 hSh hj
      exact va_runU (As := [.long 0]) (rest := []) ⟨hx, hb, hml, hown, hG⟩ (k_Xt_on l D g ad G M F N0 j 0 hj) (aw_wA (owner := "RuleCiphers$Cipher") 1 hG hN gw_7_6 gw_8_56 gw_6_51 gw_7_4 gw_7_5 gw_0_5 nw_36 rfl rfl hd_Ci_on ⟨Nat.le_of_ble_eq_true rfl, Nat.le_of_ble_eq_true rfl⟩) (aw_qV (va_recv hK hP rfl he3) hP hD hSh hU hS) rfl rfl hl.1 rfl (lv_room (Nat.le_of_ble_eq_true rfl)) d_Tk_tagBy_2 ⟨Nat.le_of_ble_eq_true rfl, Nat.le_of_ble_eq_true rfl⟩
    · have he4 := rd_C7 hSh hj
      exact va_runU (As := [.long 0]) (rest := []) ⟨hx, hb, hml, hown, hG⟩ (k_Sp_on l D g ad G M F N0 j 0 hj) (aw_wA (owner := "RuleCiphers$Cipher") 1 hG hN gw_7_3 gw_8_56 gw_6_51 gw_7_1 gw_7_2 gw_0_6 nw_36 rfl rfl hd_Ci_on ⟨Nat.le_of_ble_eq_true rfl, Nat.le_of_ble_eq_true rfl⟩) (aw_qV (va_recv hK hP rfl he4) hP hD hSh hU hS) rfl rfl hl.1 rfl (lv_room (Nat.le_of_ble_eq_true rfl)) d_Tk_tagBy_2 ⟨Nat.le_of_ble_eq_true rfl, Nat.le_of_ble_eq_true rfl⟩
    · have he5 := rd_C10 hSh hj
      exact va_runU (As := [.long 0]) (rest := []) ⟨hx, hb, hml, hown, hG⟩ (k_Si_on l D g ad G M F N0 j 0 hj) (aw_wA (owner := "RuleCiphers$Cipher") 1 hG hN gw_7_0 gw_8_56 gw_6_51 gw_6_58 gw_6_59 gw_0_7 nw_36 rfl rfl hd_Ci_on ⟨Nat.le_of_ble_eq_true rfl, Nat.le_of_ble_eq_true rfl⟩) (aw_qV (va_recv hK hP rfl he5) hP hD hSh hU hS) rfl rfl hl.1 rfl (lv_room (Nat.le_of_ble_eq_true rfl)) d_Tk_tagBy_2 ⟨Nat.le_of_ble_eq_true rfl, Nat.le_of_ble_eq_true rfl⟩
    · have he6 := rd_C12 hSh hj
      exact va_runU (As := [.long 0]) (rest := []) ⟨hx, hb, hml, hown, hG⟩ (k_Id_on l D g ad G M F N0 j 0 hj) (aw_wA (owner := "RuleCiphers$Cipher") 1 hG hN gw_6_54 gw_8_56 gw_6_51 gw_6_52 gw_6_53 gw_0_8 nw_36 rfl rfl hd_Ci_on ⟨Nat.le_of_ble_eq_true rfl, Nat.le_of_ble_eq_true rfl⟩) (aw_qV (va_recv hK hP rfl he6) hP hD hSh hU hS) rfl rfl hl.1 rfl (lv_room (Nat.le_of_ble_eq_true rfl)) d_Tk_tagBy_2 ⟨Nat.le_of_ble_eq_true rfl, Nat.le_of_ble_eq_true rfl⟩
  refine va_calll hrun1 hS (fun _ _ h => h) (fun _ h => h) (fun y7 u8 t8 H locs ht _ _ hB _ _ hS => ?_)
  obtain ⟨L, hP, hD, hSh⟩ := hB
  rw [ht] at hP
  clear ht
  refine aw_cl ((va_runS (As := [.long y7]) (rest := []) ⟨hx, hb, hml, hown, hG⟩ (k_Tk_doubled l y7) (aw_wS 1 hG gw_9_17 gw_9_15 gw_0_9 gw_9_16 rfl rfl hd_Tk_doubled ⟨Nat.le_of_ble_eq_true rfl, Nat.le_of_ble_eq_true rfl⟩) aw_p0 rfl rfl hl.1 rfl (lv_room (Nat.le_of_ble_eq_true rfl)) d_Tk_tagBy_5 ⟨Nat.le_of_ble_eq_true rfl, Nat.le_of_ble_eq_true rfl⟩).run) (fun y8 hy8 => ?_)
  refine lv_lstore_n hx hb d_Tk_tagBy_8 rfl hl (by decide) rfl (fun ls hl => ?_)
  have hl : lv_has ls 6 [(2, .long y8), (0, .ref (aw_c ad j 15)), (1, .ref (aw_c ad j o))] := hl
  refine lv_aload_n hx hb d_Tk_tagBy_9 rfl (lv_at hl 1 rfl) ?_
  obtain ⟨x10, y11, y12, x13, he9⟩ := rd_C15 hSh hj
  refine va_get (C := R_Tk) (T := T_Tk) (N := 4) (v := .long y12) hx hb hG in_Tk hown hK hP (3 + 16 * j + 15) he9 rfl 2 (by decide) (hG _ gw_1_43) (fun _ h => h) rfl d_Tk_tagBy_10 ?_
  refine lv_lstore hx hb d_Tk_tagBy_13 hl (by decide) rfl (fun ls hl => ?_)
  have hl : lv_has ls 6 [(4, .long y12), (2, .long y8), (0, .ref (aw_c ad j 15)), (1, .ref (aw_c ad j o))] := hl
  refine lv_aload_n hx hb d_Tk_tagBy_15 rfl (lv_at hl 2 rfl) ?_
  obtain ⟨x15, y16, y17, x18, he14⟩ := rd_C15 hSh hj
  refine va_get (C := R_Tk) (T := T_Tk) (N := 4) (v := .int x18) hx hb hG in_Tk hown hK hP (3 + 16 * j + 15) he14 rfl 3 (by decide) (hG _ gw_1_44) (fun _ h => h) rfl d_Tk_tagBy_16 ?_
  refine lv_bipush (v := nI 8) hx hb d_Tk_tagBy_19 (by decide +kernel) ?_
  refine lv_icmp_ge (tgt := 44) hx hb d_Tk_tagBy_21 (by decide) (fun hb19 => ?_) (fun hb19 => ?_)
  · refine lv_aload_n hx hb d_Tk_tagBy_44 rfl (lv_at hl 3 rfl) ?_
    refine lv_aload_n hx hb d_Tk_tagBy_45 rfl (lv_at hl 2 rfl) ?_
    obtain ⟨x21, y22, y23, x24, he20⟩ := rd_C15 hSh hj
    refine va_get (C := R_Tk) (T := T_Tk) (N := 4) (v := .long y22) hx hb hG in_Tk hown hK hP (3 + 16 * j + 15) he20 rfl 1 (by decide) (hG _ gw_1_42) (fun _ h => h) rfl d_Tk_tagBy_46 ?_
    refine lv_lload hx hb d_Tk_tagBy_49 (lv_at hl 0 rfl) ?_
    refine lv_lxor hx hb d_Tk_tagBy_51 ?_
    refine lv_topl (fun y25 _ => ?_)
    refine lv_lload_n hx hb d_Tk_tagBy_52 rfl (lv_at hl 1 rfl) ?_
    refine lv_lxor hx hb d_Tk_tagBy_53 ?_
    refine lv_topl (fun y26 _ => ?_)
    have hrun27 : va_Run p l e (headSpec ws_Tk_tagBy rm_Tk_tagBy).room s m ([.ref (aw_c ad j 15), .ref (aw_c ad j o)] : List Value).toArray below meth c H locs 0 0 0 0 (F0 m 54 ls [.long y26, .ref (aw_c ad j o)]) [] (va_Ql (fun r (_ : Unit) => True) (fun (_ : Unit) t => aw_H D g ad G M F N0 t.heap) (aw_Z N0) ([.ref (aw_c ad j o), .long y26] : List Value).toArray) (aw_Z N0) := by
      rcases ho with rfl | rfl | rfl | rfl | rfl
      · have he28 := rd_C2 hSh hj
        exact va_runU (As := [.long y26]) (rest := []) ⟨hx, hb, hml, hown, hG⟩ (k_Rc_on l D g ad G M F N0 j y26 hj) (aw_wA (owner := "RuleCiphers$Cipher") 1 hG hN gw_6_57 gw_8_56 gw_6_51 gw_6_55 gw_6_56 gw_0_4 nw_36 rfl rfl hd_Ci_on ⟨Nat.le_of_ble_eq_true rfl, Nat.le_of_ble_eq_true rfl⟩) (aw_qV (va_recv hK hP rfl he28) hP hD hSh hU hS) rfl rfl hl.1 rfl (lv_room (Nat.le_of_ble_eq_true rfl)) d_Tk_tagBy_54 ⟨Nat.le_of_ble_eq_true rfl, Nat.le_of_ble_eq_true rfl⟩
      · have he29 := rd_C5 hSh hj
        exact va_runU (As := [.long y26]) (rest := []) ⟨hx, hb, hml, hown, hG⟩ (k_Xt_on l D g ad G M F N0 j y26 hj) (aw_wA (owner := "RuleCiphers$Cipher") 1 hG hN gw_7_6 gw_8_56 gw_6_51 gw_7_4 gw_7_5 gw_0_5 nw_36 rfl rfl hd_Ci_on ⟨Nat.le_of_ble_eq_true rfl, Nat.le_of_ble_eq_true rfl⟩) (aw_qV (va_recv hK hP rfl he29) hP hD hSh hU hS) rfl rfl hl.1 rfl (lv_room (Nat.le_of_ble_eq_true rfl)) d_Tk_tagBy_54 ⟨Nat.le_of_ble_eq_true rfl, Nat.le_of_ble_eq_true rfl⟩
      · have he30 := rd_C7 hSh hj
        exact va_runU (As := [.long y26]) (rest := []) ⟨hx, hb, hml, hown, hG⟩ (k_Sp_on l D g ad G M F N0 j y26 hj) (aw_wA (owner := "RuleCiphers$Cipher") 1 hG hN gw_7_3 gw_8_56 gw_6_51 gw_7_1 gw_7_2 gw_0_6 nw_36 rfl rfl hd_Ci_on ⟨Nat.le_of_ble_eq_true rfl, Nat.le_of_ble_eq_true rfl⟩) (aw_qV (va_recv hK hP rfl he30) hP hD hSh hU hS) rfl rfl hl.1 rfl (lv_room (Nat.le_of_ble_eq_true rfl)) d_Tk_tagBy_54 ⟨Nat.le_of_ble_eq_true rfl, Nat.le_of_ble_eq_true rfl⟩
      · have he31 := rd_C10 hSh hj
        exact va_runU (As := [.long y26]) (rest := []) ⟨hx, hb, hml, hown, hG⟩ (k_Si_on l D g ad G M F N0 j y26 hj) (aw_wA (owner := "RuleCiphers$Cipher") 1 hG hN gw_7_0 gw_8_56 gw_6_51 gw_6_58 gw_6_59 gw_0_7 nw_36 rfl rfl hd_Ci_on ⟨Nat.le_of_ble_eq_true rfl, Nat.le_of_ble_eq_true rfl⟩) (aw_qV (va_recv hK hP rfl he31) hP hD hSh hU hS) rfl rfl hl.1 rfl (lv_room (Nat.le_of_ble_eq_true rfl)) d_Tk_tagBy_54 ⟨Nat.le_of_ble_eq_true rfl, Nat.le_of_ble_eq_true rfl⟩
      · have he32 := rd_C12 hSh hj
        exact va_runU (As := [.long y26]) (rest := []) ⟨hx, hb, hml, hown, hG⟩ (k_Id_on l D g ad G M F N0 j y26 hj) (aw_wA (owner := "RuleCiphers$Cipher") 1 hG hN gw_6_54 gw_8_56 gw_6_51 gw_6_52 gw_6_53 gw_0_8 nw_36 rfl rfl hd_Ci_on ⟨Nat.le_of_ble_eq_true rfl, Nat.le_of_ble_eq_true rfl⟩) (aw_qV (va_recv hK hP rfl he32) hP hD hSh hU hS) rfl rfl hl.1 rfl (lv_room (Nat.le_of_ble_eq_true rfl)) d_Tk_tagBy_54 ⟨Nat.le_of_ble_eq_true rfl, Nat.le_of_ble_eq_true rfl⟩
    refine va_calll hrun27 hS (fun _ _ h => h) (fun _ h => h) (fun y33 u8 t8 H locs ht _ _ hB _ _ hS => ?_)
    obtain ⟨L, hP, hD, hSh⟩ := hB
    rw [ht] at hP
    clear ht
    exact W.lret hx hb hr (fun t ht hW => ⟨⟨_, (), rfl, trivial, aw_Hr ht hP hD hSh⟩, hS.F ht⟩) hS.2.2 d_Tk_tagBy_57
  · refine lv_lload_n hx hb d_Tk_tagBy_24 rfl (lv_at hl 1 rfl) ?_
    refine aw_cl ((va_runS (As := [.long y8]) (rest := []) ⟨hx, hb, hml, hown, hG⟩ (k_Tk_doubled l y8) (aw_wS 1 hG gw_9_17 gw_9_15 gw_0_9 gw_9_16 rfl rfl hd_Tk_doubled ⟨Nat.le_of_ble_eq_true rfl, Nat.le_of_ble_eq_true rfl⟩) aw_p0 rfl rfl hl.1 rfl (lv_room (Nat.le_of_ble_eq_true rfl)) d_Tk_tagBy_25 ⟨Nat.le_of_ble_eq_true rfl, Nat.le_of_ble_eq_true rfl⟩).run) (fun y34 hy34 => ?_)
    refine lv_lstore_n hx hb d_Tk_tagBy_28 rfl hl (by decide) rfl (fun ls hl => ?_)
    have hl : lv_has ls 6 [(2, .long y34), (4, .long y12), (0, .ref (aw_c ad j 15)), (1, .ref (aw_c ad j o))] := hl
    refine lv_lload hx hb d_Tk_tagBy_29 (lv_at hl 1 rfl) ?_
    refine lv_sipush (v := nI 128) hx hb d_Tk_tagBy_31 (by decide +kernel) ?_
    refine lv_aload_n hx hb d_Tk_tagBy_34 rfl (lv_at hl 2 rfl) ?_
    obtain ⟨x36, y37, y38, x39, he35⟩ := rd_C15 hSh hj
    refine va_get (C := R_Tk) (T := T_Tk) (N := 4) (v := .int x39) hx hb hG in_Tk hown hK hP (3 + 16 * j + 15) he35 rfl 3 (by decide) (hG _ gw_1_44) (fun _ h => h) rfl d_Tk_tagBy_35 ?_
    refine aw_cl ((va_runS (As := [.int (nI 128), .int x39]) (rest := [.long y12]) ⟨hx, hb, hml, hown, hG⟩ (k_Tk_atByte l (nI 128) x39) (aw_wS 2 hG gw_8_59 gw_8_57 gw_0_9 gw_8_58 rfl rfl hd_Tk_atByte ⟨Nat.le_of_ble_eq_true rfl, Nat.le_of_ble_eq_true rfl⟩) aw_p0 rfl rfl hl.1 rfl (lv_room (Nat.le_of_ble_eq_true rfl)) d_Tk_tagBy_38 ⟨Nat.le_of_ble_eq_true rfl, Nat.le_of_ble_eq_true rfl⟩).run) (fun y40 hy40 => ?_)
    refine lv_lor hx hb d_Tk_tagBy_41 ?_
    refine lv_topl (fun y41 _ => ?_)
    refine lv_lstore hx hb d_Tk_tagBy_42 hl (by decide) rfl (fun ls hl => ?_)
    have hl : lv_has ls 6 [(4, .long y41), (2, .long y34), (0, .ref (aw_c ad j 15)), (1, .ref (aw_c ad j o))] := hl
    refine lv_aload_n hx hb d_Tk_tagBy_44 rfl (lv_at hl 3 rfl) ?_
    refine lv_aload_n hx hb d_Tk_tagBy_45 rfl (lv_at hl 2 rfl) ?_
    obtain ⟨x43, y44, y45, x46, he42⟩ := rd_C15 hSh hj
    refine va_get (C := R_Tk) (T := T_Tk) (N := 4) (v := .long y44) hx hb hG in_Tk hown hK hP (3 + 16 * j + 15) he42 rfl 1 (by decide) (hG _ gw_1_42) (fun _ h => h) rfl d_Tk_tagBy_46 ?_
    refine lv_lload hx hb d_Tk_tagBy_49 (lv_at hl 0 rfl) ?_
    refine lv_lxor hx hb d_Tk_tagBy_51 ?_
    refine lv_topl (fun y47 _ => ?_)
    refine lv_lload_n hx hb d_Tk_tagBy_52 rfl (lv_at hl 1 rfl) ?_
    refine lv_lxor hx hb d_Tk_tagBy_53 ?_
    refine lv_topl (fun y48 _ => ?_)
    have hrun49 : va_Run p l e (headSpec ws_Tk_tagBy rm_Tk_tagBy).room s m ([.ref (aw_c ad j 15), .ref (aw_c ad j o)] : List Value).toArray below meth c H locs 0 0 0 0 (F0 m 54 ls [.long y48, .ref (aw_c ad j o)]) [] (va_Ql (fun r (_ : Unit) => True) (fun (_ : Unit) t => aw_H D g ad G M F N0 t.heap) (aw_Z N0) ([.ref (aw_c ad j o), .long y48] : List Value).toArray) (aw_Z N0) := by
      rcases ho with rfl | rfl | rfl | rfl | rfl
      · have he50 := rd_C2 hSh hj
        exact va_runU (As := [.long y48]) (rest := []) ⟨hx, hb, hml, hown, hG⟩ (k_Rc_on l D g ad G M F N0 j y48 hj) (aw_wA (owner := "RuleCiphers$Cipher") 1 hG hN gw_6_57 gw_8_56 gw_6_51 gw_6_55 gw_6_56 gw_0_4 nw_36 rfl rfl hd_Ci_on ⟨Nat.le_of_ble_eq_true rfl, Nat.le_of_ble_eq_true rfl⟩) (aw_qV (va_recv hK hP rfl he50) hP hD hSh hU hS) rfl rfl hl.1 rfl (lv_room (Nat.le_of_ble_eq_true rfl)) d_Tk_tagBy_54 ⟨Nat.le_of_ble_eq_true rfl, Nat.le_of_ble_eq_true rfl⟩
      · have he51 := rd_C5 hSh hj
        exact va_runU (As := [.long y48]) (rest := []) ⟨hx, hb, hml, hown, hG⟩ (k_Xt_on l D g ad G M F N0 j y48 hj) (aw_wA (owner := "RuleCiphers$Cipher") 1 hG hN gw_7_6 gw_8_56 gw_6_51 gw_7_4 gw_7_5 gw_0_5 nw_36 rfl rfl hd_Ci_on ⟨Nat.le_of_ble_eq_true rfl, Nat.le_of_ble_eq_true rfl⟩) (aw_qV (va_recv hK hP rfl he51) hP hD hSh hU hS) rfl rfl hl.1 rfl (lv_room (Nat.le_of_ble_eq_true rfl)) d_Tk_tagBy_54 ⟨Nat.le_of_ble_eq_true rfl, Nat.le_of_ble_eq_true rfl⟩
      · have he52 := rd_C7 hSh hj
        exact va_runU (As := [.long y48]) (rest := []) ⟨hx, hb, hml, hown, hG⟩ (k_Sp_on l D g ad G M F N0 j y48 hj) (aw_wA (owner := "RuleCiphers$Cipher") 1 hG hN gw_7_3 gw_8_56 gw_6_51 gw_7_1 gw_7_2 gw_0_6 nw_36 rfl rfl hd_Ci_on ⟨Nat.le_of_ble_eq_true rfl, Nat.le_of_ble_eq_true rfl⟩) (aw_qV (va_recv hK hP rfl he52) hP hD hSh hU hS) rfl rfl hl.1 rfl (lv_room (Nat.le_of_ble_eq_true rfl)) d_Tk_tagBy_54 ⟨Nat.le_of_ble_eq_true rfl, Nat.le_of_ble_eq_true rfl⟩
      · have he53 := rd_C10 hSh hj
        exact va_runU (As := [.long y48]) (rest := []) ⟨hx, hb, hml, hown, hG⟩ (k_Si_on l D g ad G M F N0 j y48 hj) (aw_wA (owner := "RuleCiphers$Cipher") 1 hG hN gw_7_0 gw_8_56 gw_6_51 gw_6_58 gw_6_59 gw_0_7 nw_36 rfl rfl hd_Ci_on ⟨Nat.le_of_ble_eq_true rfl, Nat.le_of_ble_eq_true rfl⟩) (aw_qV (va_recv hK hP rfl he53) hP hD hSh hU hS) rfl rfl hl.1 rfl (lv_room (Nat.le_of_ble_eq_true rfl)) d_Tk_tagBy_54 ⟨Nat.le_of_ble_eq_true rfl, Nat.le_of_ble_eq_true rfl⟩
      · have he54 := rd_C12 hSh hj
        exact va_runU (As := [.long y48]) (rest := []) ⟨hx, hb, hml, hown, hG⟩ (k_Id_on l D g ad G M F N0 j y48 hj) (aw_wA (owner := "RuleCiphers$Cipher") 1 hG hN gw_6_54 gw_8_56 gw_6_51 gw_6_52 gw_6_53 gw_0_8 nw_36 rfl rfl hd_Ci_on ⟨Nat.le_of_ble_eq_true rfl, Nat.le_of_ble_eq_true rfl⟩) (aw_qV (va_recv hK hP rfl he54) hP hD hSh hU hS) rfl rfl hl.1 rfl (lv_room (Nat.le_of_ble_eq_true rfl)) d_Tk_tagBy_54 ⟨Nat.le_of_ble_eq_true rfl, Nat.le_of_ble_eq_true rfl⟩
    refine va_calll hrun49 hS (fun _ _ h => h) (fun _ h => h) (fun y55 u8 t8 H locs ht _ _ hB _ _ hS => ?_)
    obtain ⟨L, hP, hD, hSh⟩ := hB
    rw [ht] at hP
    clear ht
    exact W.lret hx hb hr (fun t ht hW => ⟨⟨_, (), rfl, trivial, aw_Hr ht hP hD hSh⟩, hS.F ht⟩) hS.2.2 d_Tk_tagBy_57
