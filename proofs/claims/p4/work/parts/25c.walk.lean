noncomputable def v_Tk_clearV_zX (zX : Nat → Nat → Int64) (zY : Nat → Nat → Int32) (j : Nat) : Nat → Nat → Int64 := az_u2 (az_u2 zX j 3 0) j 4 0
noncomputable def v_Tk_clearV_zY (zX : Nat → Nat → Int64) (zY : Nat → Nat → Int32) (j : Nat) : Nat → Nat → Int32 := az_u2 (az_u2 zY j 2 (nI 0)) j 3 (nI 0)
abbrev ws_Tk_clearV : List Cond := Cond.code y_Tk_clear b_Tk_clear 1 none :: aw_G
abbrev rm_Tk_clearV : Room := { frames := 0, cells := 0, slots := 0, locals := 0 }
set_option maxHeartbeats 4000000 in
set_option maxRecDepth 100000 in
theorem k_Tk_clearV (l : Launch) (D : va_G) (g : Nat → ClassId) (ad : Nat → Nat) (N0 : Nat) (zG : Nat → Nat × Nat) (zO : Nat → Nat) (zX : Nat → Nat → Int64) (zY : Nat → Nat → Int32) (zA : Nat → Nat → Nat → Int32) (zB : Nat → Int32) (zM : Nat → Nat × Nat) (zI : Nat → Nat → Int32) (zL : Nat → Nat → Int64) (zK : Int32) (zN : Nat) (zF : Int32) (zQ : Int64) (j : Nat) (hj : j < 4) : Met l y_Tk_clear ws_Tk_clearV rm_Tk_clearV (va_Pc ([.ref (aw_c ad j 15)] : List Value) (ag_B D g N0 (az_Sh g ad zG zO zX zY zA zB zM zI zL zK zN zF zQ))) (va_Qv (fun (_ : Unit) => True) (fun (_ : Unit) t => ag_H D N0 (az_Sh g ad zG zO (v_Tk_clearV_zX zX zY j) (v_Tk_clearV_zY zX zY j) zA zB zM zI zL zK zN zF zQ) t.heap) (aw_Z N0)) 0 0 (aw_Z N0) := by
  refine Met.ofW (cc := b_Tk_clear) (maxL := 1) (ret := none) (by decide) rfl ?_
  intro p e s m args below meth c s₁ B hml hv
  obtain ⟨rfl, ⟨L, hP, hD, hSh⟩, hU⟩ := hv
  have hx := B.exec
  have hb := B.bytes
  have hr := B.returns
  have hG : ∀ w ∈ aw_G, w.before _ s = true := fun w h => atoms_spec (ws := ws_Tk_clearV) B.pre w (List.mem_cons_of_mem _ h)
  have hown : s.vm.findClass "RuleCiphers$Taken" = some m.cls := findClass_of_methodNamed B.named
  have hlocks := B.notSynchronized
  have hE := hU.1
  have hK := hE.1
  have hN := hE.2.1
  have hS : va_S (aw_Z N0) s.heap s.heap [] := va_S.rf
  have hl := lv_entry ([.ref (aw_c ad j 15)] : List Value) (n := 1) (Nat.le_of_ble_eq_true rfl)
  rw [lg_entry_eq]
  generalize (lg_sl ([.ref (aw_c ad j 15)] : List Value) ++ List.replicate (1 - (lg_sl ([.ref (aw_c ad j 15)] : List Value)).length) Slot.unset).toArray = ls at hl ⊢
  have hl : lv_has ls 1 [(0, .ref (aw_c ad j 15))] := hl
  refine lv_aload_n hx hb d_Tk_clear_0 rfl (lv_at hl 0 rfl) ?_
  refine lv_iconst (v := nI 0) hx hb d_Tk_clear_1 (by decide +kernel) ?_
  have he1 := zr_C15 hSh hj
  refine ag_put (v := .int (nI 0)) (ty := .int) (C := R_Tk) (T := T_Tk) (N := 4) hx hb hG in_Tk t_Tk t_Tk_ok n_Tk hown hK hP hD hS (3 + 16 * j + 15) he1 rfl 0 (by decide) (hG _ gw_1_41) (fun _ h => h) rfl (by decide +kernel) rfl rfl (Nat.le_of_ble_eq_true rfl) d_Tk_clear_2 (zw_Y2 hSh hj (nI 0)) ?_
  clear hP hD hSh hS he1
  intro H locs L hP hD hSh hS
  obtain ⟨zY2, ezY2⟩ : ∃ z : Nat → Nat → Int32, az_u2 zY j 2 (nI 0) = z := ⟨_, rfl⟩
  rw [ezY2] at hSh
  refine lv_aload_n hx hb d_Tk_clear_5 rfl (lv_at hl 0 rfl) ?_
  refine lv_lconst (v := 0) hx hb d_Tk_clear_6 (by decide +kernel) ?_
  have he3 := zr_C15 hSh hj
  refine ag_put (v := .long 0) (ty := .long) (C := R_Tk) (T := T_Tk) (N := 4) hx hb hG in_Tk t_Tk t_Tk_ok n_Tk hown hK hP hD hS (3 + 16 * j + 15) he3 rfl 1 (by decide) (hG _ gw_1_42) (fun _ h => h) rfl (by decide +kernel) rfl rfl (Nat.le_of_ble_eq_true rfl) d_Tk_clear_7 (zw_X3 hSh hj 0) ?_
  clear hP hD hSh hS he3
  intro H locs L hP hD hSh hS
  obtain ⟨zX4, ezX4⟩ : ∃ z : Nat → Nat → Int64, az_u2 zX j 3 0 = z := ⟨_, rfl⟩
  rw [ezX4] at hSh
  refine lv_aload_n hx hb d_Tk_clear_10 rfl (lv_at hl 0 rfl) ?_
  refine lv_lconst (v := 0) hx hb d_Tk_clear_11 (by decide +kernel) ?_
  have he5 := zr_C15 hSh hj
  refine ag_put (v := .long 0) (ty := .long) (C := R_Tk) (T := T_Tk) (N := 4) hx hb hG in_Tk t_Tk t_Tk_ok n_Tk hown hK hP hD hS (3 + 16 * j + 15) he5 rfl 2 (by decide) (hG _ gw_1_43) (fun _ h => h) rfl (by decide +kernel) rfl rfl (Nat.le_of_ble_eq_true rfl) d_Tk_clear_12 (zw_X4 hSh hj 0) ?_
  clear hP hD hSh hS he5
  intro H locs L hP hD hSh hS
  obtain ⟨zX6, ezX6⟩ : ∃ z : Nat → Nat → Int64, az_u2 zX4 j 4 0 = z := ⟨_, rfl⟩
  rw [ezX6] at hSh
  refine lv_aload_n hx hb d_Tk_clear_15 rfl (lv_at hl 0 rfl) ?_
  refine lv_iconst (v := nI 0) hx hb d_Tk_clear_16 (by decide +kernel) ?_
  have he7 := zr_C15 hSh hj
  refine ag_put (v := .int (nI 0)) (ty := .int) (C := R_Tk) (T := T_Tk) (N := 4) hx hb hG in_Tk t_Tk t_Tk_ok n_Tk hown hK hP hD hS (3 + 16 * j + 15) he7 rfl 3 (by decide) (hG _ gw_1_44) (fun _ h => h) rfl (by decide +kernel) rfl rfl (Nat.le_of_ble_eq_true rfl) d_Tk_clear_17 (zw_Y3 hSh hj (nI 0)) ?_
  clear hP hD hSh hS he7
  intro H locs L hP hD hSh hS
  obtain ⟨zY8, ezY8⟩ : ∃ z : Nat → Nat → Int32, az_u2 zY2 j 3 (nI 0) = z := ⟨_, rfl⟩
  rw [ezY8] at hSh
  have gzX : zX6 = v_Tk_clearV_zX zX zY j := by subst ezY8 ezX6 ezX4 ezY2; rfl
  have gzY : zY8 = v_Tk_clearV_zY zX zY j := by subst ezY8 ezX6 ezX4 ezY2; rfl
  have hSh : az_Sh g ad zG zO (v_Tk_clearV_zX zX zY j) (v_Tk_clearV_zY zX zY j) zA zB zM zI zL zK zN zF zQ L := by rw [← gzX, ← gzY]; exact hSh
  exact W.vret hx hb hr (fun t ht hW => ⟨⟨(), rfl, trivial, ag_Hr ht hP hD hSh⟩, hS.F ht⟩) hS.2.2 d_Tk_clear_20
noncomputable def v_Tk_addByteV_zX (zX : Nat → Nat → Int64) (zY : Nat → Nat → Int32) (zA : Nat → Nat → Nat → Int32) (j : Nat) (o : Nat) (b : Int32) : Nat → Nat → Int64 := (if (zY j 3) = (nI 8) then az_u2 (az_u2 (az_u2 zX j 3 (v_Ci_onV zA j o ((zX j 3) ^^^ (zX j 4)))) j 4 0) j 4 (((az_u2 (az_u2 zX j 3 (v_Ci_onV zA j o ((zX j 3) ^^^ (zX j 4)))) j 4 0) j 4) ||| (v_Tk_atByteV b ((az_u2 zY j 3 (nI 0)) j 3))) else az_u2 zX j 4 ((zX j 4) ||| (v_Tk_atByteV b (zY j 3))))
noncomputable def v_Tk_addByteV_zY (zX : Nat → Nat → Int64) (zY : Nat → Nat → Int32) (zA : Nat → Nat → Nat → Int32) (j : Nat) (o : Nat) (b : Int32) : Nat → Nat → Int32 := (if (zY j 3) = (nI 8) then az_u2 (az_u2 zY j 3 (nI 0)) j 3 (((az_u2 zY j 3 (nI 0)) j 3) + (nI 1)) else az_u2 zY j 3 ((zY j 3) + (nI 1)))
abbrev ws_Tk_addByteV : List Cond := Cond.code y_Tk_addByte b_Tk_addByte 3 none :: aw_G
abbrev rm_Tk_addByteV : Room := { frames := 3, cells := 0, slots := 0, locals := 79 }
set_option maxHeartbeats 4000000 in
set_option maxRecDepth 100000 in
theorem k_Tk_addByteV (l : Launch) (D : va_G) (g : Nat → ClassId) (ad : Nat → Nat) (N0 : Nat) (zG : Nat → Nat × Nat) (zO : Nat → Nat) (zX : Nat → Nat → Int64) (zY : Nat → Nat → Int32) (zA : Nat → Nat → Nat → Int32) (zB : Nat → Int32) (zM : Nat → Nat × Nat) (zI : Nat → Nat → Int32) (zL : Nat → Nat → Int64) (zK : Int32) (zN : Nat) (zF : Int32) (zQ : Int64) (j : Nat) (o : Nat) (b : Int32) (hj : j < 4) (ho : aw_cof o) : Met l y_Tk_addByte ws_Tk_addByteV rm_Tk_addByteV (va_Pc ([.ref (aw_c ad j 15), .ref (aw_c ad j o), .int b] : List Value) (ag_B D g N0 (az_Sh g ad zG zO zX zY zA zB zM zI zL zK zN zF zQ))) (va_Qv (fun (_ : Unit) => True) (fun (_ : Unit) t => ag_H D N0 (az_Sh g ad zG zO (v_Tk_addByteV_zX zX zY zA j o b) (v_Tk_addByteV_zY zX zY zA j o b) zA zB zM zI zL zK zN zF zQ) t.heap) (aw_Z N0)) 0 0 (aw_Z N0) := by
  refine Met.ofW (cc := b_Tk_addByte) (maxL := 3) (ret := none) (by decide) rfl ?_
  intro p e s m args below meth c s₁ B hml hv
  obtain ⟨rfl, ⟨L, hP, hD, hSh⟩, hU⟩ := hv
  have hx := B.exec
  have hb := B.bytes
  have hr := B.returns
  have hG : ∀ w ∈ aw_G, w.before _ s = true := fun w h => atoms_spec (ws := ws_Tk_addByteV) B.pre w (List.mem_cons_of_mem _ h)
  have hown : s.vm.findClass "RuleCiphers$Taken" = some m.cls := findClass_of_methodNamed B.named
  have hlocks := B.notSynchronized
  have hE := hU.1
  have hK := hE.1
  have hN := hE.2.1
  have hS : va_S (aw_Z N0) s.heap s.heap [] := va_S.rf
  have hl := lv_entry ([.ref (aw_c ad j 15), .ref (aw_c ad j o), .int b] : List Value) (n := 3) (Nat.le_of_ble_eq_true rfl)
  rw [lg_entry_eq]
  generalize (lg_sl ([.ref (aw_c ad j 15), .ref (aw_c ad j o), .int b] : List Value) ++ List.replicate (3 - (lg_sl ([.ref (aw_c ad j 15), .ref (aw_c ad j o), .int b] : List Value)).length) Slot.unset).toArray = ls at hl ⊢
  have hl : lv_has ls 3 [(0, .ref (aw_c ad j 15)), (1, .ref (aw_c ad j o)), (2, .int b)] := hl
  refine lv_aload_n hx hb d_Tk_addByte_0 rfl (lv_at hl 0 rfl) ?_
  have he1 := zr_C15 hSh hj
  refine va_get (C := R_Tk) (T := T_Tk) (N := 4) (v := .int (zY j 3)) hx hb hG in_Tk hown hK hP (3 + 16 * j + 15) he1 rfl 3 (by decide) (hG _ gw_1_44) (fun _ h => h) rfl d_Tk_addByte_1 ?_
  clear he1
  refine lv_bipush (v := nI 8) hx hb d_Tk_addByte_4 (by decide +kernel) ?_
  refine lv_icmp_ne (tgt := 36) hx hb d_Tk_addByte_6 (by decide) (fun hb2 => ?_) (fun hb2 => ?_)
  · refine lv_aload_n hx hb d_Tk_addByte_36 rfl (lv_at hl 0 rfl) ?_
    refine lv_dup hx hb d_Tk_addByte_37 rfl ?_
    have he3 := zr_C15 hSh hj
    refine va_get (C := R_Tk) (T := T_Tk) (N := 4) (v := .long (zX j 4)) hx hb hG in_Tk hown hK hP (3 + 16 * j + 15) he3 rfl 2 (by decide) (hG _ gw_1_43) (fun _ h => h) rfl d_Tk_addByte_38 ?_
    clear he3
    refine lv_iload_n hx hb d_Tk_addByte_41 rfl (lv_at hl 2 rfl) ?_
    refine lv_aload_n hx hb d_Tk_addByte_42 rfl (lv_at hl 0 rfl) ?_
    have he4 := zr_C15 hSh hj
    refine va_get (C := R_Tk) (T := T_Tk) (N := 4) (v := .int (zY j 3)) hx hb hG in_Tk hown hK hP (3 + 16 * j + 15) he4 rfl 3 (by decide) (hG _ gw_1_44) (fun _ h => h) rfl d_Tk_addByte_43 ?_
    clear he4
    refine aw_cl ((va_runS (As := [.int b, .int (zY j 3)]) (rest := [.long (zX j 4), .ref (aw_c ad j 15)]) ⟨hx, hb, hml, hown, hG⟩ (k_Tk_atByteV l b (zY j 3)) (aw_wS 2 hG gw_8_59 gw_8_57 gw_0_9 gw_8_58 rfl rfl hd_Tk_atByte ⟨Nat.le_of_ble_eq_true rfl, Nat.le_of_ble_eq_true rfl⟩) aw_p0 rfl rfl hl.1 rfl (lv_room (Nat.le_of_ble_eq_true rfl)) d_Tk_addByte_46 ⟨Nat.le_of_ble_eq_true rfl, Nat.le_of_ble_eq_true rfl⟩).run) (fun y5 ey5 => ?_)
    have ey5 := ey5.symm
    refine lv_lor hx hb d_Tk_addByte_49 ?_
    refine ag_topl (fun y6 ey6 => ?_)
    have he7 := zr_C15 hSh hj
    refine ag_put (v := .long y6) (ty := .long) (C := R_Tk) (T := T_Tk) (N := 4) hx hb hG in_Tk t_Tk t_Tk_ok n_Tk hown hK hP hD hS (3 + 16 * j + 15) he7 rfl 2 (by decide) (hG _ gw_1_43) (fun _ h => h) rfl (by decide +kernel) rfl rfl (Nat.le_of_ble_eq_true rfl) d_Tk_addByte_50 (zw_X4 hSh hj y6) ?_
    clear hP hD hSh hS he7
    intro H locs L hP hD hSh hS
    obtain ⟨zX8, ezX8⟩ : ∃ z : Nat → Nat → Int64, az_u2 zX j 4 y6 = z := ⟨_, rfl⟩
    rw [ezX8] at hSh
    refine lv_aload_n hx hb d_Tk_addByte_53 rfl (lv_at hl 0 rfl) ?_
    refine lv_dup hx hb d_Tk_addByte_54 rfl ?_
    have he9 := zr_C15 hSh hj
    refine va_get (C := R_Tk) (T := T_Tk) (N := 4) (v := .int (zY j 3)) hx hb hG in_Tk hown hK hP (3 + 16 * j + 15) he9 rfl 3 (by decide) (hG _ gw_1_44) (fun _ h => h) rfl d_Tk_addByte_55 ?_
    clear he9
    refine lv_iconst (v := nI 1) hx hb d_Tk_addByte_58 (by decide +kernel) ?_
    refine lv_iadd hx hb d_Tk_addByte_59 ?_
    refine ag_topi (fun x10 ex10 => ?_)
    have he11 := zr_C15 hSh hj
    refine ag_put (v := .int x10) (ty := .int) (C := R_Tk) (T := T_Tk) (N := 4) hx hb hG in_Tk t_Tk t_Tk_ok n_Tk hown hK hP hD hS (3 + 16 * j + 15) he11 rfl 3 (by decide) (hG _ gw_1_44) (fun _ h => h) rfl (by decide +kernel) rfl rfl (Nat.le_of_ble_eq_true rfl) d_Tk_addByte_60 (zw_Y3 hSh hj x10) ?_
    clear hP hD hSh hS he11
    intro H locs L hP hD hSh hS
    obtain ⟨zY12, ezY12⟩ : ∃ z : Nat → Nat → Int32, az_u2 zY j 3 x10 = z := ⟨_, rfl⟩
    rw [ezY12] at hSh
    have gzX : zX8 = v_Tk_addByteV_zX zX zY zA j o b := by subst ezY12 ex10 ezX8 ey6 ey5; unfold v_Tk_addByteV_zX; rw [if_neg hb2]
    have gzY : zY12 = v_Tk_addByteV_zY zX zY zA j o b := by subst ezY12 ex10 ezX8 ey6 ey5; unfold v_Tk_addByteV_zY; rw [if_neg hb2]
    have hSh : az_Sh g ad zG zO (v_Tk_addByteV_zX zX zY zA j o b) (v_Tk_addByteV_zY zX zY zA j o b) zA zB zM zI zL zK zN zF zQ L := by rw [← gzX, ← gzY]; exact hSh
    exact W.vret hx hb hr (fun t ht hW => ⟨⟨(), rfl, trivial, ag_Hr ht hP hD hSh⟩, hS.F ht⟩) hS.2.2 d_Tk_addByte_63
  · refine lv_aload_n hx hb d_Tk_addByte_9 rfl (lv_at hl 0 rfl) ?_
    refine lv_aload_n hx hb d_Tk_addByte_10 rfl (lv_at hl 1 rfl) ?_
    refine lv_aload_n hx hb d_Tk_addByte_11 rfl (lv_at hl 0 rfl) ?_
    have he13 := zr_C15 hSh hj
    refine va_get (C := R_Tk) (T := T_Tk) (N := 4) (v := .long (zX j 3)) hx hb hG in_Tk hown hK hP (3 + 16 * j + 15) he13 rfl 1 (by decide) (hG _ gw_1_42) (fun _ h => h) rfl d_Tk_addByte_12 ?_
    clear he13
    refine lv_aload_n hx hb d_Tk_addByte_15 rfl (lv_at hl 0 rfl) ?_
    have he14 := zr_C15 hSh hj
    refine va_get (C := R_Tk) (T := T_Tk) (N := 4) (v := .long (zX j 4)) hx hb hG in_Tk hown hK hP (3 + 16 * j + 15) he14 rfl 2 (by decide) (hG _ gw_1_43) (fun _ h => h) rfl d_Tk_addByte_16 ?_
    clear he14
    refine lv_lxor hx hb d_Tk_addByte_19 ?_
    refine ag_topl (fun y15 ey15 => ?_)
    have hrun16 : va_Run p l e (headSpec ws_Tk_addByteV rm_Tk_addByteV).room s m ([.ref (aw_c ad j 15), .ref (aw_c ad j o), .int b] : List Value).toArray below meth c s.heap [] 0 0 0 0 (F0 m 20 ls [.long y15, .ref (aw_c ad j o), .ref (aw_c ad j 15)]) [.ref (aw_c ad j 15)] (va_Ql (fun r (_ : Unit) => r = v_Ci_onV zA j o y15) (fun (_ : Unit) t => ag_H D N0 (az_Sh g ad zG zO zX zY zA zB zM zI zL zK zN zF zQ) t.heap) (aw_Z N0) ([.ref (aw_c ad j o), .long y15] : List Value).toArray) (aw_Z N0) := by
      rcases ho with rfl | rfl | rfl | rfl | rfl
      · rw [v_Ci_onV_2]
        have he17 := zr_C2 hSh hj
        exact va_runU (As := [.long y15]) (rest := [.ref (aw_c ad j 15)]) ⟨hx, hb, hml, hown, hG⟩ (k_Rc_onV l D g ad N0 zG zO zX zY zA zB zM zI zL zK zN zF zQ j y15 hj) (aw_wA (owner := "RuleCiphers$Cipher") 1 hG hN gw_6_57 gw_8_56 gw_6_51 gw_6_55 gw_6_56 gw_0_4 nw_36 rfl rfl hd_Ci_on ⟨Nat.le_of_ble_eq_true rfl, Nat.le_of_ble_eq_true rfl⟩) (ag_qV (va_recv hK hP rfl he17) hP hD hSh hU hS) rfl rfl hl.1 rfl (lv_room (Nat.le_of_ble_eq_true rfl)) d_Tk_addByte_20 ⟨Nat.le_of_ble_eq_true rfl, Nat.le_of_ble_eq_true rfl⟩
      · rw [v_Ci_onV_5]
        have he18 := zr_C5 hSh hj
        exact va_runU (As := [.long y15]) (rest := [.ref (aw_c ad j 15)]) ⟨hx, hb, hml, hown, hG⟩ (k_Xt_onV l D g ad N0 zG zO zX zY zA zB zM zI zL zK zN zF zQ j y15 hj) (aw_wA (owner := "RuleCiphers$Cipher") 1 hG hN gw_7_6 gw_8_56 gw_6_51 gw_7_4 gw_7_5 gw_0_5 nw_36 rfl rfl hd_Ci_on ⟨Nat.le_of_ble_eq_true rfl, Nat.le_of_ble_eq_true rfl⟩) (ag_qV (va_recv hK hP rfl he18) hP hD hSh hU hS) rfl rfl hl.1 rfl (lv_room (Nat.le_of_ble_eq_true rfl)) d_Tk_addByte_20 ⟨Nat.le_of_ble_eq_true rfl, Nat.le_of_ble_eq_true rfl⟩
      · rw [v_Ci_onV_7]
        have he19 := zr_C7 hSh hj
        exact va_runU (As := [.long y15]) (rest := [.ref (aw_c ad j 15)]) ⟨hx, hb, hml, hown, hG⟩ (k_Sp_onV l D g ad N0 zG zO zX zY zA zB zM zI zL zK zN zF zQ j y15 hj) (aw_wA (owner := "RuleCiphers$Cipher") 1 hG hN gw_7_3 gw_8_56 gw_6_51 gw_7_1 gw_7_2 gw_0_6 nw_36 rfl rfl hd_Ci_on ⟨Nat.le_of_ble_eq_true rfl, Nat.le_of_ble_eq_true rfl⟩) (ag_qV (va_recv hK hP rfl he19) hP hD hSh hU hS) rfl rfl hl.1 rfl (lv_room (Nat.le_of_ble_eq_true rfl)) d_Tk_addByte_20 ⟨Nat.le_of_ble_eq_true rfl, Nat.le_of_ble_eq_true rfl⟩
      · rw [v_Ci_onV_10]
        have he20 := zr_C10 hSh hj
        exact va_runU (As := [.long y15]) (rest := [.ref (aw_c ad j 15)]) ⟨hx, hb, hml, hown, hG⟩ (k_Si_onV l D g ad N0 zG zO zX zY zA zB zM zI zL zK zN zF zQ j y15 hj) (aw_wA (owner := "RuleCiphers$Cipher") 1 hG hN gw_7_0 gw_8_56 gw_6_51 gw_6_58 gw_6_59 gw_0_7 nw_36 rfl rfl hd_Ci_on ⟨Nat.le_of_ble_eq_true rfl, Nat.le_of_ble_eq_true rfl⟩) (ag_qV (va_recv hK hP rfl he20) hP hD hSh hU hS) rfl rfl hl.1 rfl (lv_room (Nat.le_of_ble_eq_true rfl)) d_Tk_addByte_20 ⟨Nat.le_of_ble_eq_true rfl, Nat.le_of_ble_eq_true rfl⟩
      · rw [v_Ci_onV_12]
        have he21 := zr_C12 hSh hj
        exact va_runU (As := [.long y15]) (rest := [.ref (aw_c ad j 15)]) ⟨hx, hb, hml, hown, hG⟩ (k_Id_onV l D g ad N0 zG zO zX zY zA zB zM zI zL zK zN zF zQ j y15 hj) (aw_wA (owner := "RuleCiphers$Cipher") 1 hG hN gw_6_54 gw_8_56 gw_6_51 gw_6_52 gw_6_53 gw_0_8 nw_36 rfl rfl hd_Ci_on ⟨Nat.le_of_ble_eq_true rfl, Nat.le_of_ble_eq_true rfl⟩) (ag_qV (va_recv hK hP rfl he21) hP hD hSh hU hS) rfl rfl hl.1 rfl (lv_room (Nat.le_of_ble_eq_true rfl)) d_Tk_addByte_20 ⟨Nat.le_of_ble_eq_true rfl, Nat.le_of_ble_eq_true rfl⟩
    refine va_calll hrun16 hS (fun _ _ h => h) (fun _ h => h) ?_
    clear hP hD hSh hS hrun16
    intro y22 u8 t8 H locs ht _ ey22 hB _ _ hS
    obtain ⟨L, hP, hD, hSh⟩ := hB
    rw [ht] at hP
    clear ht
    have ey22 := ey22.symm
    have he23 := zr_C15 hSh hj
    refine ag_put (v := .long y22) (ty := .long) (C := R_Tk) (T := T_Tk) (N := 4) hx hb hG in_Tk t_Tk t_Tk_ok n_Tk hown hK hP hD hS (3 + 16 * j + 15) he23 rfl 1 (by decide) (hG _ gw_1_42) (fun _ h => h) rfl (by decide +kernel) rfl rfl (Nat.le_of_ble_eq_true rfl) d_Tk_addByte_23 (zw_X3 hSh hj y22) ?_
    clear hP hD hSh hS he23
    intro H locs L hP hD hSh hS
    obtain ⟨zX24, ezX24⟩ : ∃ z : Nat → Nat → Int64, az_u2 zX j 3 y22 = z := ⟨_, rfl⟩
    rw [ezX24] at hSh
    refine lv_aload_n hx hb d_Tk_addByte_26 rfl (lv_at hl 0 rfl) ?_
    refine lv_lconst (v := 0) hx hb d_Tk_addByte_27 (by decide +kernel) ?_
    have he25 := zr_C15 hSh hj
    refine ag_put (v := .long 0) (ty := .long) (C := R_Tk) (T := T_Tk) (N := 4) hx hb hG in_Tk t_Tk t_Tk_ok n_Tk hown hK hP hD hS (3 + 16 * j + 15) he25 rfl 2 (by decide) (hG _ gw_1_43) (fun _ h => h) rfl (by decide +kernel) rfl rfl (Nat.le_of_ble_eq_true rfl) d_Tk_addByte_28 (zw_X4 hSh hj 0) ?_
    clear hP hD hSh hS he25
    intro H locs L hP hD hSh hS
    obtain ⟨zX26, ezX26⟩ : ∃ z : Nat → Nat → Int64, az_u2 zX24 j 4 0 = z := ⟨_, rfl⟩
    rw [ezX26] at hSh
    refine lv_aload_n hx hb d_Tk_addByte_31 rfl (lv_at hl 0 rfl) ?_
    refine lv_iconst (v := nI 0) hx hb d_Tk_addByte_32 (by decide +kernel) ?_
    have he27 := zr_C15 hSh hj
    refine ag_put (v := .int (nI 0)) (ty := .int) (C := R_Tk) (T := T_Tk) (N := 4) hx hb hG in_Tk t_Tk t_Tk_ok n_Tk hown hK hP hD hS (3 + 16 * j + 15) he27 rfl 3 (by decide) (hG _ gw_1_44) (fun _ h => h) rfl (by decide +kernel) rfl rfl (Nat.le_of_ble_eq_true rfl) d_Tk_addByte_33 (zw_Y3 hSh hj (nI 0)) ?_
    clear hP hD hSh hS he27
    intro H locs L hP hD hSh hS
    obtain ⟨zY28, ezY28⟩ : ∃ z : Nat → Nat → Int32, az_u2 zY j 3 (nI 0) = z := ⟨_, rfl⟩
    rw [ezY28] at hSh
    refine lv_aload_n hx hb d_Tk_addByte_36 rfl (lv_at hl 0 rfl) ?_
    refine lv_dup hx hb d_Tk_addByte_37 rfl ?_
    have he29 := zr_C15 hSh hj
    refine va_get (C := R_Tk) (T := T_Tk) (N := 4) (v := .long (zX26 j 4)) hx hb hG in_Tk hown hK hP (3 + 16 * j + 15) he29 rfl 2 (by decide) (hG _ gw_1_43) (fun _ h => h) rfl d_Tk_addByte_38 ?_
    clear he29
    refine lv_iload_n hx hb d_Tk_addByte_41 rfl (lv_at hl 2 rfl) ?_
    refine lv_aload_n hx hb d_Tk_addByte_42 rfl (lv_at hl 0 rfl) ?_
    have he30 := zr_C15 hSh hj
    refine va_get (C := R_Tk) (T := T_Tk) (N := 4) (v := .int (zY28 j 3)) hx hb hG in_Tk hown hK hP (3 + 16 * j + 15) he30 rfl 3 (by decide) (hG _ gw_1_44) (fun _ h => h) rfl d_Tk_addByte_43 ?_
    clear he30
    refine aw_cl ((va_runS (As := [.int b, .int (zY28 j 3)]) (rest := [.long (zX26 j 4), .ref (aw_c ad j 15)]) ⟨hx, hb, hml, hown, hG⟩ (k_Tk_atByteV l b (zY28 j 3)) (aw_wS 2 hG gw_8_59 gw_8_57 gw_0_9 gw_8_58 rfl rfl hd_Tk_atByte ⟨Nat.le_of_ble_eq_true rfl, Nat.le_of_ble_eq_true rfl⟩) aw_p0 rfl rfl hl.1 rfl (lv_room (Nat.le_of_ble_eq_true rfl)) d_Tk_addByte_46 ⟨Nat.le_of_ble_eq_true rfl, Nat.le_of_ble_eq_true rfl⟩).run) (fun y31 ey31 => ?_)
    have ey31 := ey31.symm
    refine lv_lor hx hb d_Tk_addByte_49 ?_
    refine ag_topl (fun y32 ey32 => ?_)
    have he33 := zr_C15 hSh hj
    refine ag_put (v := .long y32) (ty := .long) (C := R_Tk) (T := T_Tk) (N := 4) hx hb hG in_Tk t_Tk t_Tk_ok n_Tk hown hK hP hD hS (3 + 16 * j + 15) he33 rfl 2 (by decide) (hG _ gw_1_43) (fun _ h => h) rfl (by decide +kernel) rfl rfl (Nat.le_of_ble_eq_true rfl) d_Tk_addByte_50 (zw_X4 hSh hj y32) ?_
    clear hP hD hSh hS he33
    intro H locs L hP hD hSh hS
    obtain ⟨zX34, ezX34⟩ : ∃ z : Nat → Nat → Int64, az_u2 zX26 j 4 y32 = z := ⟨_, rfl⟩
    rw [ezX34] at hSh
    refine lv_aload_n hx hb d_Tk_addByte_53 rfl (lv_at hl 0 rfl) ?_
    refine lv_dup hx hb d_Tk_addByte_54 rfl ?_
    have he35 := zr_C15 hSh hj
    refine va_get (C := R_Tk) (T := T_Tk) (N := 4) (v := .int (zY28 j 3)) hx hb hG in_Tk hown hK hP (3 + 16 * j + 15) he35 rfl 3 (by decide) (hG _ gw_1_44) (fun _ h => h) rfl d_Tk_addByte_55 ?_
    clear he35
    refine lv_iconst (v := nI 1) hx hb d_Tk_addByte_58 (by decide +kernel) ?_
    refine lv_iadd hx hb d_Tk_addByte_59 ?_
    refine ag_topi (fun x36 ex36 => ?_)
    have he37 := zr_C15 hSh hj
    refine ag_put (v := .int x36) (ty := .int) (C := R_Tk) (T := T_Tk) (N := 4) hx hb hG in_Tk t_Tk t_Tk_ok n_Tk hown hK hP hD hS (3 + 16 * j + 15) he37 rfl 3 (by decide) (hG _ gw_1_44) (fun _ h => h) rfl (by decide +kernel) rfl rfl (Nat.le_of_ble_eq_true rfl) d_Tk_addByte_60 (zw_Y3 hSh hj x36) ?_
    clear hP hD hSh hS he37
    intro H locs L hP hD hSh hS
    obtain ⟨zY38, ezY38⟩ : ∃ z : Nat → Nat → Int32, az_u2 zY28 j 3 x36 = z := ⟨_, rfl⟩
    rw [ezY38] at hSh
    have gzX : zX34 = v_Tk_addByteV_zX zX zY zA j o b := by subst ezY38 ex36 ezX34 ey32 ey31 ezY28 ezX26 ezX24 ey22 ey15; unfold v_Tk_addByteV_zX; rw [if_pos hb2]
    have gzY : zY38 = v_Tk_addByteV_zY zX zY zA j o b := by subst ezY38 ex36 ezX34 ey32 ey31 ezY28 ezX26 ezX24 ey22 ey15; unfold v_Tk_addByteV_zY; rw [if_pos hb2]
    have hSh : az_Sh g ad zG zO (v_Tk_addByteV_zX zX zY zA j o b) (v_Tk_addByteV_zY zX zY zA j o b) zA zB zM zI zL zK zN zF zQ L := by rw [← gzX, ← gzY]; exact hSh
    exact W.vret hx hb hr (fun t ht hW => ⟨⟨(), rfl, trivial, ag_Hr ht hP hD hSh⟩, hS.F ht⟩) hS.2.2 d_Tk_addByte_63
noncomputable def v_Tk_add0V (zY : Nat → Nat → Int32) (j : Nat) : Int32 := (az_u2 zY j 2 ((zY j 2) + (nI 0))) j 2
noncomputable def v_Tk_add0V_zY (zY : Nat → Nat → Int32) (j : Nat) : Nat → Nat → Int32 := az_u2 zY j 2 ((zY j 2) + (nI 0))
abbrev ws_Tk_add0V : List Cond := Cond.code y_Tk_add b_Tk_add 6 (some .int) :: aw_G
abbrev rm_Tk_add0V : Room := { frames := 0, cells := 0, slots := 0, locals := 0 }
set_option maxHeartbeats 4000000 in
set_option maxRecDepth 100000 in
theorem k_Tk_add0V (l : Launch) (D : va_G) (g : Nat → ClassId) (ad : Nat → Nat) (N0 : Nat) (zG : Nat → Nat × Nat) (zO : Nat → Nat) (zX : Nat → Nat → Int64) (zY : Nat → Nat → Int32) (zA : Nat → Nat → Nat → Int32) (zB : Nat → Int32) (zM : Nat → Nat × Nat) (zI : Nat → Nat → Int32) (zL : Nat → Nat → Int64) (zK : Int32) (zN : Nat) (zF : Int32) (zQ : Int64) (j : Nat) (o : Nat) (fr : Int32) (hj : j < 4) (ho : aw_cof o) : Met l y_Tk_add ws_Tk_add0V rm_Tk_add0V (va_Pc ([.ref (aw_c ad j 15), .ref (aw_c ad j o), .ref (aw_r ad 2), .int fr, .int (nI 0)] : List Value) (ag_B D g N0 (az_Sh g ad zG zO zX zY zA zB zM zI zL zK zN zF zQ))) (va_Qi (fun r (_ : Unit) => r = v_Tk_add0V zY j) (fun (_ : Unit) t => ag_H D N0 (az_Sh g ad zG zO zX (v_Tk_add0V_zY zY j) zA zB zM zI zL zK zN zF zQ) t.heap) (aw_Z N0)) 0 0 (aw_Z N0) := by
  refine Met.ofW (cc := b_Tk_add) (maxL := 6) (ret := (some .int)) (by decide) rfl ?_
  intro p e s m args below meth c s₁ B hml hv
  obtain ⟨rfl, ⟨L, hP, hD, hSh⟩, hU⟩ := hv
  have hx := B.exec
  have hb := B.bytes
  have hr := B.returns
  have hG : ∀ w ∈ aw_G, w.before _ s = true := fun w h => atoms_spec (ws := ws_Tk_add0V) B.pre w (List.mem_cons_of_mem _ h)
  have hown : s.vm.findClass "RuleCiphers$Taken" = some m.cls := findClass_of_methodNamed B.named
  have hlocks := B.notSynchronized
  have hE := hU.1
  have hK := hE.1
  have hN := hE.2.1
  have hS : va_S (aw_Z N0) s.heap s.heap [] := va_S.rf
  have hl := lv_entry ([.ref (aw_c ad j 15), .ref (aw_c ad j o), .ref (aw_r ad 2), .int fr, .int (nI 0)] : List Value) (n := 6) (Nat.le_of_ble_eq_true rfl)
  rw [lg_entry_eq]
  generalize (lg_sl ([.ref (aw_c ad j 15), .ref (aw_c ad j o), .ref (aw_r ad 2), .int fr, .int (nI 0)] : List Value) ++ List.replicate (6 - (lg_sl ([.ref (aw_c ad j 15), .ref (aw_c ad j o), .ref (aw_r ad 2), .int fr, .int (nI 0)] : List Value)).length) Slot.unset).toArray = ls at hl ⊢
  have hl : lv_has ls 6 [(0, .ref (aw_c ad j 15)), (1, .ref (aw_c ad j o)), (2, .ref (aw_r ad 2)), (3, .int fr), (4, .int (nI 0))] := hl
  refine lv_iconst (v := nI 0) hx hb d_Tk_add_0 (by decide +kernel) ?_
  refine lv_istore hx hb d_Tk_add_1 hl (by decide) rfl (fun ls hl => ?_)
  have hl : lv_has ls 6 [(5, .int (nI 0)), (0, .ref (aw_c ad j 15)), (1, .ref (aw_c ad j o)), (2, .ref (aw_r ad 2)), (3, .int fr), (4, .int (nI 0))] := hl
  refine lv_iload hx hb d_Tk_add_3 (lv_at hl 0 rfl) ?_
  refine lv_iload hx hb d_Tk_add_5 (lv_at hl 5 rfl) ?_
  refine lv_icmp_ge (tgt := 27) hx hb d_Tk_add_7 (by decide) (fun _ => ?_) (fun h => absurd (by decide +kernel) h)
  refine lv_aload_n hx hb d_Tk_add_27 rfl (lv_at hl 1 rfl) ?_
  refine lv_dup hx hb d_Tk_add_28 rfl ?_
  have he1 := zr_C15 hSh hj
  refine va_get (C := R_Tk) (T := T_Tk) (N := 4) (v := .int (zY j 2)) hx hb hG in_Tk hown hK hP (3 + 16 * j + 15) he1 rfl 0 (by decide) (hG _ gw_1_41) (fun _ h => h) rfl d_Tk_add_29 ?_
  clear he1
  refine lv_iload hx hb d_Tk_add_32 (lv_at hl 5 rfl) ?_
  refine lv_iadd hx hb d_Tk_add_34 ?_
  refine ag_topi (fun x2 ex2 => ?_)
  have he3 := zr_C15 hSh hj
  refine ag_put (v := .int x2) (ty := .int) (C := R_Tk) (T := T_Tk) (N := 4) hx hb hG in_Tk t_Tk t_Tk_ok n_Tk hown hK hP hD hS (3 + 16 * j + 15) he3 rfl 0 (by decide) (hG _ gw_1_41) (fun _ h => h) rfl (by decide +kernel) rfl rfl (Nat.le_of_ble_eq_true rfl) d_Tk_add_35 (zw_Y2 hSh hj x2) ?_
  clear hP hD hSh hS he3
  intro H locs L hP hD hSh hS
  obtain ⟨zY4, ezY4⟩ : ∃ z : Nat → Nat → Int32, az_u2 zY j 2 x2 = z := ⟨_, rfl⟩
  rw [ezY4] at hSh
  refine lv_aload_n hx hb d_Tk_add_38 rfl (lv_at hl 1 rfl) ?_
  have he5 := zr_C15 hSh hj
  refine va_get (C := R_Tk) (T := T_Tk) (N := 4) (v := .int (zY4 j 2)) hx hb hG in_Tk hown hK hP (3 + 16 * j + 15) he5 rfl 0 (by decide) (hG _ gw_1_41) (fun _ h => h) rfl d_Tk_add_39 ?_
  clear he5
  have gzY : zY4 = v_Tk_add0V_zY zY j := by subst ezY4 ex2; rfl
  have hSh : az_Sh g ad zG zO zX (v_Tk_add0V_zY zY j) zA zB zM zI zL zK zN zF zQ L := by rw [← gzY]; exact hSh
  exact W.iret hx hb hr (fun t ht hW => ⟨⟨_, (), rfl, (by subst ezY4 ex2; rfl), ag_Hr ht hP hD hSh⟩, hS.F ht⟩) hS.2.2 d_Tk_add_42
noncomputable def v_Tk_add1V_L3 (zX : Nat → Nat → Int64) (zY : Nat → Nat → Int32) (zA : Nat → Nat → Nat → Int32) (zB : Nat → Int32) (j : Nat) (o : Nat) (k : Nat) (mm : Nat) (t : Nat) : (Nat → Nat → Int64) × (Nat → Nat → Int32) := Nat.rec (motive := fun _ => (Nat → Nat → Int64) × (Nat → Nat → Int32)) (zX, zY) (fun t s => (v_Tk_addByteV_zX (s.1) (s.2) zA j o (zB (k + t)), v_Tk_addByteV_zY (s.1) (s.2) zA j o (zB (k + t)))) t
theorem v_Tk_add1V_L3_z (zX : Nat → Nat → Int64) (zY : Nat → Nat → Int32) (zA : Nat → Nat → Nat → Int32) (zB : Nat → Int32) (j : Nat) (o : Nat) (k : Nat) (mm : Nat) : v_Tk_add1V_L3 zX zY zA zB j o k mm 0 = (zX, zY) := rfl
theorem v_Tk_add1V_L3_s (zX : Nat → Nat → Int64) (zY : Nat → Nat → Int32) (zA : Nat → Nat → Nat → Int32) (zB : Nat → Int32) (j : Nat) (o : Nat) (k : Nat) (mm : Nat) (t : Nat) : v_Tk_add1V_L3 zX zY zA zB j o k mm (t + 1) = (v_Tk_addByteV_zX ((v_Tk_add1V_L3 zX zY zA zB j o k mm t).1) ((v_Tk_add1V_L3 zX zY zA zB j o k mm t).2) zA j o (zB (k + t)), v_Tk_addByteV_zY ((v_Tk_add1V_L3 zX zY zA zB j o k mm t).1) ((v_Tk_add1V_L3 zX zY zA zB j o k mm t).2) zA j o (zB (k + t))) := rfl
noncomputable def v_Tk_add1V (zX : Nat → Nat → Int64) (zY : Nat → Nat → Int32) (zA : Nat → Nat → Nat → Int32) (zB : Nat → Int32) (j : Nat) (o : Nat) (k : Nat) (mm : Nat) : Int32 := (az_u2 ((v_Tk_add1V_L3 zX zY zA zB j o k mm mm).2) j 2 ((((v_Tk_add1V_L3 zX zY zA zB j o k mm mm).2) j 2) + (nI mm))) j 2
noncomputable def v_Tk_add1V_zX (zX : Nat → Nat → Int64) (zY : Nat → Nat → Int32) (zA : Nat → Nat → Nat → Int32) (zB : Nat → Int32) (j : Nat) (o : Nat) (k : Nat) (mm : Nat) : Nat → Nat → Int64 := (v_Tk_add1V_L3 zX zY zA zB j o k mm mm).1
noncomputable def v_Tk_add1V_zY (zX : Nat → Nat → Int64) (zY : Nat → Nat → Int32) (zA : Nat → Nat → Nat → Int32) (zB : Nat → Int32) (j : Nat) (o : Nat) (k : Nat) (mm : Nat) : Nat → Nat → Int32 := az_u2 ((v_Tk_add1V_L3 zX zY zA zB j o k mm mm).2) j 2 ((((v_Tk_add1V_L3 zX zY zA zB j o k mm mm).2) j 2) + (nI mm))
abbrev ws_Tk_add1V : List Cond := Cond.code y_Tk_add b_Tk_add 6 (some .int) :: aw_G
abbrev rm_Tk_add1V : Room := { frames := 4, cells := 0, slots := 0, locals := 101 }
set_option maxHeartbeats 4000000 in
set_option maxRecDepth 100000 in
theorem k_Tk_add1V (l : Launch) (D : va_G) (g : Nat → ClassId) (ad : Nat → Nat) (N0 : Nat) (zG : Nat → Nat × Nat) (zO : Nat → Nat) (zX : Nat → Nat → Int64) (zY : Nat → Nat → Int32) (zA : Nat → Nat → Nat → Int32) (zB : Nat → Int32) (zM : Nat → Nat × Nat) (zI : Nat → Nat → Int32) (zL : Nat → Nat → Int64) (zK : Int32) (zN : Nat) (zF : Int32) (zQ : Int64) (j : Nat) (o : Nat) (k : Nat) (mm : Nat) (hj : j < 4) (ho : aw_cof o) (hk : k + mm ≤ 64) : Met l y_Tk_add ws_Tk_add1V rm_Tk_add1V (va_Pc ([.ref (aw_c ad j 15), .ref (aw_c ad j o), .ref (aw_r ad 2), .int (nI k), .int (nI mm)] : List Value) (ag_B D g N0 (az_Sh g ad zG zO zX zY zA zB zM zI zL zK zN zF zQ))) (va_Qi (fun r (_ : Unit) => r = v_Tk_add1V zX zY zA zB j o k mm) (fun (_ : Unit) t => ag_H D N0 (az_Sh g ad zG zO (v_Tk_add1V_zX zX zY zA zB j o k mm) (v_Tk_add1V_zY zX zY zA zB j o k mm) zA zB zM zI zL zK zN zF zQ) t.heap) (aw_Z N0)) 0 0 (aw_Z N0) := by
  refine Met.ofW (cc := b_Tk_add) (maxL := 6) (ret := (some .int)) (by decide) rfl ?_
  intro p e s m args below meth c s₁ B hml hv
  obtain ⟨rfl, ⟨L, hP, hD, hSh⟩, hU⟩ := hv
  have hx := B.exec
  have hb := B.bytes
  have hr := B.returns
  have hG : ∀ w ∈ aw_G, w.before _ s = true := fun w h => atoms_spec (ws := ws_Tk_add1V) B.pre w (List.mem_cons_of_mem _ h)
  have hown : s.vm.findClass "RuleCiphers$Taken" = some m.cls := findClass_of_methodNamed B.named
  have hlocks := B.notSynchronized
  have hE := hU.1
  have hK := hE.1
  have hN := hE.2.1
  have hS : va_S (aw_Z N0) s.heap s.heap [] := va_S.rf
  have hl := lv_entry ([.ref (aw_c ad j 15), .ref (aw_c ad j o), .ref (aw_r ad 2), .int (nI k), .int (nI mm)] : List Value) (n := 6) (Nat.le_of_ble_eq_true rfl)
  rw [lg_entry_eq]
  generalize (lg_sl ([.ref (aw_c ad j 15), .ref (aw_c ad j o), .ref (aw_r ad 2), .int (nI k), .int (nI mm)] : List Value) ++ List.replicate (6 - (lg_sl ([.ref (aw_c ad j 15), .ref (aw_c ad j o), .ref (aw_r ad 2), .int (nI k), .int (nI mm)] : List Value)).length) Slot.unset).toArray = ls at hl ⊢
  have hl : lv_has ls 6 [(0, .ref (aw_c ad j 15)), (1, .ref (aw_c ad j o)), (2, .ref (aw_r ad 2)), (3, .int (nI k)), (4, .int (nI mm))] := hl
  refine lv_iconst (v := nI 0) hx hb d_Tk_add_0 (by decide +kernel) ?_
  refine lv_istore hx hb d_Tk_add_1 hl (by decide) rfl (fun ls hl => ?_)
  have hl : lv_has ls 6 [(5, .int (nI 0)), (0, .ref (aw_c ad j 15)), (1, .ref (aw_c ad j o)), (2, .ref (aw_r ad 2)), (3, .int (nI k)), (4, .int (nI mm))] := hl
  have L3 : ∀ (d t : Nat) (H : Heap) (locs : List Loc) (L : va_W) (ls : Array Slot), t + d = mm → va_P D aw_C L H → va_D (aw_Z N0) L → az_Sh g ad zG zO ((v_Tk_add1V_L3 zX zY zA zB j o k mm t).1) ((v_Tk_add1V_L3 zX zY zA zB j o k mm t).2) zA zB zM zI zL zK zN zF zQ L → va_S (aw_Z N0) s.heap H locs → lv_has ls 6 [(0, .ref (aw_c ad j 15)), (1, .ref (aw_c ad j o)), (2, .ref (aw_r ad 2)), (3, .int (nI k)), (4, .int (nI mm)), (5, .int (nI t))] → W p l e (headSpec ws_Tk_add1V rm_Tk_add1V).room s m ([.ref (aw_c ad j 15), .ref (aw_c ad j o), .ref (aw_r ad 2), .int (nI k), .int (nI mm)] : List Value).toArray below meth c H locs 0 0 (MQ below (va_Qi (fun r (_ : Unit) => r = v_Tk_add1V zX zY zA zB j o k mm) (fun (_ : Unit) t => ag_H D N0 (az_Sh g ad zG zO (v_Tk_add1V_zX zX zY zA zB j o k mm) (v_Tk_add1V_zY zX zY zA zB j o k mm) zA zB zM zI zL zK zN zF zQ) t.heap) (aw_Z N0)) ([.ref (aw_c ad j 15), .ref (aw_c ad j o), .ref (aw_r ad 2), .int (nI k), .int (nI mm)] : List Value).toArray s 0 0 (aw_Z N0)) (F0 m 3 ls []) := by
    clear hl hP hD hSh hS
    intro d
    induction d with
    | zero =>
      intro t H locs L ls ht0 hP hD hSh hS hl
      have ht1 : t = mm := by omega
      rw [ht1] at hl
      rw [ht1] at hSh
      refine lv_iload hx hb d_Tk_add_3 (lv_at hl 5 rfl) ?_
      refine lv_iload hx hb d_Tk_add_5 (lv_at hl 4 rfl) ?_
      refine lv_icmp_ge (tgt := 27) hx hb d_Tk_add_7 (by decide) (fun _ => ?_) (fun h => absurd (show nI mm ≤ nI mm from (nI_leI (by omega) (by omega)).mpr (by omega)) h)
      refine lv_aload_n hx hb d_Tk_add_27 rfl (lv_at hl 0 rfl) ?_
      refine lv_dup hx hb d_Tk_add_28 rfl ?_
      have he1 := zr_C15 hSh hj
      refine va_get (C := R_Tk) (T := T_Tk) (N := 4) (v := .int (((v_Tk_add1V_L3 zX zY zA zB j o k mm mm).2) j 2)) hx hb hG in_Tk hown hK hP (3 + 16 * j + 15) he1 rfl 0 (by decide) (hG _ gw_1_41) (fun _ h => h) rfl d_Tk_add_29 ?_
      clear he1
      refine lv_iload hx hb d_Tk_add_32 (lv_at hl 4 rfl) ?_
      refine lv_iadd hx hb d_Tk_add_34 ?_
      refine ag_topi (fun x2 ex2 => ?_)
      have he3 := zr_C15 hSh hj
      refine ag_put (v := .int x2) (ty := .int) (C := R_Tk) (T := T_Tk) (N := 4) hx hb hG in_Tk t_Tk t_Tk_ok n_Tk hown hK hP hD hS (3 + 16 * j + 15) he3 rfl 0 (by decide) (hG _ gw_1_41) (fun _ h => h) rfl (by decide +kernel) rfl rfl (Nat.le_of_ble_eq_true rfl) d_Tk_add_35 (zw_Y2 hSh hj x2) ?_
      clear hP hD hSh hS he3
      intro H locs L hP hD hSh hS
      obtain ⟨zY4, ezY4⟩ : ∃ z : Nat → Nat → Int32, az_u2 ((v_Tk_add1V_L3 zX zY zA zB j o k mm mm).2) j 2 x2 = z := ⟨_, rfl⟩
      rw [ezY4] at hSh
      refine lv_aload_n hx hb d_Tk_add_38 rfl (lv_at hl 0 rfl) ?_
      have he5 := zr_C15 hSh hj
      refine va_get (C := R_Tk) (T := T_Tk) (N := 4) (v := .int (zY4 j 2)) hx hb hG in_Tk hown hK hP (3 + 16 * j + 15) he5 rfl 0 (by decide) (hG _ gw_1_41) (fun _ h => h) rfl d_Tk_add_39 ?_
      clear he5
      have gzX : (v_Tk_add1V_L3 zX zY zA zB j o k mm mm).1 = v_Tk_add1V_zX zX zY zA zB j o k mm := by subst ezY4 ex2; rfl
      have gzY : zY4 = v_Tk_add1V_zY zX zY zA zB j o k mm := by subst ezY4 ex2; rfl
      have hSh : az_Sh g ad zG zO (v_Tk_add1V_zX zX zY zA zB j o k mm) (v_Tk_add1V_zY zX zY zA zB j o k mm) zA zB zM zI zL zK zN zF zQ L := by rw [← gzX, ← gzY]; exact hSh
      exact W.iret hx hb hr (fun t ht hW => ⟨⟨_, (), rfl, (by subst ezY4 ex2; rfl), ag_Hr ht hP hD hSh⟩, hS.F ht⟩) hS.2.2 d_Tk_add_42
    | succ d ih =>
      intro t H locs L ls ht0 hP hD hSh hS hl
      refine lv_iload hx hb d_Tk_add_3 (lv_at hl 5 rfl) ?_
      refine lv_iload hx hb d_Tk_add_5 (lv_at hl 4 rfl) ?_
      refine lv_icmp_ge (tgt := 27) hx hb d_Tk_add_7 (by decide) (fun h => absurd h (show ¬ nI mm ≤ nI t from fun h9 => absurd ((nI_leI (by omega) (by omega)).mp h9) (by omega))) (fun _ => ?_)
      refine lv_aload_n hx hb d_Tk_add_10 rfl (lv_at hl 0 rfl) ?_
      refine lv_aload_n hx hb d_Tk_add_11 rfl (lv_at hl 1 rfl) ?_
      refine lv_aload_n hx hb d_Tk_add_12 rfl (lv_at hl 2 rfl) ?_
      refine lv_iload_n hx hb d_Tk_add_13 rfl (lv_at hl 3 rfl) ?_
      refine lv_iload hx hb d_Tk_add_14 (lv_at hl 5 rfl) ?_
      refine lv_iadd hx hb d_Tk_add_16 ?_
      refine aw_ti (nI_add k t) ?_
      have he6 := zr_R2 hSh
      refine aw_ild hx hb hK hP 2 0 he6 rfl (k := (k + t)) (by omega) (by decide) d_Tk_add_17 ?_
      clear he6
      refine ag_topi (fun x7 ex7 => ?_)
      have he8 := zr_C15 hSh hj
      refine va_callv (va_runV (As := [.ref (aw_c ad j o), .int x7]) (rest := []) ⟨hx, hb, hml, hown, hG⟩ (k_Tk_addByteV l D g ad N0 zG zO ((v_Tk_add1V_L3 zX zY zA zB j o k mm t).1) ((v_Tk_add1V_L3 zX zY zA zB j o k mm t).2) zA zB zM zI zL zK zN zF zQ j o x7 hj ho) (aw_wV 2 hG gw_8_55 gw_8_53 gw_0_9 gw_8_54 gw_p_8 rfl rfl hd_Tk_addByte ⟨Nat.le_of_ble_eq_true rfl, Nat.le_of_ble_eq_true rfl⟩) (ag_qV (va_recv hK hP rfl he8) hP hD hSh hU hS) rfl rfl hl.1 rfl (lv_room (Nat.le_of_ble_eq_true rfl)) d_Tk_add_18 ⟨Nat.le_of_ble_eq_true rfl, Nat.le_of_ble_eq_true rfl⟩) hS (fun _ _ h => h) (fun _ h => h) ?_
      clear hP hD hSh hS he8
      intro u8 t8 H locs ht _ _ hB _ _ hS
      obtain ⟨L, hP, hD, hSh⟩ := hB
      rw [ht] at hP
      clear ht
      obtain ⟨zX9, ezX9⟩ : ∃ z : Nat → Nat → Int64, v_Tk_addByteV_zX ((v_Tk_add1V_L3 zX zY zA zB j o k mm t).1) ((v_Tk_add1V_L3 zX zY zA zB j o k mm t).2) zA j o x7 = z := ⟨_, rfl⟩
      rw [ezX9] at hSh
      obtain ⟨zY10, ezY10⟩ : ∃ z : Nat → Nat → Int32, v_Tk_addByteV_zY ((v_Tk_add1V_L3 zX zY zA zB j o k mm t).1) ((v_Tk_add1V_L3 zX zY zA zB j o k mm t).2) zA j o x7 = z := ⟨_, rfl⟩
      rw [ezY10] at hSh
      refine lv_iinc (k := 5) (v := nI (t + 1)) hx hb d_Tk_add_21 hl rfl (aw_inc t 1 1 (by decide +kernel)) (by decide) rfl (fun ls hl => ?_)
      have hl : lv_has ls 6 [(5, .int (nI (t + 1))), (0, .ref (aw_c ad j 15)), (1, .ref (aw_c ad j o)), (2, .ref (aw_r ad 2)), (3, .int (nI k)), (4, .int (nI mm))] := hl
      refine lv_goto (tgt := 3) hx hb d_Tk_add_24 (by decide) ?_
      have hl := lv_sub hl (l' := [(0, .ref (aw_c ad j 15)), (1, .ref (aw_c ad j o)), (2, .ref (aw_r ad 2)), (3, .int (nI k)), (4, .int (nI mm)), (5, .int (nI (t + 1)))]) [1, 2, 3, 4, 5, 0] rfl
      have g0 : zX9 = (v_Tk_add1V_L3 zX zY zA zB j o k mm (t + 1)).1 := by subst ezY10 ezX9 ex7; (rw [v_Tk_add1V_L3_s]) <;> rfl
      have g1 : zY10 = (v_Tk_add1V_L3 zX zY zA zB j o k mm (t + 1)).2 := by subst ezY10 ezX9 ex7; (rw [v_Tk_add1V_L3_s]) <;> rfl
      have hSh : az_Sh g ad zG zO ((v_Tk_add1V_L3 zX zY zA zB j o k mm (t + 1)).1) ((v_Tk_add1V_L3 zX zY zA zB j o k mm (t + 1)).2) zA zB zM zI zL zK zN zF zQ L := by rw [← g0, ← g1]; exact hSh
      exact ih (t + 1) H locs L ls (by omega) hP hD hSh hS (by first | exact hl | simpa [Nat.add_assoc, Nat.mul_add, Nat.add_comm] using hl)
  have hl := lv_sub hl (l' := [(0, .ref (aw_c ad j 15)), (1, .ref (aw_c ad j o)), (2, .ref (aw_r ad 2)), (3, .int (nI k)), (4, .int (nI mm)), (5, .int (nI 0))]) [1, 2, 3, 4, 5, 0] rfl
  have g0 : zX = (v_Tk_add1V_L3 zX zY zA zB j o k mm 0).1 := by (rw [v_Tk_add1V_L3_z]) <;> rfl
  have g1 : zY = (v_Tk_add1V_L3 zX zY zA zB j o k mm 0).2 := by (rw [v_Tk_add1V_L3_z]) <;> rfl
  have hSh : az_Sh g ad zG zO ((v_Tk_add1V_L3 zX zY zA zB j o k mm 0).1) ((v_Tk_add1V_L3 zX zY zA zB j o k mm 0).2) zA zB zM zI zL zK zN zF zQ L := by rw [← g0, ← g1]; exact hSh
  exact L3 mm 0 _ _ L ls (by omega) hP hD hSh hS (by first | exact hl | simpa using hl)
noncomputable def v_Tk_tagByV (zX : Nat → Nat → Int64) (zY : Nat → Nat → Int32) (zA : Nat → Nat → Nat → Int32) (j : Nat) (o : Nat) : Int64 := (if (nI 8) ≤ (zY j 3) then v_Ci_onV zA j o (((zX j 3) ^^^ (zX j 4)) ^^^ (v_Tk_doubledV (v_Ci_onV zA j o 0))) else v_Ci_onV zA j o (((zX j 3) ^^^ ((zX j 4) ||| (v_Tk_atByteV (nI 128) (zY j 3)))) ^^^ (v_Tk_doubledV (v_Tk_doubledV (v_Ci_onV zA j o 0)))))
abbrev ws_Tk_tagByV : List Cond := Cond.code y_Tk_tagBy b_Tk_tagBy 6 (some .long) :: aw_G
abbrev rm_Tk_tagByV : Room := { frames := 3, cells := 0, slots := 0, locals := 79 }
set_option maxHeartbeats 4000000 in
set_option maxRecDepth 100000 in
theorem k_Tk_tagByV (l : Launch) (D : va_G) (g : Nat → ClassId) (ad : Nat → Nat) (N0 : Nat) (zG : Nat → Nat × Nat) (zO : Nat → Nat) (zX : Nat → Nat → Int64) (zY : Nat → Nat → Int32) (zA : Nat → Nat → Nat → Int32) (zB : Nat → Int32) (zM : Nat → Nat × Nat) (zI : Nat → Nat → Int32) (zL : Nat → Nat → Int64) (zK : Int32) (zN : Nat) (zF : Int32) (zQ : Int64) (j : Nat) (o : Nat) (hj : j < 4) (ho : aw_cof o) : Met l y_Tk_tagBy ws_Tk_tagByV rm_Tk_tagByV (va_Pc ([.ref (aw_c ad j 15), .ref (aw_c ad j o)] : List Value) (ag_B D g N0 (az_Sh g ad zG zO zX zY zA zB zM zI zL zK zN zF zQ))) (va_Ql (fun r (_ : Unit) => r = v_Tk_tagByV zX zY zA j o) (fun (_ : Unit) t => ag_H D N0 (az_Sh g ad zG zO zX zY zA zB zM zI zL zK zN zF zQ) t.heap) (aw_Z N0)) 0 0 (aw_Z N0) := by
  refine Met.ofW (cc := b_Tk_tagBy) (maxL := 6) (ret := (some .long)) (by decide) rfl ?_
  intro p e s m args below meth c s₁ B hml hv
  obtain ⟨rfl, ⟨L, hP, hD, hSh⟩, hU⟩ := hv
  have hx := B.exec
  have hb := B.bytes
  have hr := B.returns
  have hG : ∀ w ∈ aw_G, w.before _ s = true := fun w h => atoms_spec (ws := ws_Tk_tagByV) B.pre w (List.mem_cons_of_mem _ h)
  have hown : s.vm.findClass "RuleCiphers$Taken" = some m.cls := findClass_of_methodNamed B.named
  have hlocks := B.notSynchronized
  have hE := hU.1
  have hK := hE.1
  have hN := hE.2.1
  have hS : va_S (aw_Z N0) s.heap s.heap [] := va_S.rf
  have hl := lv_entry ([.ref (aw_c ad j 15), .ref (aw_c ad j o)] : List Value) (n := 6) (Nat.le_of_ble_eq_true rfl)
  rw [lg_entry_eq]
  generalize (lg_sl ([.ref (aw_c ad j 15), .ref (aw_c ad j o)] : List Value) ++ List.replicate (6 - (lg_sl ([.ref (aw_c ad j 15), .ref (aw_c ad j o)] : List Value)).length) Slot.unset).toArray = ls at hl ⊢
  have hl : lv_has ls 6 [(0, .ref (aw_c ad j 15)), (1, .ref (aw_c ad j o))] := hl
  refine lv_aload_n hx hb d_Tk_tagBy_0 rfl (lv_at hl 1 rfl) ?_
  refine lv_lconst (v := 0) hx hb d_Tk_tagBy_1 (by decide +kernel) ?_
  have hrun1 : va_Run p l e (headSpec ws_Tk_tagByV rm_Tk_tagByV).room s m ([.ref (aw_c ad j 15), .ref (aw_c ad j o)] : List Value).toArray below meth c s.heap [] 0 0 0 0 (F0 m 2 ls [.long 0, .ref (aw_c ad j o)]) [] (va_Ql (fun r (_ : Unit) => r = v_Ci_onV zA j o 0) (fun (_ : Unit) t => ag_H D N0 (az_Sh g ad zG zO zX zY zA zB zM zI zL zK zN zF zQ) t.heap) (aw_Z N0) ([.ref (aw_c ad j o), .long 0] : List Value).toArray) (aw_Z N0) := by
    rcases ho with rfl | rfl | rfl | rfl | rfl
    · rw [v_Ci_onV_2]
      have he2 := zr_C2 hSh hj
      exact va_runU (As := [.long 0]) (rest := []) ⟨hx, hb, hml, hown, hG⟩ (k_Rc_onV l D g ad N0 zG zO zX zY zA zB zM zI zL zK zN zF zQ j 0 hj) (aw_wA (owner := "RuleCiphers$Cipher") 1 hG hN gw_6_57 gw_8_56 gw_6_51 gw_6_55 gw_6_56 gw_0_4 nw_36 rfl rfl hd_Ci_on ⟨Nat.le_of_ble_eq_true rfl, Nat.le_of_ble_eq_true rfl⟩) (ag_qV (va_recv hK hP rfl he2) hP hD hSh hU hS) rfl rfl hl.1 rfl (lv_room (Nat.le_of_ble_eq_true rfl)) d_Tk_tagBy_2 ⟨Nat.le_of_ble_eq_true rfl, Nat.le_of_ble_eq_true rfl⟩
    · rw [v_Ci_onV_5]
      have he3 := zr_C5 hSh hj
      exact va_runU (As := [.long 0]) (rest := []) ⟨hx, hb, hml, hown, hG⟩ (k_Xt_onV l D g ad N0 zG zO zX zY zA zB zM zI zL zK zN zF zQ j 0 hj) (aw_wA (owner := "RuleCiphers$Cipher") 1 hG hN gw_7_6 gw_8_56 gw_6_51 gw_7_4 gw_7_5 gw_0_5 nw_36 rfl rfl hd_Ci_on ⟨Nat.le_of_ble_eq_true rfl, Nat.le_of_ble_eq_true rfl⟩) (ag_qV (va_recv hK hP rfl he3) hP hD hSh hU hS) rfl rfl hl.1 rfl (lv_room (Nat.le_of_ble_eq_true rfl)) d_Tk_tagBy_2 ⟨Nat.le_of_ble_eq_true rfl, Nat.le_of_ble_eq_true rfl⟩
    · rw [v_Ci_onV_7]
      have he4 := zr_C7 hSh hj
      exact va_runU (As := [.long 0]) (rest := []) ⟨hx, hb, hml, hown, hG⟩ (k_Sp_onV l D g ad N0 zG zO zX zY zA zB zM zI zL zK zN zF zQ j 0 hj) (aw_wA (owner := "RuleCiphers$Cipher") 1 hG hN gw_7_3 gw_8_56 gw_6_51 gw_7_1 gw_7_2 gw_0_6 nw_36 rfl rfl hd_Ci_on ⟨Nat.le_of_ble_eq_true rfl, Nat.le_of_ble_eq_true rfl⟩) (ag_qV (va_recv hK hP rfl he4) hP hD hSh hU hS) rfl rfl hl.1 rfl (lv_room (Nat.le_of_ble_eq_true rfl)) d_Tk_tagBy_2 ⟨Nat.le_of_ble_eq_true rfl, Nat.le_of_ble_eq_true rfl⟩
    · rw [v_Ci_onV_10]
      have he5 := zr_C10 hSh hj
      exact va_runU (As := [.long 0]) (rest := []) ⟨hx, hb, hml, hown, hG⟩ (k_Si_onV l D g ad N0 zG zO zX zY zA zB zM zI zL zK zN zF zQ j 0 hj) (aw_wA (owner := "RuleCiphers$Cipher") 1 hG hN gw_7_0 gw_8_56 gw_6_51 gw_6_58 gw_6_59 gw_0_7 nw_36 rfl rfl hd_Ci_on ⟨Nat.le_of_ble_eq_true rfl, Nat.le_of_ble_eq_true rfl⟩) (ag_qV (va_recv hK hP rfl he5) hP hD hSh hU hS) rfl rfl hl.1 rfl (lv_room (Nat.le_of_ble_eq_true rfl)) d_Tk_tagBy_2 ⟨Nat.le_of_ble_eq_true rfl, Nat.le_of_ble_eq_true rfl⟩
    · rw [v_Ci_onV_12]
      have he6 := zr_C12 hSh hj
      exact va_runU (As := [.long 0]) (rest := []) ⟨hx, hb, hml, hown, hG⟩ (k_Id_onV l D g ad N0 zG zO zX zY zA zB zM zI zL zK zN zF zQ j 0 hj) (aw_wA (owner := "RuleCiphers$Cipher") 1 hG hN gw_6_54 gw_8_56 gw_6_51 gw_6_52 gw_6_53 gw_0_8 nw_36 rfl rfl hd_Ci_on ⟨Nat.le_of_ble_eq_true rfl, Nat.le_of_ble_eq_true rfl⟩) (ag_qV (va_recv hK hP rfl he6) hP hD hSh hU hS) rfl rfl hl.1 rfl (lv_room (Nat.le_of_ble_eq_true rfl)) d_Tk_tagBy_2 ⟨Nat.le_of_ble_eq_true rfl, Nat.le_of_ble_eq_true rfl⟩
  refine va_calll hrun1 hS (fun _ _ h => h) (fun _ h => h) ?_
  clear hP hD hSh hS hrun1
  intro y7 u8 t8 H locs ht _ ey7 hB _ _ hS
  obtain ⟨L, hP, hD, hSh⟩ := hB
  rw [ht] at hP
  clear ht
  have ey7 := ey7.symm
  refine aw_cl ((va_runS (As := [.long y7]) (rest := []) ⟨hx, hb, hml, hown, hG⟩ (k_Tk_doubledV l y7) (aw_wS 1 hG gw_9_17 gw_9_15 gw_0_9 gw_9_16 rfl rfl hd_Tk_doubled ⟨Nat.le_of_ble_eq_true rfl, Nat.le_of_ble_eq_true rfl⟩) aw_p0 rfl rfl hl.1 rfl (lv_room (Nat.le_of_ble_eq_true rfl)) d_Tk_tagBy_5 ⟨Nat.le_of_ble_eq_true rfl, Nat.le_of_ble_eq_true rfl⟩).run) (fun y8 ey8 => ?_)
  have ey8 := ey8.symm
  refine lv_lstore_n hx hb d_Tk_tagBy_8 rfl hl (by decide) rfl (fun ls hl => ?_)
  have hl : lv_has ls 6 [(2, .long y8), (0, .ref (aw_c ad j 15)), (1, .ref (aw_c ad j o))] := hl
  refine lv_aload_n hx hb d_Tk_tagBy_9 rfl (lv_at hl 1 rfl) ?_
  have he9 := zr_C15 hSh hj
  refine va_get (C := R_Tk) (T := T_Tk) (N := 4) (v := .long (zX j 4)) hx hb hG in_Tk hown hK hP (3 + 16 * j + 15) he9 rfl 2 (by decide) (hG _ gw_1_43) (fun _ h => h) rfl d_Tk_tagBy_10 ?_
  clear he9
  refine lv_lstore hx hb d_Tk_tagBy_13 hl (by decide) rfl (fun ls hl => ?_)
  have hl : lv_has ls 6 [(4, .long (zX j 4)), (2, .long y8), (0, .ref (aw_c ad j 15)), (1, .ref (aw_c ad j o))] := hl
  refine lv_aload_n hx hb d_Tk_tagBy_15 rfl (lv_at hl 2 rfl) ?_
  have he10 := zr_C15 hSh hj
  refine va_get (C := R_Tk) (T := T_Tk) (N := 4) (v := .int (zY j 3)) hx hb hG in_Tk hown hK hP (3 + 16 * j + 15) he10 rfl 3 (by decide) (hG _ gw_1_44) (fun _ h => h) rfl d_Tk_tagBy_16 ?_
  clear he10
  refine lv_bipush (v := nI 8) hx hb d_Tk_tagBy_19 (by decide +kernel) ?_
  refine lv_icmp_ge (tgt := 44) hx hb d_Tk_tagBy_21 (by decide) (fun hb11 => ?_) (fun hb11 => ?_)
  · refine lv_aload_n hx hb d_Tk_tagBy_44 rfl (lv_at hl 3 rfl) ?_
    refine lv_aload_n hx hb d_Tk_tagBy_45 rfl (lv_at hl 2 rfl) ?_
    have he12 := zr_C15 hSh hj
    refine va_get (C := R_Tk) (T := T_Tk) (N := 4) (v := .long (zX j 3)) hx hb hG in_Tk hown hK hP (3 + 16 * j + 15) he12 rfl 1 (by decide) (hG _ gw_1_42) (fun _ h => h) rfl d_Tk_tagBy_46 ?_
    clear he12
    refine lv_lload hx hb d_Tk_tagBy_49 (lv_at hl 0 rfl) ?_
    refine lv_lxor hx hb d_Tk_tagBy_51 ?_
    refine ag_topl (fun y13 ey13 => ?_)
    refine lv_lload_n hx hb d_Tk_tagBy_52 rfl (lv_at hl 1 rfl) ?_
    refine lv_lxor hx hb d_Tk_tagBy_53 ?_
    refine ag_topl (fun y14 ey14 => ?_)
    have hrun15 : va_Run p l e (headSpec ws_Tk_tagByV rm_Tk_tagByV).room s m ([.ref (aw_c ad j 15), .ref (aw_c ad j o)] : List Value).toArray below meth c H locs 0 0 0 0 (F0 m 54 ls [.long y14, .ref (aw_c ad j o)]) [] (va_Ql (fun r (_ : Unit) => r = v_Ci_onV zA j o y14) (fun (_ : Unit) t => ag_H D N0 (az_Sh g ad zG zO zX zY zA zB zM zI zL zK zN zF zQ) t.heap) (aw_Z N0) ([.ref (aw_c ad j o), .long y14] : List Value).toArray) (aw_Z N0) := by
      rcases ho with rfl | rfl | rfl | rfl | rfl
      · rw [v_Ci_onV_2]
        have he16 := zr_C2 hSh hj
        exact va_runU (As := [.long y14]) (rest := []) ⟨hx, hb, hml, hown, hG⟩ (k_Rc_onV l D g ad N0 zG zO zX zY zA zB zM zI zL zK zN zF zQ j y14 hj) (aw_wA (owner := "RuleCiphers$Cipher") 1 hG hN gw_6_57 gw_8_56 gw_6_51 gw_6_55 gw_6_56 gw_0_4 nw_36 rfl rfl hd_Ci_on ⟨Nat.le_of_ble_eq_true rfl, Nat.le_of_ble_eq_true rfl⟩) (ag_qV (va_recv hK hP rfl he16) hP hD hSh hU hS) rfl rfl hl.1 rfl (lv_room (Nat.le_of_ble_eq_true rfl)) d_Tk_tagBy_54 ⟨Nat.le_of_ble_eq_true rfl, Nat.le_of_ble_eq_true rfl⟩
      · rw [v_Ci_onV_5]
        have he17 := zr_C5 hSh hj
        exact va_runU (As := [.long y14]) (rest := []) ⟨hx, hb, hml, hown, hG⟩ (k_Xt_onV l D g ad N0 zG zO zX zY zA zB zM zI zL zK zN zF zQ j y14 hj) (aw_wA (owner := "RuleCiphers$Cipher") 1 hG hN gw_7_6 gw_8_56 gw_6_51 gw_7_4 gw_7_5 gw_0_5 nw_36 rfl rfl hd_Ci_on ⟨Nat.le_of_ble_eq_true rfl, Nat.le_of_ble_eq_true rfl⟩) (ag_qV (va_recv hK hP rfl he17) hP hD hSh hU hS) rfl rfl hl.1 rfl (lv_room (Nat.le_of_ble_eq_true rfl)) d_Tk_tagBy_54 ⟨Nat.le_of_ble_eq_true rfl, Nat.le_of_ble_eq_true rfl⟩
      · rw [v_Ci_onV_7]
        have he18 := zr_C7 hSh hj
        exact va_runU (As := [.long y14]) (rest := []) ⟨hx, hb, hml, hown, hG⟩ (k_Sp_onV l D g ad N0 zG zO zX zY zA zB zM zI zL zK zN zF zQ j y14 hj) (aw_wA (owner := "RuleCiphers$Cipher") 1 hG hN gw_7_3 gw_8_56 gw_6_51 gw_7_1 gw_7_2 gw_0_6 nw_36 rfl rfl hd_Ci_on ⟨Nat.le_of_ble_eq_true rfl, Nat.le_of_ble_eq_true rfl⟩) (ag_qV (va_recv hK hP rfl he18) hP hD hSh hU hS) rfl rfl hl.1 rfl (lv_room (Nat.le_of_ble_eq_true rfl)) d_Tk_tagBy_54 ⟨Nat.le_of_ble_eq_true rfl, Nat.le_of_ble_eq_true rfl⟩
      · rw [v_Ci_onV_10]
        have he19 := zr_C10 hSh hj
        exact va_runU (As := [.long y14]) (rest := []) ⟨hx, hb, hml, hown, hG⟩ (k_Si_onV l D g ad N0 zG zO zX zY zA zB zM zI zL zK zN zF zQ j y14 hj) (aw_wA (owner := "RuleCiphers$Cipher") 1 hG hN gw_7_0 gw_8_56 gw_6_51 gw_6_58 gw_6_59 gw_0_7 nw_36 rfl rfl hd_Ci_on ⟨Nat.le_of_ble_eq_true rfl, Nat.le_of_ble_eq_true rfl⟩) (ag_qV (va_recv hK hP rfl he19) hP hD hSh hU hS) rfl rfl hl.1 rfl (lv_room (Nat.le_of_ble_eq_true rfl)) d_Tk_tagBy_54 ⟨Nat.le_of_ble_eq_true rfl, Nat.le_of_ble_eq_true rfl⟩
      · rw [v_Ci_onV_12]
        have he20 := zr_C12 hSh hj
        exact va_runU (As := [.long y14]) (rest := []) ⟨hx, hb, hml, hown, hG⟩ (k_Id_onV l D g ad N0 zG zO zX zY zA zB zM zI zL zK zN zF zQ j y14 hj) (aw_wA (owner := "RuleCiphers$Cipher") 1 hG hN gw_6_54 gw_8_56 gw_6_51 gw_6_52 gw_6_53 gw_0_8 nw_36 rfl rfl hd_Ci_on ⟨Nat.le_of_ble_eq_true rfl, Nat.le_of_ble_eq_true rfl⟩) (ag_qV (va_recv hK hP rfl he20) hP hD hSh hU hS) rfl rfl hl.1 rfl (lv_room (Nat.le_of_ble_eq_true rfl)) d_Tk_tagBy_54 ⟨Nat.le_of_ble_eq_true rfl, Nat.le_of_ble_eq_true rfl⟩
    refine va_calll hrun15 hS (fun _ _ h => h) (fun _ h => h) ?_
    clear hP hD hSh hS hrun15
    intro y21 u8 t8 H locs ht _ ey21 hB _ _ hS
    obtain ⟨L, hP, hD, hSh⟩ := hB
    rw [ht] at hP
    clear ht
    have ey21 := ey21.symm
    exact W.lret hx hb hr (fun t ht hW => ⟨⟨_, (), rfl, (by subst ey21 ey14 ey13 ey8 ey7; unfold v_Tk_tagByV; rw [if_pos hb11]), ag_Hr ht hP hD hSh⟩, hS.F ht⟩) hS.2.2 d_Tk_tagBy_57
  · refine lv_lload_n hx hb d_Tk_tagBy_24 rfl (lv_at hl 1 rfl) ?_
    refine aw_cl ((va_runS (As := [.long y8]) (rest := []) ⟨hx, hb, hml, hown, hG⟩ (k_Tk_doubledV l y8) (aw_wS 1 hG gw_9_17 gw_9_15 gw_0_9 gw_9_16 rfl rfl hd_Tk_doubled ⟨Nat.le_of_ble_eq_true rfl, Nat.le_of_ble_eq_true rfl⟩) aw_p0 rfl rfl hl.1 rfl (lv_room (Nat.le_of_ble_eq_true rfl)) d_Tk_tagBy_25 ⟨Nat.le_of_ble_eq_true rfl, Nat.le_of_ble_eq_true rfl⟩).run) (fun y22 ey22 => ?_)
    have ey22 := ey22.symm
    refine lv_lstore_n hx hb d_Tk_tagBy_28 rfl hl (by decide) rfl (fun ls hl => ?_)
    have hl : lv_has ls 6 [(2, .long y22), (4, .long (zX j 4)), (0, .ref (aw_c ad j 15)), (1, .ref (aw_c ad j o))] := hl
    refine lv_lload hx hb d_Tk_tagBy_29 (lv_at hl 1 rfl) ?_
    refine lv_sipush (v := nI 128) hx hb d_Tk_tagBy_31 (by decide +kernel) ?_
    refine lv_aload_n hx hb d_Tk_tagBy_34 rfl (lv_at hl 2 rfl) ?_
    have he23 := zr_C15 hSh hj
    refine va_get (C := R_Tk) (T := T_Tk) (N := 4) (v := .int (zY j 3)) hx hb hG in_Tk hown hK hP (3 + 16 * j + 15) he23 rfl 3 (by decide) (hG _ gw_1_44) (fun _ h => h) rfl d_Tk_tagBy_35 ?_
    clear he23
    refine aw_cl ((va_runS (As := [.int (nI 128), .int (zY j 3)]) (rest := [.long (zX j 4)]) ⟨hx, hb, hml, hown, hG⟩ (k_Tk_atByteV l (nI 128) (zY j 3)) (aw_wS 2 hG gw_8_59 gw_8_57 gw_0_9 gw_8_58 rfl rfl hd_Tk_atByte ⟨Nat.le_of_ble_eq_true rfl, Nat.le_of_ble_eq_true rfl⟩) aw_p0 rfl rfl hl.1 rfl (lv_room (Nat.le_of_ble_eq_true rfl)) d_Tk_tagBy_38 ⟨Nat.le_of_ble_eq_true rfl, Nat.le_of_ble_eq_true rfl⟩).run) (fun y24 ey24 => ?_)
    have ey24 := ey24.symm
    refine lv_lor hx hb d_Tk_tagBy_41 ?_
    refine ag_topl (fun y25 ey25 => ?_)
    refine lv_lstore hx hb d_Tk_tagBy_42 hl (by decide) rfl (fun ls hl => ?_)
    have hl : lv_has ls 6 [(4, .long y25), (2, .long y22), (0, .ref (aw_c ad j 15)), (1, .ref (aw_c ad j o))] := hl
    refine lv_aload_n hx hb d_Tk_tagBy_44 rfl (lv_at hl 3 rfl) ?_
    refine lv_aload_n hx hb d_Tk_tagBy_45 rfl (lv_at hl 2 rfl) ?_
    have he26 := zr_C15 hSh hj
    refine va_get (C := R_Tk) (T := T_Tk) (N := 4) (v := .long (zX j 3)) hx hb hG in_Tk hown hK hP (3 + 16 * j + 15) he26 rfl 1 (by decide) (hG _ gw_1_42) (fun _ h => h) rfl d_Tk_tagBy_46 ?_
    clear he26
    refine lv_lload hx hb d_Tk_tagBy_49 (lv_at hl 0 rfl) ?_
    refine lv_lxor hx hb d_Tk_tagBy_51 ?_
    refine ag_topl (fun y27 ey27 => ?_)
    refine lv_lload_n hx hb d_Tk_tagBy_52 rfl (lv_at hl 1 rfl) ?_
    refine lv_lxor hx hb d_Tk_tagBy_53 ?_
    refine ag_topl (fun y28 ey28 => ?_)
    have hrun29 : va_Run p l e (headSpec ws_Tk_tagByV rm_Tk_tagByV).room s m ([.ref (aw_c ad j 15), .ref (aw_c ad j o)] : List Value).toArray below meth c H locs 0 0 0 0 (F0 m 54 ls [.long y28, .ref (aw_c ad j o)]) [] (va_Ql (fun r (_ : Unit) => r = v_Ci_onV zA j o y28) (fun (_ : Unit) t => ag_H D N0 (az_Sh g ad zG zO zX zY zA zB zM zI zL zK zN zF zQ) t.heap) (aw_Z N0) ([.ref (aw_c ad j o), .long y28] : List Value).toArray) (aw_Z N0) := by
      rcases ho with rfl | rfl | rfl | rfl | rfl
      · rw [v_Ci_onV_2]
        have he30 := zr_C2 hSh hj
        exact va_runU (As := [.long y28]) (rest := []) ⟨hx, hb, hml, hown, hG⟩ (k_Rc_onV l D g ad N0 zG zO zX zY zA zB zM zI zL zK zN zF zQ j y28 hj) (aw_wA (owner := "RuleCiphers$Cipher") 1 hG hN gw_6_57 gw_8_56 gw_6_51 gw_6_55 gw_6_56 gw_0_4 nw_36 rfl rfl hd_Ci_on ⟨Nat.le_of_ble_eq_true rfl, Nat.le_of_ble_eq_true rfl⟩) (ag_qV (va_recv hK hP rfl he30) hP hD hSh hU hS) rfl rfl hl.1 rfl (lv_room (Nat.le_of_ble_eq_true rfl)) d_Tk_tagBy_54 ⟨Nat.le_of_ble_eq_true rfl, Nat.le_of_ble_eq_true rfl⟩
      · rw [v_Ci_onV_5]
        have he31 := zr_C5 hSh hj
        exact va_runU (As := [.long y28]) (rest := []) ⟨hx, hb, hml, hown, hG⟩ (k_Xt_onV l D g ad N0 zG zO zX zY zA zB zM zI zL zK zN zF zQ j y28 hj) (aw_wA (owner := "RuleCiphers$Cipher") 1 hG hN gw_7_6 gw_8_56 gw_6_51 gw_7_4 gw_7_5 gw_0_5 nw_36 rfl rfl hd_Ci_on ⟨Nat.le_of_ble_eq_true rfl, Nat.le_of_ble_eq_true rfl⟩) (ag_qV (va_recv hK hP rfl he31) hP hD hSh hU hS) rfl rfl hl.1 rfl (lv_room (Nat.le_of_ble_eq_true rfl)) d_Tk_tagBy_54 ⟨Nat.le_of_ble_eq_true rfl, Nat.le_of_ble_eq_true rfl⟩
      · rw [v_Ci_onV_7]
        have he32 := zr_C7 hSh hj
        exact va_runU (As := [.long y28]) (rest := []) ⟨hx, hb, hml, hown, hG⟩ (k_Sp_onV l D g ad N0 zG zO zX zY zA zB zM zI zL zK zN zF zQ j y28 hj) (aw_wA (owner := "RuleCiphers$Cipher") 1 hG hN gw_7_3 gw_8_56 gw_6_51 gw_7_1 gw_7_2 gw_0_6 nw_36 rfl rfl hd_Ci_on ⟨Nat.le_of_ble_eq_true rfl, Nat.le_of_ble_eq_true rfl⟩) (ag_qV (va_recv hK hP rfl he32) hP hD hSh hU hS) rfl rfl hl.1 rfl (lv_room (Nat.le_of_ble_eq_true rfl)) d_Tk_tagBy_54 ⟨Nat.le_of_ble_eq_true rfl, Nat.le_of_ble_eq_true rfl⟩
      · rw [v_Ci_onV_10]
        have he33 := zr_C10 hSh hj
        exact va_runU (As := [.long y28]) (rest := []) ⟨hx, hb, hml, hown, hG⟩ (k_Si_onV l D g ad N0 zG zO zX zY zA zB zM zI zL zK zN zF zQ j y28 hj) (aw_wA (owner := "RuleCiphers$Cipher") 1 hG hN gw_7_0 gw_8_56 gw_6_51 gw_6_58 gw_6_59 gw_0_7 nw_36 rfl rfl hd_Ci_on ⟨Nat.le_of_ble_eq_true rfl, Nat.le_of_ble_eq_true rfl⟩) (ag_qV (va_recv hK hP rfl he33) hP hD hSh hU hS) rfl rfl hl.1 rfl (lv_room (Nat.le_of_ble_eq_true rfl)) d_Tk_tagBy_54 ⟨Nat.le_of_ble_eq_true rfl, Nat.le_of_ble_eq_true rfl⟩
      · rw [v_Ci_onV_12]
        have he34 := zr_C12 hSh hj
        exact va_runU (As := [.long y28]) (rest := []) ⟨hx, hb, hml, hown, hG⟩ (k_Id_onV l D g ad N0 zG zO zX zY zA zB zM zI zL zK zN zF zQ j y28 hj) (aw_wA (owner := "RuleCiphers$Cipher") 1 hG hN gw_6_54 gw_8_56 gw_6_51 gw_6_52 gw_6_53 gw_0_8 nw_36 rfl rfl hd_Ci_on ⟨Nat.le_of_ble_eq_true rfl, Nat.le_of_ble_eq_true rfl⟩) (ag_qV (va_recv hK hP rfl he34) hP hD hSh hU hS) rfl rfl hl.1 rfl (lv_room (Nat.le_of_ble_eq_true rfl)) d_Tk_tagBy_54 ⟨Nat.le_of_ble_eq_true rfl, Nat.le_of_ble_eq_true rfl⟩
    refine va_calll hrun29 hS (fun _ _ h => h) (fun _ h => h) ?_
    clear hP hD hSh hS hrun29
    intro y35 u8 t8 H locs ht _ ey35 hB _ _ hS
    obtain ⟨L, hP, hD, hSh⟩ := hB
    rw [ht] at hP
    clear ht
    have ey35 := ey35.symm
    exact W.lret hx hb hr (fun t ht hW => ⟨⟨_, (), rfl, (by subst ey35 ey28 ey27 ey25 ey24 ey22 ey8 ey7; unfold v_Tk_tagByV; rw [if_neg hb11]), ag_Hr ht hP hD hSh⟩, hS.F ht⟩) hS.2.2 d_Tk_tagBy_57
