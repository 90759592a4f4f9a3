abbrev ws_Cx_chooseCipher : List Cond := Cond.code y_Cx_chooseCipher b_Cx_chooseCipher 2 none :: aw_G
abbrev rm_Cx_chooseCipher : Room := { frames := 0, cells := 0, slots := 0, locals := 0 }
set_option maxHeartbeats 4000000 in
set_option maxRecDepth 100000 in
theorem k_Cx_chooseCipher (l : Launch) (D : va_G) (g : Nat → ClassId) (ad : Nat → Nat) (G M : Nat → Nat × Nat) (F : Int32) (N0 : Nat) (j : Nat) (k : Nat) (hj : j < 4) (hk : k < 5) : Met l y_Cx_chooseCipher ws_Cx_chooseCipher rm_Cx_chooseCipher (va_Pc ([.ref (aw_c ad j 0), .int (nI k)] : List Value) (aw_B D g ad G M F N0)) (va_Qv (fun (_ : Unit) => True) (fun (_ : Unit) t => aw_H D g ad (aw_g1 G j 1) M F N0 t.heap) (aw_Z N0)) 0 0 (aw_Z N0) := by
  refine Met.ofW (cc := b_Cx_chooseCipher) (maxL := 2) (ret := none) (by decide) rfl ?_
  intro p e s m args below meth c s₁ B hml hv
  obtain ⟨rfl, ⟨L, hP, hD, hSh⟩, hU⟩ := hv
  have hx := B.exec
  have hb := B.bytes
  have hr := B.returns
  have hG : ∀ w ∈ aw_G, w.before _ s = true := fun w h => atoms_spec (ws := ws_Cx_chooseCipher) B.pre w (List.mem_cons_of_mem _ h)
  have hown : s.vm.findClass "RuleCiphers$Context" = some m.cls := findClass_of_methodNamed B.named
  have hlocks := B.notSynchronized
  have hE := hU.1
  have hK := hE.1
  have hN := hE.2.1
  have hS : va_S (aw_Z N0) s.heap s.heap [] := va_S.rf
  have hl := lv_entry ([.ref (aw_c ad j 0), .int (nI k)] : List Value) (n := 2) (Nat.le_of_ble_eq_true rfl)
  rw [lg_entry_eq]
  generalize (lg_sl ([.ref (aw_c ad j 0), .int (nI k)] : List Value) ++ List.replicate (2 - (lg_sl ([.ref (aw_c ad j 0), .int (nI k)] : List Value)).length) Slot.unset).toArray = ls at hl ⊢
  have hl : lv_has ls 2 [(0, .ref (aw_c ad j 0)), (1, .int (nI k))] := hl
  refine lv_aload_n hx hb d_Cx_chooseCipher_0 rfl (lv_at hl 0 rfl) ?_
  refine lv_aload_n hx hb d_Cx_chooseCipher_1 rfl (lv_at hl 0 rfl) ?_
  obtain ⟨o2, y3, y4, y5, x6, x7, ho8, he1⟩ := rd_C0 hSh hj
  have hg := hSh.2.2.2.2.1 j hj
  refine va_get (C := R_Cx) (T := T_Cx) (N := 10) (v := .ref (aw_c ad j 1)) hx hb hG in_Cx hown hK hP (3 + 16 * j + 0) he1 rfl 0 (by decide) (hG _ gw_1_54) (fun _ h => h) rfl d_Cx_chooseCipher_2 ?_
  refine lv_iload_n hx hb d_Cx_chooseCipher_5 rfl (lv_at hl 1 rfl) ?_
  obtain ⟨f10, hc11, he9⟩ := rd_C1 hSh hj
  obtain ⟨o12, ho13, hf14⟩ := aw_pick5 (k := k) hc11 (by omega)
  refine aw_ald hx hb hK hP (3 + 16 * j + 1) 2 he9 rfl (k := k) (by omega) (by decide) hf14 d_Cx_chooseCipher_6 ?_
  obtain ⟨o16, y17, y18, y19, x20, x21, ho22, he15⟩ := rd_C0 hSh hj
  have hg := hSh.2.2.2.2.1 j hj
  refine aw_put (v := .ref (aw_c ad j o12)) (ty := (.object "RuleCiphers$Cipher")) (C := R_Cx) (T := T_Cx) (N := 10) hx hb hG in_Cx t_Cx t_Cx_ok n_Cx hown hK hP hD hS (3 + 16 * j + 0) he15 rfl 4 (by decide) (hG _ gw_2_0) (fun _ h => h) rfl (by decide +kernel) rfl rfl (Nat.le_of_ble_eq_true rfl) d_Cx_chooseCipher_7 (wr_C0 hSh hj o12 y17 y18 y19 x20 x21 ho13) (fun H locs L hP hD hSh hS => ?_)
  refine lv_aload_n hx hb d_Cx_chooseCipher_10 rfl (lv_at hl 0 rfl) ?_
  refine lv_iconst (v := nI 1) hx hb d_Cx_chooseCipher_11 (by decide +kernel) ?_
  obtain ⟨o24, y25, y26, y27, x28, x29, ho30, he23⟩ := rd_C0 hSh hj
  have hg := hSh.2.2.2.2.1 j hj
  refine aw_put (v := .int (nI 1)) (ty := .int) (C := R_Cx) (T := T_Cx) (N := 10) hx hb hG in_Cx t_Cx t_Cx_ok n_Cx hown hK hP hD hS (3 + 16 * j + 0) he23 rfl 2 (by decide) (hG _ gw_1_56) (fun _ h => h) rfl (by decide +kernel) rfl rfl (Nat.le_of_ble_eq_true rfl) d_Cx_chooseCipher_12 (wr_C0s1 hSh hj 1 (by omega) o24 y25 y26 y27 x28 x29 ho30) (fun H locs L hP hD hSh hS => ?_)
  exact W.vret hx hb hr (fun t ht hW => ⟨⟨(), rfl, trivial, aw_Hr ht hP hD hSh⟩, hS.F ht⟩) hS.2.2 d_Cx_chooseCipher_15
abbrev ws_Cx_setKey : List Cond := Cond.code y_Cx_setKey b_Cx_setKey 5 none :: aw_G
abbrev rm_Cx_setKey : Room := { frames := 3, cells := 0, slots := 0, locals := 77 }
set_option maxHeartbeats 4000000 in
set_option maxRecDepth 100000 in
theorem k_Cx_setKey (l : Launch) (D : va_G) (g : Nat → ClassId) (ad : Nat → Nat) (G M : Nat → Nat × Nat) (F : Int32) (N0 : Nat) (j : Nat) (a : Int64) (b : Int64) (hj : j < 4) : Met l y_Cx_setKey ws_Cx_setKey rm_Cx_setKey (va_Pc ([.ref (aw_c ad j 0), .long a, .long b] : List Value) (aw_B D g ad G M F N0)) (va_Qv (fun (_ : Unit) => True) (fun (_ : Unit) t => aw_H D g ad (aw_g1 G j 2) M F N0 t.heap) (aw_Z N0)) 0 0 (aw_Z N0) := by
  refine Met.ofW (cc := b_Cx_setKey) (maxL := 5) (ret := none) (by decide) rfl ?_
  intro p e s m args below meth c s₁ B hml hv
  obtain ⟨rfl, ⟨L, hP, hD, hSh⟩, hU⟩ := hv
  have hx := B.exec
  have hb := B.bytes
  have hr := B.returns
  have hG : ∀ w ∈ aw_G, w.before _ s = true := fun w h => atoms_spec (ws := ws_Cx_setKey) B.pre w (List.mem_cons_of_mem _ h)
  have hown : s.vm.findClass "RuleCiphers$Context" = some m.cls := findClass_of_methodNamed B.named
  have hlocks := B.notSynchronized
  have hE := hU.1
  have hK := hE.1
  have hN := hE.2.1
  have hS : va_S (aw_Z N0) s.heap s.heap [] := va_S.rf
  have hl := lv_entry ([.ref (aw_c ad j 0), .long a, .long b] : List Value) (n := 5) (Nat.le_of_ble_eq_true rfl)
  rw [lg_entry_eq]
  generalize (lg_sl ([.ref (aw_c ad j 0), .long a, .long b] : List Value) ++ List.replicate (5 - (lg_sl ([.ref (aw_c ad j 0), .long a, .long b] : List Value)).length) Slot.unset).toArray = ls at hl ⊢
  have hl : lv_has ls 5 [(0, .ref (aw_c ad j 0)), (1, .long a), (3, .long b)] := hl
  refine lv_aload_n hx hb d_Cx_setKey_0 rfl (lv_at hl 0 rfl) ?_
  obtain ⟨o2, y3, y4, y5, x6, x7, ho8, he1⟩ := rd_C0 hSh hj
  have hg := hSh.2.2.2.2.1 j hj
  refine va_get (C := R_Cx) (T := T_Cx) (N := 10) (v := .ref (aw_c ad j o2)) hx hb hG in_Cx hown hK hP (3 + 16 * j + 0) he1 rfl 4 (by decide) (hG _ gw_2_0) (fun _ h => h) rfl d_Cx_setKey_1 ?_
  refine lv_lload_n hx hb d_Cx_setKey_4 rfl (lv_at hl 1 rfl) ?_
  refine lv_lload_n hx hb d_Cx_setKey_5 rfl (lv_at hl 2 rfl) ?_
  have hrun9 : va_Run p l e (headSpec ws_Cx_setKey rm_Cx_setKey).room s m ([.ref (aw_c ad j 0), .long a, .long b] : List Value).toArray below meth c s.heap [] 0 0 0 0 (F0 m 6 ls [.long b, .long a, .ref (aw_c ad j o2)]) [] (va_Qv (fun (_ : Unit) => True) (fun (_ : Unit) t => aw_H D g ad G M F N0 t.heap) (aw_Z N0) ([.ref (aw_c ad j o2), .long a, .long b] : List Value).toArray) (aw_Z N0) := by
    rcases ho8 with rfl | rfl | rfl | rfl | rfl
    · have he10 := rd_C2 hSh hj
      exact va_runU (As := [.long a, .long b]) (rest := []) ⟨hx, hb, hml, hown, hG⟩ (k_Rc_schedule l D g ad G M F N0 j a b hj) (aw_wA (owner := "RuleCiphers$Cipher") 2 hG hN gw_4_47 gw_4_28 gw_4_29 gw_4_45 gw_4_46 gw_0_4 nw_11 rfl rfl hd_Ci_schedule ⟨Nat.le_of_ble_eq_true rfl, Nat.le_of_ble_eq_true rfl⟩) (aw_qV (va_recv hK hP rfl he10) hP hD hSh hU hS) rfl rfl hl.1 rfl (lv_room (Nat.le_of_ble_eq_true rfl)) d_Cx_setKey_6 ⟨Nat.le_of_ble_eq_true rfl, Nat.le_of_ble_eq_true rfl⟩
    · have he11 := rd_C5 hSh hj
      exact va_runU (As := [.long a, .long b]) (rest := []) ⟨hx, hb, hml, hown, hG⟩ (k_Xt_schedule l D g ad G M F N0 j a b hj) (aw_wA (owner := "RuleCiphers$Cipher") 2 hG hN gw_5_20 gw_4_28 gw_4_29 gw_5_18 gw_5_19 gw_0_5 nw_11 rfl rfl hd_Ci_schedule ⟨Nat.le_of_ble_eq_true rfl, Nat.le_of_ble_eq_true rfl⟩) (aw_qV (va_recv hK hP rfl he11) hP hD hSh hU hS) rfl rfl hl.1 rfl (lv_room (Nat.le_of_ble_eq_true rfl)) d_Cx_setKey_6 ⟨Nat.le_of_ble_eq_true rfl, Nat.le_of_ble_eq_true rfl⟩
    · have he12 := rd_C7 hSh hj
      exact va_runU (As := [.long a, .long b]) (rest := []) ⟨hx, hb, hml, hown, hG⟩ (k_Sp_schedule l D g ad G M F N0 j a b hj) (aw_wA (owner := "RuleCiphers$Cipher") 2 hG hN gw_5_17 gw_4_28 gw_4_29 gw_5_15 gw_5_16 gw_0_6 nw_11 rfl rfl hd_Ci_schedule ⟨Nat.le_of_ble_eq_true rfl, Nat.le_of_ble_eq_true rfl⟩) (aw_qV (va_recv hK hP rfl he12) hP hD hSh hU hS) rfl rfl hl.1 rfl (lv_room (Nat.le_of_ble_eq_true rfl)) d_Cx_setKey_6 ⟨Nat.le_of_ble_eq_true rfl, Nat.le_of_ble_eq_true rfl⟩
    · have he13 := rd_C10 hSh hj
      exact va_runU (As := [.long a, .long b]) (rest := []) ⟨hx, hb, hml, hown, hG⟩ (k_Si_schedule l D g ad G M F N0 j a b hj) (aw_wA (owner := "RuleCiphers$Cipher") 2 hG hN gw_5_8 gw_4_28 gw_4_29 gw_5_6 gw_5_7 gw_0_7 nw_11 rfl rfl hd_Ci_schedule ⟨Nat.le_of_ble_eq_true rfl, Nat.le_of_ble_eq_true rfl⟩) (aw_qV (va_recv hK hP rfl he13) hP hD hSh hU hS) rfl rfl hl.1 rfl (lv_room (Nat.le_of_ble_eq_true rfl)) d_Cx_setKey_6 ⟨Nat.le_of_ble_eq_true rfl, Nat.le_of_ble_eq_true rfl⟩
    · have he14 := rd_C12 hSh hj
      exact va_runU (As := [.long a, .long b]) (rest := []) ⟨hx, hb, hml, hown, hG⟩ (k_Id_schedule l D g ad G M F N0 j a b hj) (aw_wA (owner := "RuleCiphers$Cipher") 2 hG hN gw_4_32 gw_4_28 gw_4_29 gw_4_30 gw_4_31 gw_0_8 nw_11 rfl rfl hd_Ci_schedule ⟨Nat.le_of_ble_eq_true rfl, Nat.le_of_ble_eq_true rfl⟩) (aw_qV (va_recv hK hP rfl he14) hP hD hSh hU hS) rfl rfl hl.1 rfl (lv_room (Nat.le_of_ble_eq_true rfl)) d_Cx_setKey_6 ⟨Nat.le_of_ble_eq_true rfl, Nat.le_of_ble_eq_true rfl⟩
  refine va_callv hrun9 hS (fun _ _ h => h) (fun _ h => h) (fun u8 t8 H locs ht _ _ hB _ _ hS => ?_)
  obtain ⟨L, hP, hD, hSh⟩ := hB
  rw [ht] at hP
  clear ht
  refine lv_aload_n hx hb d_Cx_setKey_9 rfl (lv_at hl 0 rfl) ?_
  refine lv_iconst (v := nI 2) hx hb d_Cx_setKey_10 (by decide +kernel) ?_
  obtain ⟨o16, y17, y18, y19, x20, x21, ho22, he15⟩ := rd_C0 hSh hj
  have hg := hSh.2.2.2.2.1 j hj
  refine aw_put (v := .int (nI 2)) (ty := .int) (C := R_Cx) (T := T_Cx) (N := 10) hx hb hG in_Cx t_Cx t_Cx_ok n_Cx hown hK hP hD hS (3 + 16 * j + 0) he15 rfl 2 (by decide) (hG _ gw_1_56) (fun _ h => h) rfl (by decide +kernel) rfl rfl (Nat.le_of_ble_eq_true rfl) d_Cx_setKey_11 (wr_C0s1 hSh hj 2 (by omega) o16 y17 y18 y19 x20 x21 ho22) (fun H locs L hP hD hSh hS => ?_)
  exact W.vret hx hb hr (fun t ht hW => ⟨⟨(), rfl, trivial, aw_Hr ht hP hD hSh⟩, hS.F ht⟩) hS.2.2 d_Cx_setKey_14
abbrev ws_Cx_setMode : List Cond := Cond.code y_Cx_setMode b_Cx_setMode 4 none :: aw_G
abbrev rm_Cx_setMode : Room := { frames := 1, cells := 0, slots := 0, locals := 20 }
set_option maxHeartbeats 4000000 in
set_option maxRecDepth 100000 in
theorem k_Cx_setMode (l : Launch) (D : va_G) (g : Nat → ClassId) (ad : Nat → Nat) (G M : Nat → Nat × Nat) (F : Int32) (N0 : Nat) (j : Nat) (k : Nat) (b : Int64) (hj : j < 4) (hk : k ≤ 5) : Met l y_Cx_setMode ws_Cx_setMode rm_Cx_setMode (va_Pc ([.ref (aw_c ad j 0), .int (nI k), .long b] : List Value) (aw_B D g ad G M F N0)) (va_Qv (fun (_ : Unit) => True) (fun (_ : Unit) t => aw_H D g ad (aw_g1 (aw_g2 G j k) j 3) M F N0 t.heap) (aw_Z N0)) 0 0 (aw_Z N0) := by
  refine Met.ofW (cc := b_Cx_setMode) (maxL := 4) (ret := none) (by decide) rfl ?_
  intro p e s m args below meth c s₁ B hml hv
  obtain ⟨rfl, ⟨L, hP, hD, hSh⟩, hU⟩ := hv
  have hx := B.exec
  have hb := B.bytes
  have hr := B.returns
  have hG : ∀ w ∈ aw_G, w.before _ s = true := fun w h => atoms_spec (ws := ws_Cx_setMode) B.pre w (List.mem_cons_of_mem _ h)
  have hown : s.vm.findClass "RuleCiphers$Context" = some m.cls := findClass_of_methodNamed B.named
  have hlocks := B.notSynchronized
  have hE := hU.1
  have hK := hE.1
  have hN := hE.2.1
  have hS : va_S (aw_Z N0) s.heap s.heap [] := va_S.rf
  have hl := lv_entry ([.ref (aw_c ad j 0), .int (nI k), .long b] : List Value) (n := 4) (Nat.le_of_ble_eq_true rfl)
  rw [lg_entry_eq]
  generalize (lg_sl ([.ref (aw_c ad j 0), .int (nI k), .long b] : List Value) ++ List.replicate (4 - (lg_sl ([.ref (aw_c ad j 0), .int (nI k), .long b] : List Value)).length) Slot.unset).toArray = ls at hl ⊢
  have hl : lv_has ls 4 [(0, .ref (aw_c ad j 0)), (1, .int (nI k)), (2, .long b)] := hl
  refine lv_aload_n hx hb d_Cx_setMode_0 rfl (lv_at hl 0 rfl) ?_
  refine lv_iload_n hx hb d_Cx_setMode_1 rfl (lv_at hl 1 rfl) ?_
  obtain ⟨o2, y3, y4, y5, x6, x7, ho8, he1⟩ := rd_C0 hSh hj
  have hg := hSh.2.2.2.2.1 j hj
  refine aw_put (v := .int (nI k)) (ty := .int) (C := R_Cx) (T := T_Cx) (N := 10) hx hb hG in_Cx t_Cx t_Cx_ok n_Cx hown hK hP hD hS (3 + 16 * j + 0) he1 rfl 3 (by decide) (hG _ gw_1_58) (fun _ h => h) rfl (by decide +kernel) rfl rfl (Nat.le_of_ble_eq_true rfl) d_Cx_setMode_2 (wr_C0s2 hSh hj k (by omega) o2 y3 y4 y5 x6 x7 ho8) (fun H locs L hP hD hSh hS => ?_)
  refine lv_aload_n hx hb d_Cx_setMode_5 rfl (lv_at hl 0 rfl) ?_
  refine lv_lload_n hx hb d_Cx_setMode_6 rfl (lv_at hl 2 rfl) ?_
  obtain ⟨o10, y11, y12, y13, x14, x15, ho16, he9⟩ := rd_C0 hSh hj
  have hg := hSh.2.2.2.2.1 j hj
  refine aw_put (v := .long b) (ty := .long) (C := R_Cx) (T := T_Cx) (N := 10) hx hb hG in_Cx t_Cx t_Cx_ok n_Cx hown hK hP hD hS (3 + 16 * j + 0) he9 rfl 5 (by decide) (hG _ gw_2_2) (fun _ h => h) rfl (by decide +kernel) rfl rfl (Nat.le_of_ble_eq_true rfl) d_Cx_setMode_7 (wr_C0 hSh hj o10 b y12 y13 x14 x15 ho16) (fun H locs L hP hD hSh hS => ?_)
  refine lv_aload_n hx hb d_Cx_setMode_10 rfl (lv_at hl 0 rfl) ?_
  refine lv_lload_n hx hb d_Cx_setMode_11 rfl (lv_at hl 2 rfl) ?_
  obtain ⟨o18, y19, y20, y21, x22, x23, ho24, he17⟩ := rd_C0 hSh hj
  have hg := hSh.2.2.2.2.1 j hj
  refine aw_put (v := .long b) (ty := .long) (C := R_Cx) (T := T_Cx) (N := 10) hx hb hG in_Cx t_Cx t_Cx_ok n_Cx hown hK hP hD hS (3 + 16 * j + 0) he17 rfl 6 (by decide) (hG _ gw_2_3) (fun _ h => h) rfl (by decide +kernel) rfl rfl (Nat.le_of_ble_eq_true rfl) d_Cx_setMode_12 (wr_C0 hSh hj o18 y19 b y21 x22 x23 ho24) (fun H locs L hP hD hSh hS => ?_)
  refine lv_aload_n hx hb d_Cx_setMode_15 rfl (lv_at hl 0 rfl) ?_
  refine lv_iconst (v := nI 0) hx hb d_Cx_setMode_16 (by decide +kernel) ?_
  obtain ⟨o26, y27, y28, y29, x30, x31, ho32, he25⟩ := rd_C0 hSh hj
  have hg := hSh.2.2.2.2.1 j hj
  refine aw_put (v := .int (nI 0)) (ty := .int) (C := R_Cx) (T := T_Cx) (N := 10) hx hb hG in_Cx t_Cx t_Cx_ok n_Cx hown hK hP hD hS (3 + 16 * j + 0) he25 rfl 8 (by decide) (hG _ gw_2_5) (fun _ h => h) rfl (by decide +kernel) rfl rfl (Nat.le_of_ble_eq_true rfl) d_Cx_setMode_17 (wr_C0 hSh hj o26 y27 y28 y29 (nI 0) x31 ho32) (fun H locs L hP hD hSh hS => ?_)
  refine lv_aload_n hx hb d_Cx_setMode_20 rfl (lv_at hl 0 rfl) ?_
  refine lv_iconst (v := nI 0) hx hb d_Cx_setMode_21 (by decide +kernel) ?_
  obtain ⟨o34, y35, y36, y37, x38, x39, ho40, he33⟩ := rd_C0 hSh hj
  have hg := hSh.2.2.2.2.1 j hj
  refine aw_put (v := .int (nI 0)) (ty := .int) (C := R_Cx) (T := T_Cx) (N := 10) hx hb hG in_Cx t_Cx t_Cx_ok n_Cx hown hK hP hD hS (3 + 16 * j + 0) he33 rfl 9 (by decide) (hG _ gw_2_6) (fun _ h => h) rfl (by decide +kernel) rfl rfl (Nat.le_of_ble_eq_true rfl) d_Cx_setMode_22 (wr_C0 hSh hj o34 y35 y36 y37 x38 (nI 0) ho40) (fun H locs L hP hD hSh hS => ?_)
  refine lv_aload_n hx hb d_Cx_setMode_25 rfl (lv_at hl 0 rfl) ?_
  obtain ⟨o42, y43, y44, y45, x46, x47, ho48, he41⟩ := rd_C0 hSh hj
  have hg := hSh.2.2.2.2.1 j hj
  refine va_get (C := R_Cx) (T := T_Cx) (N := 10) (v := .ref (aw_c ad j 15)) hx hb hG in_Cx hown hK hP (3 + 16 * j + 0) he41 rfl 1 (by decide) (hG _ gw_1_55) (fun _ h => h) rfl d_Cx_setMode_26 ?_
  obtain ⟨_, _, _, _, he49⟩ := rd_C15 hSh hj
  refine va_callv (va_runV (As := []) (rest := []) ⟨hx, hb, hml, hown, hG⟩ (k_Tk_clear l D g ad (aw_g2 G j k) M F N0 j hj) (aw_wV 0 hG gw_5_38 gw_5_35 gw_0_9 gw_5_36 gw_5_37 rfl rfl hd_Tk_clear ⟨Nat.le_of_ble_eq_true rfl, Nat.le_of_ble_eq_true rfl⟩) (aw_qV (va_recv hK hP rfl he49) hP hD hSh hU hS) rfl rfl hl.1 rfl (lv_room (Nat.le_of_ble_eq_true rfl)) d_Cx_setMode_29 ⟨Nat.le_of_ble_eq_true rfl, Nat.le_of_ble_eq_true rfl⟩) hS (fun _ _ h => h) (fun _ h => h) (fun u8 t8 H locs ht _ _ hB _ _ hS => ?_)
  obtain ⟨L, hP, hD, hSh⟩ := hB
  rw [ht] at hP
  clear ht
  refine lv_aload_n hx hb d_Cx_setMode_32 rfl (lv_at hl 0 rfl) ?_
  refine lv_iconst (v := nI 3) hx hb d_Cx_setMode_33 (by decide +kernel) ?_
  obtain ⟨o51, y52, y53, y54, x55, x56, ho57, he50⟩ := rd_C0 hSh hj
  have hg := hSh.2.2.2.2.1 j hj
  refine aw_put (v := .int (nI 3)) (ty := .int) (C := R_Cx) (T := T_Cx) (N := 10) hx hb hG in_Cx t_Cx t_Cx_ok n_Cx hown hK hP hD hS (3 + 16 * j + 0) he50 rfl 2 (by decide) (hG _ gw_1_56) (fun _ h => h) rfl (by decide +kernel) rfl rfl (Nat.le_of_ble_eq_true rfl) d_Cx_setMode_34 (wr_C0s1 hSh hj 3 (by omega) o51 y52 y53 y54 x55 x56 ho57) (fun H locs L hP hD hSh hS => ?_)
  exact W.vret hx hb hr (fun t ht hW => ⟨⟨(), rfl, trivial, aw_Hr ht hP hD hSh⟩, hS.F ht⟩) hS.2.2 d_Cx_setMode_37
abbrev ws_Cx_feedsWholeBlocks1 : List Cond := Cond.code y_Cx_feedsWholeBlocks b_Cx_feedsWholeBlocks 1 (some .boolean) :: aw_G
abbrev rm_Cx_feedsWholeBlocks1 : Room := { frames := 0, cells := 0, slots := 0, locals := 0 }
set_option maxHeartbeats 4000000 in
set_option maxRecDepth 100000 in
theorem k_Cx_feedsWholeBlocks1 (l : Launch) (D : va_G) (g : Nat → ClassId) (ad : Nat → Nat) (G M : Nat → Nat × Nat) (F : Int32) (N0 : Nat) (j : Nat) (hj : j < 4) (hm : (G j).2 ≤ 1) : Met l y_Cx_feedsWholeBlocks ws_Cx_feedsWholeBlocks1 rm_Cx_feedsWholeBlocks1 (va_Pc ([.ref (aw_c ad j 0)] : List Value) (aw_B D g ad G M F N0)) (va_Qi (fun r (_ : Unit) => r = nI 1) (fun (_ : Unit) t => aw_H D g ad G M F N0 t.heap) (aw_Z N0)) 0 0 (aw_Z N0) := by
  refine Met.ofW (cc := b_Cx_feedsWholeBlocks) (maxL := 1) (ret := (some .boolean)) (by decide) rfl ?_
  intro p e s m args below meth c s₁ B hml hv
  obtain ⟨rfl, ⟨L, hP, hD, hSh⟩, hU⟩ := hv
  have hx := B.exec
  have hb := B.bytes
  have hr := B.returns
  have hG : ∀ w ∈ aw_G, w.before _ s = true := fun w h => atoms_spec (ws := ws_Cx_feedsWholeBlocks1) B.pre w (List.mem_cons_of_mem _ h)
  have hown : s.vm.findClass "RuleCiphers$Context" = some m.cls := findClass_of_methodNamed B.named
  have hlocks := B.notSynchronized
  have hE := hU.1
  have hK := hE.1
  have hN := hE.2.1
  have hS : va_S (aw_Z N0) s.heap s.heap [] := va_S.rf
  have hl := lv_entry ([.ref (aw_c ad j 0)] : List Value) (n := 1) (Nat.le_of_ble_eq_true rfl)
  rw [lg_entry_eq]
  generalize (lg_sl ([.ref (aw_c ad j 0)] : List Value) ++ List.replicate (1 - (lg_sl ([.ref (aw_c ad j 0)] : List Value)).length) Slot.unset).toArray = ls at hl ⊢
  have hl : lv_has ls 1 [(0, .ref (aw_c ad j 0))] := hl
  refine lv_aload_n hx hb d_Cx_feedsWholeBlocks_0 rfl (lv_at hl 0 rfl) ?_
  obtain ⟨o2, y3, y4, y5, x6, x7, ho8, he1⟩ := rd_C0 hSh hj
  have hg := hSh.2.2.2.2.1 j hj
  refine va_get (C := R_Cx) (T := T_Cx) (N := 10) (v := .int (nI ((G j).2))) hx hb hG in_Cx hown hK hP (3 + 16 * j + 0) he1 rfl 3 (by decide) (hG _ gw_1_58) (fun _ h => h) rfl d_Cx_feedsWholeBlocks_1 ?_
  refine lv_if_eq (tgt := 15) hx hb d_Cx_feedsWholeBlocks_4 (by decide) (fun hb9 => ?_) (fun hb9 => ?_)
  · have hb9 : (G j).2 = 0 := (nI_eq (by omega) (by omega)).mp (show nI ((G j).2) = nI 0 from hb9)
    refine lv_iconst (v := nI 1) hx hb d_Cx_feedsWholeBlocks_15 (by decide +kernel) ?_
    refine lv_goto (tgt := 20) hx hb d_Cx_feedsWholeBlocks_16 (by decide) ?_
    exact W.zret hx hb hr (by decide +kernel) (fun t ht hW => ⟨⟨_, (), rfl, rfl, aw_Hr ht hP hD hSh⟩, hS.F ht⟩) hS.2.2 d_Cx_feedsWholeBlocks_20
  · have hb9 : ¬ (G j).2 = 0 := fun z => absurd ((nI_eq (by omega) (by omega)).mpr z) (show ¬ nI ((G j).2) = nI 0 from hb9)
    refine lv_aload_n hx hb d_Cx_feedsWholeBlocks_7 rfl (lv_at hl 0 rfl) ?_
    obtain ⟨o11, y12, y13, y14, x15, x16, ho17, he10⟩ := rd_C0 hSh hj
    have hg := hSh.2.2.2.2.1 j hj
    refine va_get (C := R_Cx) (T := T_Cx) (N := 10) (v := .int (nI ((G j).2))) hx hb hG in_Cx hown hK hP (3 + 16 * j + 0) he10 rfl 3 (by decide) (hG _ gw_1_58) (fun _ h => h) rfl d_Cx_feedsWholeBlocks_8 ?_
    refine lv_iconst (v := nI 1) hx hb d_Cx_feedsWholeBlocks_11 (by decide +kernel) ?_
    refine lv_icmp_ne (tgt := 19) hx hb d_Cx_feedsWholeBlocks_12 (by decide) (fun h => absurd (show nI ((G j).2) = nI 1 from (nI_eq (by omega) (by omega)).mpr (by omega)) h) (fun _ => ?_)
    refine lv_iconst (v := nI 1) hx hb d_Cx_feedsWholeBlocks_15 (by decide +kernel) ?_
    refine lv_goto (tgt := 20) hx hb d_Cx_feedsWholeBlocks_16 (by decide) ?_
    exact W.zret hx hb hr (by decide +kernel) (fun t ht hW => ⟨⟨_, (), rfl, rfl, aw_Hr ht hP hD hSh⟩, hS.F ht⟩) hS.2.2 d_Cx_feedsWholeBlocks_20
abbrev ws_Cx_feedsWholeBlocks0 : List Cond := Cond.code y_Cx_feedsWholeBlocks b_Cx_feedsWholeBlocks 1 (some .boolean) :: aw_G
abbrev rm_Cx_feedsWholeBlocks0 : Room := { frames := 0, cells := 0, slots := 0, locals := 0 }
set_option maxHeartbeats 4000000 in
set_option maxRecDepth 100000 in
theorem k_Cx_feedsWholeBlocks0 (l : Launch) (D : va_G) (g : Nat → ClassId) (ad : Nat → Nat) (G M : Nat → Nat × Nat) (F : Int32) (N0 : Nat) (j : Nat) (hj : j < 4) (hm : 2 ≤ (G j).2) : Met l y_Cx_feedsWholeBlocks ws_Cx_feedsWholeBlocks0 rm_Cx_feedsWholeBlocks0 (va_Pc ([.ref (aw_c ad j 0)] : List Value) (aw_B D g ad G M F N0)) (va_Qi (fun r (_ : Unit) => r = nI 0) (fun (_ : Unit) t => aw_H D g ad G M F N0 t.heap) (aw_Z N0)) 0 0 (aw_Z N0) := by
  refine Met.ofW (cc := b_Cx_feedsWholeBlocks) (maxL := 1) (ret := (some .boolean)) (by decide) rfl ?_
  intro p e s m args below meth c s₁ B hml hv
  obtain ⟨rfl, ⟨L, hP, hD, hSh⟩, hU⟩ := hv
  have hx := B.exec
  have hb := B.bytes
  have hr := B.returns
  have hG : ∀ w ∈ aw_G, w.before _ s = true := fun w h => atoms_spec (ws := ws_Cx_feedsWholeBlocks0) B.pre w (List.mem_cons_of_mem _ h)
  have hown : s.vm.findClass "RuleCiphers$Context" = some m.cls := findClass_of_methodNamed B.named
  have hlocks := B.notSynchronized
  have hE := hU.1
  have hK := hE.1
  have hN := hE.2.1
  have hS : va_S (aw_Z N0) s.heap s.heap [] := va_S.rf
  have hl := lv_entry ([.ref (aw_c ad j 0)] : List Value) (n := 1) (Nat.le_of_ble_eq_true rfl)
  rw [lg_entry_eq]
  generalize (lg_sl ([.ref (aw_c ad j 0)] : List Value) ++ List.replicate (1 - (lg_sl ([.ref (aw_c ad j 0)] : List Value)).length) Slot.unset).toArray = ls at hl ⊢
  have hl : lv_has ls 1 [(0, .ref (aw_c ad j 0))] := hl
  refine lv_aload_n hx hb d_Cx_feedsWholeBlocks_0 rfl (lv_at hl 0 rfl) ?_
  obtain ⟨o2, y3, y4, y5, x6, x7, ho8, he1⟩ := rd_C0 hSh hj
  have hg := hSh.2.2.2.2.1 j hj
  refine va_get (C := R_Cx) (T := T_Cx) (N := 10) (v := .int (nI ((G j).2))) hx hb hG in_Cx hown hK hP (3 + 16 * j + 0) he1 rfl 3 (by decide) (hG _ gw_1_58) (fun _ h => h) rfl d_Cx_feedsWholeBlocks_1 ?_
  refine lv_if_eq (tgt := 15) hx hb d_Cx_feedsWholeBlocks_4 (by decide) (fun h => absurd h (show ¬ nI ((G j).2) = nI 0 from fun h9 => absurd ((nI_eq (by omega) (by omega)).mp h9) (by omega))) (fun _ => ?_)
  refine lv_aload_n hx hb d_Cx_feedsWholeBlocks_7 rfl (lv_at hl 0 rfl) ?_
  obtain ⟨o10, y11, y12, y13, x14, x15, ho16, he9⟩ := rd_C0 hSh hj
  have hg := hSh.2.2.2.2.1 j hj
  refine va_get (C := R_Cx) (T := T_Cx) (N := 10) (v := .int (nI ((G j).2))) hx hb hG in_Cx hown hK hP (3 + 16 * j + 0) he9 rfl 3 (by decide) (hG _ gw_1_58) (fun _ h => h) rfl d_Cx_feedsWholeBlocks_8 ?_
  refine lv_iconst (v := nI 1) hx hb d_Cx_feedsWholeBlocks_11 (by decide +kernel) ?_
  refine lv_icmp_ne (tgt := 19) hx hb d_Cx_feedsWholeBlocks_12 (by decide) (fun _ => ?_) (fun h => absurd h (show ¬ nI ((G j).2) = nI 1 from fun h9 => absurd ((nI_eq (by omega) (by omega)).mp h9) (by omega)))
  refine lv_iconst (v := nI 0) hx hb d_Cx_feedsWholeBlocks_19 (by decide +kernel) ?_
  exact W.zret hx hb hr (by decide +kernel) (fun t ht hW => ⟨⟨_, (), rfl, rfl, aw_Hr ht hP hD hSh⟩, hS.F ht⟩) hS.2.2 d_Cx_feedsWholeBlocks_20
abbrev ws_Cx_chained : List Cond := Cond.code y_Cx_chained b_Cx_chained 6 (some .long) :: aw_G
abbrev rm_Cx_chained : Room := { frames := 3, cells := 0, slots := 0, locals := 79 }
set_option maxHeartbeats 4000000 in
set_option maxRecDepth 100000 in
theorem k_Cx_chained (l : Launch) (D : va_G) (g : Nat → ClassId) (ad : Nat → Nat) (G M : Nat → Nat × Nat) (F : Int32) (N0 : Nat) (j : Nat) (bk : Int32) (b : Int64) (hj : j < 4) : Met l y_Cx_chained ws_Cx_chained rm_Cx_chained (va_Pc ([.ref (aw_c ad j 0), .int bk, .long b] : List Value) (aw_B D g ad G M F N0)) (va_Ql (fun r (_ : Unit) => True) (fun (_ : Unit) t => aw_H D g ad G M F N0 t.heap) (aw_Z N0)) 0 0 (aw_Z N0) := by
  refine Met.ofW (cc := b_Cx_chained) (maxL := 6) (ret := (some .long)) (by decide) rfl ?_
  intro p e s m args below meth c s₁ B hml hv
  obtain ⟨rfl, ⟨L, hP, hD, hSh⟩, hU⟩ := hv
  have hx := B.exec
  have hb := B.bytes
  have hr := B.returns
  have hG : ∀ w ∈ aw_G, w.before _ s = true := fun w h => atoms_spec (ws := ws_Cx_chained) B.pre w (List.mem_cons_of_mem _ h)
  have hown : s.vm.findClass "RuleCiphers$Context" = some m.cls := findClass_of_methodNamed B.named
  have hlocks := B.notSynchronized
  have hE := hU.1
  have hK := hE.1
  have hN := hE.2.1
  have hS : va_S (aw_Z N0) s.heap s.heap [] := va_S.rf
  have hl := lv_entry ([.ref (aw_c ad j 0), .int bk, .long b] : List Value) (n := 6) (Nat.le_of_ble_eq_true rfl)
  rw [lg_entry_eq]
  generalize (lg_sl ([.ref (aw_c ad j 0), .int bk, .long b] : List Value) ++ List.replicate (6 - (lg_sl ([.ref (aw_c ad j 0), .int bk, .long b] : List Value)).length) Slot.unset).toArray = ls at hl ⊢
  have hl : lv_has ls 6 [(0, .ref (aw_c ad j 0)), (1, .int bk), (2, .long b)] := hl
  refine lv_iload_n hx hb d_Cx_chained_0 rfl (lv_at hl 1 rfl) ?_
  refine lv_if_eq (tgt := 27) hx hb d_Cx_chained_1 (by decide) (fun hb1 => ?_) (fun hb1 => ?_)
  · refine lv_aload_n hx hb d_Cx_chained_27 rfl (lv_at hl 0 rfl) ?_
    refine lv_aload_n hx hb d_Cx_chained_28 rfl (lv_at hl 0 rfl) ?_
    obtain ⟨o3, y4, y5, y6, x7, x8, ho9, he2⟩ := rd_C0 hSh hj
    have hg := hSh.2.2.2.2.1 j hj
    refine va_get (C := R_Cx) (T := T_Cx) (N := 10) (v := .ref (aw_c ad j o3)) hx hb hG in_Cx hown hK hP (3 + 16 * j + 0) he2 rfl 4 (by decide) (hG _ gw_2_0) (fun _ h => h) rfl d_Cx_chained_29 ?_
    refine lv_lload_n hx hb d_Cx_chained_32 rfl (lv_at hl 2 rfl) ?_
    refine lv_aload_n hx hb d_Cx_chained_33 rfl (lv_at hl 0 rfl) ?_
    obtain ⟨o11, y12, y13, y14, x15, x16, ho17, he10⟩ := rd_C0 hSh hj
    have hg := hSh.2.2.2.2.1 j hj
    refine va_get (C := R_Cx) (T := T_Cx) (N := 10) (v := .long y13) hx hb hG in_Cx hown hK hP (3 + 16 * j + 0) he10 rfl 6 (by decide) (hG _ gw_2_3) (fun _ h => h) rfl d_Cx_chained_34 ?_
    refine lv_lxor hx hb d_Cx_chained_37 ?_
    refine lv_topl (fun y18 _ => ?_)
    have hrun19 : va_Run p l e (headSpec ws_Cx_chained rm_Cx_chained).room s m ([.ref (aw_c ad j 0), .int bk, .long b] : List Value).toArray below meth c s.heap [] 0 0 0 0 (F0 m 38 ls [.long y18, .ref (aw_c ad j o3), .ref (aw_c ad j 0)]) [.ref (aw_c ad j 0)] (va_Ql (fun r (_ : Unit) => True) (fun (_ : Unit) t => aw_H D g ad G M F N0 t.heap) (aw_Z N0) ([.ref (aw_c ad j o3), .long y18] : List Value).toArray) (aw_Z N0) := by
      rcases ho9 with rfl | rfl | rfl | rfl | rfl
      · have he20 := rd_C2 hSh hj
        exact va_runU (As := [.long y18]) (rest := [.ref (aw_c ad j 0)]) ⟨hx, hb, hml, hown, hG⟩ (k_Rc_on l D g ad G M F N0 j y18 hj) (aw_wA (owner := "RuleCiphers$Cipher") 1 hG hN gw_6_57 gw_8_14 gw_6_51 gw_6_55 gw_6_56 gw_0_4 nw_36 rfl rfl hd_Ci_on ⟨Nat.le_of_ble_eq_true rfl, Nat.le_of_ble_eq_true rfl⟩) (aw_qV (va_recv hK hP rfl he20) hP hD hSh hU hS) rfl rfl hl.1 rfl (lv_room (Nat.le_of_ble_eq_true rfl)) d_Cx_chained_38 ⟨Nat.le_of_ble_eq_true rfl, Nat.le_of_ble_eq_true rfl⟩
      · have he21 := rd_C5 hSh hj
        exact va_runU (As := [.long y18]) (rest := [.ref (aw_c ad j 0)]) ⟨hx, hb, hml, hown, hG⟩ (k_Xt_on l D g ad G M F N0 j y18 hj) (aw_wA (owner := "RuleCiphers$Cipher") 1 hG hN gw_7_6 gw_8_14 gw_6_51 gw_7_4 gw_7_5 gw_0_5 nw_36 rfl rfl hd_Ci_on ⟨Nat.le_of_ble_eq_true rfl, Nat.le_of_ble_eq_true rfl⟩) (aw_qV (va_recv hK hP rfl he21) hP hD hSh hU hS) rfl rfl hl.1 rfl (lv_room (Nat.le_of_ble_eq_true rfl)) d_Cx_chained_38 ⟨Nat.le_of_ble_eq_true rfl, Nat.le_of_ble_eq_true rfl⟩
      · have he22 := rd_C7 hSh hj
        exact va_runU (As := [.long y18]) (rest := [.ref (aw_c ad j 0)]) ⟨hx, hb, hml, hown, hG⟩ (k_Sp_on l D g ad G M F N0 j y18 hj) (aw_wA (owner := "RuleCiphers$Cipher") 1 hG hN gw_7_3 gw_8_14 gw_6_51 gw_7_1 gw_7_2 gw_0_6 nw_36 rfl rfl hd_Ci_on ⟨Nat.le_of_ble_eq_true rfl, Nat.le_of_ble_eq_true rfl⟩) (aw_qV (va_recv hK hP rfl he22) hP hD hSh hU hS) rfl rfl hl.1 rfl (lv_room (Nat.le_of_ble_eq_true rfl)) d_Cx_chained_38 ⟨Nat.le_of_ble_eq_true rfl, Nat.le_of_ble_eq_true rfl⟩
      · have he23 := rd_C10 hSh hj
        exact va_runU (As := [.long y18]) (rest := [.ref (aw_c ad j 0)]) ⟨hx, hb, hml, hown, hG⟩ (k_Si_on l D g ad G M F N0 j y18 hj) (aw_wA (owner := "RuleCiphers$Cipher") 1 hG hN gw_7_0 gw_8_14 gw_6_51 gw_6_58 gw_6_59 gw_0_7 nw_36 rfl rfl hd_Ci_on ⟨Nat.le_of_ble_eq_true rfl, Nat.le_of_ble_eq_true rfl⟩) (aw_qV (va_recv hK hP rfl he23) hP hD hSh hU hS) rfl rfl hl.1 rfl (lv_room (Nat.le_of_ble_eq_true rfl)) d_Cx_chained_38 ⟨Nat.le_of_ble_eq_true rfl, Nat.le_of_ble_eq_true rfl⟩
      · have he24 := rd_C12 hSh hj
        exact va_runU (As := [.long y18]) (rest := [.ref (aw_c ad j 0)]) ⟨hx, hb, hml, hown, hG⟩ (k_Id_on l D g ad G M F N0 j y18 hj) (aw_wA (owner := "RuleCiphers$Cipher") 1 hG hN gw_6_54 gw_8_14 gw_6_51 gw_6_52 gw_6_53 gw_0_8 nw_36 rfl rfl hd_Ci_on ⟨Nat.le_of_ble_eq_true rfl, Nat.le_of_ble_eq_true rfl⟩) (aw_qV (va_recv hK hP rfl he24) hP hD hSh hU hS) rfl rfl hl.1 rfl (lv_room (Nat.le_of_ble_eq_true rfl)) d_Cx_chained_38 ⟨Nat.le_of_ble_eq_true rfl, Nat.le_of_ble_eq_true rfl⟩
    refine va_calll hrun19 hS (fun _ _ h => h) (fun _ h => h) (fun y25 u8 t8 H locs ht _ _ hB _ _ hS => ?_)
    obtain ⟨L, hP, hD, hSh⟩ := hB
    rw [ht] at hP
    clear ht
    obtain ⟨o27, y28, y29, y30, x31, x32, ho33, he26⟩ := rd_C0 hSh hj
    have hg := hSh.2.2.2.2.1 j hj
    refine aw_put (v := .long y25) (ty := .long) (C := R_Cx) (T := T_Cx) (N := 10) hx hb hG in_Cx t_Cx t_Cx_ok n_Cx hown hK hP hD hS (3 + 16 * j + 0) he26 rfl 6 (by decide) (hG _ gw_2_3) (fun _ h => h) rfl (by decide +kernel) rfl rfl (Nat.le_of_ble_eq_true rfl) d_Cx_chained_41 (wr_C0 hSh hj o27 y28 y25 y30 x31 x32 ho33) (fun H locs L hP hD hSh hS => ?_)
    refine lv_aload_n hx hb d_Cx_chained_44 rfl (lv_at hl 0 rfl) ?_
    obtain ⟨o35, y36, y37, y38, x39, x40, ho41, he34⟩ := rd_C0 hSh hj
    have hg := hSh.2.2.2.2.1 j hj
    refine va_get (C := R_Cx) (T := T_Cx) (N := 10) (v := .long y37) hx hb hG in_Cx hown hK hP (3 + 16 * j + 0) he34 rfl 6 (by decide) (hG _ gw_2_3) (fun _ h => h) rfl d_Cx_chained_45 ?_
    exact W.lret hx hb hr (fun t ht hW => ⟨⟨_, (), rfl, trivial, aw_Hr ht hP hD hSh⟩, hS.F ht⟩) hS.2.2 d_Cx_chained_48
  · refine lv_aload_n hx hb d_Cx_chained_4 rfl (lv_at hl 0 rfl) ?_
    obtain ⟨o43, y44, y45, y46, x47, x48, ho49, he42⟩ := rd_C0 hSh hj
    have hg := hSh.2.2.2.2.1 j hj
    refine va_get (C := R_Cx) (T := T_Cx) (N := 10) (v := .ref (aw_c ad j o43)) hx hb hG in_Cx hown hK hP (3 + 16 * j + 0) he42 rfl 4 (by decide) (hG _ gw_2_0) (fun _ h => h) rfl d_Cx_chained_5 ?_
    refine lv_lload_n hx hb d_Cx_chained_8 rfl (lv_at hl 2 rfl) ?_
    have hrun50 : va_Run p l e (headSpec ws_Cx_chained rm_Cx_chained).room s m ([.ref (aw_c ad j 0), .int bk, .long b] : List Value).toArray below meth c s.heap [] 0 0 0 0 (F0 m 9 ls [.long b, .ref (aw_c ad j o43)]) [] (va_Ql (fun r (_ : Unit) => True) (fun (_ : Unit) t => aw_H D g ad G M F N0 t.heap) (aw_Z N0) ([.ref (aw_c ad j o43), .long b] : List Value).toArray) (aw_Z N0) := by
      rcases ho49 with rfl | rfl | rfl | rfl | rfl
      · have he51 := rd_C2 hSh hj
        exact va_runU (As := [.long b]) (rest := []) ⟨hx, hb, hml, hown, hG⟩ (k_Rc_back l D g ad G M F N0 j b hj) (aw_wA (owner := "RuleCiphers$Cipher") 1 hG hN gw_6_29 gw_8_13 gw_6_10 gw_6_27 gw_6_28 gw_0_4 nw_21 rfl rfl hd_Ci_back ⟨Nat.le_of_ble_eq_true rfl, Nat.le_of_ble_eq_true rfl⟩) (aw_qV (va_recv hK hP rfl he51) hP hD hSh hU hS) rfl rfl hl.1 rfl (lv_room (Nat.le_of_ble_eq_true rfl)) d_Cx_chained_9 ⟨Nat.le_of_ble_eq_true rfl, Nat.le_of_ble_eq_true rfl⟩
      · have he52 := rd_C5 hSh hj
        exact va_runU (As := [.long b]) (rest := []) ⟨hx, hb, hml, hown, hG⟩ (k_Xt_back l D g ad G M F N0 j b hj) (aw_wA (owner := "RuleCiphers$Cipher") 1 hG hN gw_6_44 gw_8_13 gw_6_10 gw_6_42 gw_6_43 gw_0_5 nw_21 rfl rfl hd_Ci_back ⟨Nat.le_of_ble_eq_true rfl, Nat.le_of_ble_eq_true rfl⟩) (aw_qV (va_recv hK hP rfl he52) hP hD hSh hU hS) rfl rfl hl.1 rfl (lv_room (Nat.le_of_ble_eq_true rfl)) d_Cx_chained_9 ⟨Nat.le_of_ble_eq_true rfl, Nat.le_of_ble_eq_true rfl⟩
      · have he53 := rd_C7 hSh hj
        exact va_runU (As := [.long b]) (rest := []) ⟨hx, hb, hml, hown, hG⟩ (k_Sp_back l D g ad G M F N0 j b hj) (aw_wA (owner := "RuleCiphers$Cipher") 1 hG hN gw_6_41 gw_8_13 gw_6_10 gw_6_39 gw_6_40 gw_0_6 nw_21 rfl rfl hd_Ci_back ⟨Nat.le_of_ble_eq_true rfl, Nat.le_of_ble_eq_true rfl⟩) (aw_qV (va_recv hK hP rfl he53) hP hD hSh hU hS) rfl rfl hl.1 rfl (lv_room (Nat.le_of_ble_eq_true rfl)) d_Cx_chained_9 ⟨Nat.le_of_ble_eq_true rfl, Nat.le_of_ble_eq_true rfl⟩
      · have he54 := rd_C10 hSh hj
        exact va_runU (As := [.long b]) (rest := []) ⟨hx, hb, hml, hown, hG⟩ (k_Si_back l D g ad G M F N0 j b hj) (aw_wA (owner := "RuleCiphers$Cipher") 1 hG hN gw_6_35 gw_8_13 gw_6_10 gw_6_33 gw_6_34 gw_0_7 nw_21 rfl rfl hd_Ci_back ⟨Nat.le_of_ble_eq_true rfl, Nat.le_of_ble_eq_true rfl⟩) (aw_qV (va_recv hK hP rfl he54) hP hD hSh hU hS) rfl rfl hl.1 rfl (lv_room (Nat.le_of_ble_eq_true rfl)) d_Cx_chained_9 ⟨Nat.le_of_ble_eq_true rfl, Nat.le_of_ble_eq_true rfl⟩
      · have he55 := rd_C12 hSh hj
        exact va_runU (As := [.long b]) (rest := []) ⟨hx, hb, hml, hown, hG⟩ (k_Id_back l D g ad G M F N0 j b hj) (aw_wA (owner := "RuleCiphers$Cipher") 1 hG hN gw_6_13 gw_8_13 gw_6_10 gw_6_11 gw_6_12 gw_0_8 nw_21 rfl rfl hd_Ci_back ⟨Nat.le_of_ble_eq_true rfl, Nat.le_of_ble_eq_true rfl⟩) (aw_qV (va_recv hK hP rfl he55) hP hD hSh hU hS) rfl rfl hl.1 rfl (lv_room (Nat.le_of_ble_eq_true rfl)) d_Cx_chained_9 ⟨Nat.le_of_ble_eq_true rfl, Nat.le_of_ble_eq_true rfl⟩
    refine va_calll hrun50 hS (fun _ _ h => h) (fun _ h => h) (fun y56 u8 t8 H locs ht _ _ hB _ _ hS => ?_)
    obtain ⟨L, hP, hD, hSh⟩ := hB
    rw [ht] at hP
    clear ht
    refine lv_aload_n hx hb d_Cx_chained_12 rfl (lv_at hl 0 rfl) ?_
    obtain ⟨o58, y59, y60, y61, x62, x63, ho64, he57⟩ := rd_C0 hSh hj
    have hg := hSh.2.2.2.2.1 j hj
    refine va_get (C := R_Cx) (T := T_Cx) (N := 10) (v := .long y60) hx hb hG in_Cx hown hK hP (3 + 16 * j + 0) he57 rfl 6 (by decide) (hG _ gw_2_3) (fun _ h => h) rfl d_Cx_chained_13 ?_
    refine lv_lxor hx hb d_Cx_chained_16 ?_
    refine lv_topl (fun y65 _ => ?_)
    refine lv_lstore hx hb d_Cx_chained_17 hl (by decide) rfl (fun ls hl => ?_)
    have hl : lv_has ls 6 [(4, .long y65), (0, .ref (aw_c ad j 0)), (1, .int bk), (2, .long b)] := hl
    refine lv_aload_n hx hb d_Cx_chained_19 rfl (lv_at hl 1 rfl) ?_
    refine lv_lload_n hx hb d_Cx_chained_20 rfl (lv_at hl 3 rfl) ?_
    obtain ⟨o67, y68, y69, y70, x71, x72, ho73, he66⟩ := rd_C0 hSh hj
    have hg := hSh.2.2.2.2.1 j hj
    refine aw_put (v := .long b) (ty := .long) (C := R_Cx) (T := T_Cx) (N := 10) hx hb hG in_Cx t_Cx t_Cx_ok n_Cx hown hK hP hD hS (3 + 16 * j + 0) he66 rfl 6 (by decide) (hG _ gw_2_3) (fun _ h => h) rfl (by decide +kernel) rfl rfl (Nat.le_of_ble_eq_true rfl) d_Cx_chained_21 (wr_C0 hSh hj o67 y68 b y70 x71 x72 ho73) (fun H locs L hP hD hSh hS => ?_)
    refine lv_lload hx hb d_Cx_chained_24 (lv_at hl 0 rfl) ?_
    exact W.lret hx hb hr (fun t ht hW => ⟨⟨_, (), rfl, trivial, aw_Hr ht hP hD hSh⟩, hS.F ht⟩) hS.2.2 d_Cx_chained_26
abbrev ws_Cx_fedBehind : List Cond := Cond.code y_Cx_fedBehind b_Cx_fedBehind 4 (some .int) :: aw_G
abbrev rm_Cx_fedBehind : Room := { frames := 3, cells := 0, slots := 0, locals := 79 }
set_option maxHeartbeats 4000000 in
set_option maxRecDepth 100000 in
theorem k_Cx_fedBehind (l : Launch) (D : va_G) (g : Nat → ClassId) (ad : Nat → Nat) (G M : Nat → Nat × Nat) (F : Int32) (N0 : Nat) (j : Nat) (bk : Int32) (b : Int32) (hj : j < 4) : Met l y_Cx_fedBehind ws_Cx_fedBehind rm_Cx_fedBehind (va_Pc ([.ref (aw_c ad j 0), .int bk, .int b] : List Value) (aw_B D g ad G M F N0)) (va_Qi (fun r (_ : Unit) => True) (fun (_ : Unit) t => aw_H D g ad G M F N0 t.heap) (aw_Z N0)) 0 0 (aw_Z N0) := by
  refine Met.ofW (cc := b_Cx_fedBehind) (maxL := 4) (ret := (some .int)) (by decide) rfl ?_
  intro p e s m args below meth c s₁ B hml hv
  obtain ⟨rfl, ⟨L, hP, hD, hSh⟩, hU⟩ := hv
  have hx := B.exec
  have hb := B.bytes
  have hr := B.returns
  have hG : ∀ w ∈ aw_G, w.before _ s = true := fun w h => atoms_spec (ws := ws_Cx_fedBehind) B.pre w (List.mem_cons_of_mem _ h)
  have hown : s.vm.findClass "RuleCiphers$Context" = some m.cls := findClass_of_methodNamed B.named
  have hlocks := B.notSynchronized
  have hE := hU.1
  have hK := hE.1
  have hN := hE.2.1
  have hS : va_S (aw_Z N0) s.heap s.heap [] := va_S.rf
  have hl := lv_entry ([.ref (aw_c ad j 0), .int bk, .int b] : List Value) (n := 4) (Nat.le_of_ble_eq_true rfl)
  rw [lg_entry_eq]
  generalize (lg_sl ([.ref (aw_c ad j 0), .int bk, .int b] : List Value) ++ List.replicate (4 - (lg_sl ([.ref (aw_c ad j 0), .int bk, .int b] : List Value)).length) Slot.unset).toArray = ls at hl ⊢
  have hl : lv_has ls 4 [(0, .ref (aw_c ad j 0)), (1, .int bk), (2, .int b)] := hl
  refine lv_iload_n hx hb d_Cx_fedBehind_0 rfl (lv_at hl 2 rfl) ?_
  refine lv_aload_n hx hb d_Cx_fedBehind_1 rfl (lv_at hl 0 rfl) ?_
  obtain ⟨o2, y3, y4, y5, x6, x7, ho8, he1⟩ := rd_C0 hSh hj
  have hg := hSh.2.2.2.2.1 j hj
  refine va_get (C := R_Cx) (T := T_Cx) (N := 10) (v := .ref (aw_c ad j o2)) hx hb hG in_Cx hown hK hP (3 + 16 * j + 0) he1 rfl 4 (by decide) (hG _ gw_2_0) (fun _ h => h) rfl d_Cx_fedBehind_2 ?_
  refine lv_aload_n hx hb d_Cx_fedBehind_5 rfl (lv_at hl 0 rfl) ?_
  obtain ⟨o10, y11, y12, y13, x14, x15, ho16, he9⟩ := rd_C0 hSh hj
  have hg := hSh.2.2.2.2.1 j hj
  refine va_get (C := R_Cx) (T := T_Cx) (N := 10) (v := .long y12) hx hb hG in_Cx hown hK hP (3 + 16 * j + 0) he9 rfl 6 (by decide) (hG _ gw_2_3) (fun _ h => h) rfl d_Cx_fedBehind_6 ?_
  have hrun17 : va_Run p l e (headSpec ws_Cx_fedBehind rm_Cx_fedBehind).room s m ([.ref (aw_c ad j 0), .int bk, .int b] : List Value).toArray below meth c s.heap [] 0 0 0 0 (F0 m 9 ls [.long y12, .ref (aw_c ad j o2), .int b]) [.int b] (va_Ql (fun r (_ : Unit) => True) (fun (_ : Unit) t => aw_H D g ad G M F N0 t.heap) (aw_Z N0) ([.ref (aw_c ad j o2), .long y12] : List Value).toArray) (aw_Z N0) := by
    rcases ho8 with rfl | rfl | rfl | rfl | rfl
    · have he18 := rd_C2 hSh hj
      exact va_runU (As := [.long y12]) (rest := [.int b]) ⟨hx, hb, hml, hown, hG⟩ (k_Rc_on l D g ad G M F N0 j y12 hj) (aw_wA (owner := "RuleCiphers$Cipher") 1 hG hN gw_6_57 gw_8_14 gw_6_51 gw_6_55 gw_6_56 gw_0_4 nw_36 rfl rfl hd_Ci_on ⟨Nat.le_of_ble_eq_true rfl, Nat.le_of_ble_eq_true rfl⟩) (aw_qV (va_recv hK hP rfl he18) hP hD hSh hU hS) rfl rfl hl.1 rfl (lv_room (Nat.le_of_ble_eq_true rfl)) d_Cx_fedBehind_9 ⟨Nat.le_of_ble_eq_true rfl, Nat.le_of_ble_eq_true rfl⟩
    · have he19 := rd_C5 hSh hj
      exact va_runU (As := [.long y12]) (rest := [.int b]) ⟨hx, hb, hml, hown, hG⟩ (k_Xt_on l D g ad G M F N0 j y12 hj) (aw_wA (owner := "RuleCiphers$Cipher") 1 hG hN gw_7_6 gw_8_14 gw_6_51 gw_7_4 gw_7_5 gw_0_5 nw_36 rfl rfl hd_Ci_on ⟨Nat.le_of_ble_eq_true rfl, Nat.le_of_ble_eq_true rfl⟩) (aw_qV (va_recv hK hP rfl he19) hP hD hSh hU hS) rfl rfl hl.1 rfl (lv_room (Nat.le_of_ble_eq_true rfl)) d_Cx_fedBehind_9 ⟨Nat.le_of_ble_eq_true rfl, Nat.le_of_ble_eq_true rfl⟩
    · have he20 := rd_C7 hSh hj
      exact va_runU (As := [.long y12]) (rest := [.int b]) ⟨hx, hb, hml, hown, hG⟩ (k_Sp_on l D g ad G M F N0 j y12 hj) (aw_wA (owner := "RuleCiphers$Cipher") 1 hG hN gw_7_3 gw_8_14 gw_6_51 gw_7_1 gw_7_2 gw_0_6 nw_36 rfl rfl hd_Ci_on ⟨Nat.le_of_ble_eq_true rfl, Nat.le_of_ble_eq_true rfl⟩) (aw_qV (va_recv hK hP rfl he20) hP hD hSh hU hS) rfl rfl hl.1 rfl (lv_room (Nat.le_of_ble_eq_true rfl)) d_Cx_fedBehind_9 ⟨Nat.le_of_ble_eq_true rfl, Nat.le_of_ble_eq_true rfl⟩
    · have he21 := rd_C10 hSh hj
      exact va_runU (As := [.long y12]) (rest := [.int b]) ⟨hx, hb, hml, hown, hG⟩ (k_Si_on l D g ad G M F N0 j y12 hj) (aw_wA (owner := "RuleCiphers$Cipher") 1 hG hN gw_7_0 gw_8_14 gw_6_51 gw_6_58 gw_6_59 gw_0_7 nw_36 rfl rfl hd_Ci_on ⟨Nat.le_of_ble_eq_true rfl, Nat.le_of_ble_eq_true rfl⟩) (aw_qV (va_recv hK hP rfl he21) hP hD hSh hU hS) rfl rfl hl.1 rfl (lv_room (Nat.le_of_ble_eq_true rfl)) d_Cx_fedBehind_9 ⟨Nat.le_of_ble_eq_true rfl, Nat.le_of_ble_eq_true rfl⟩
    · have he22 := rd_C12 hSh hj
      exact va_runU (As := [.long y12]) (rest := [.int b]) ⟨hx, hb, hml, hown, hG⟩ (k_Id_on l D g ad G M F N0 j y12 hj) (aw_wA (owner := "RuleCiphers$Cipher") 1 hG hN gw_6_54 gw_8_14 gw_6_51 gw_6_52 gw_6_53 gw_0_8 nw_36 rfl rfl hd_Ci_on ⟨Nat.le_of_ble_eq_true rfl, Nat.le_of_ble_eq_true rfl⟩) (aw_qV (va_recv hK hP rfl he22) hP hD hSh hU hS) rfl rfl hl.1 rfl (lv_room (Nat.le_of_ble_eq_true rfl)) d_Cx_fedBehind_9 ⟨Nat.le_of_ble_eq_true rfl, Nat.le_of_ble_eq_true rfl⟩
  refine va_calll hrun17 hS (fun _ _ h => h) (fun _ h => h) (fun y23 u8 t8 H locs ht _ _ hB _ _ hS => ?_)
  obtain ⟨L, hP, hD, hSh⟩ := hB
  rw [ht] at hP
  clear ht
  refine lv_iconst (v := nI 0) hx hb d_Cx_fedBehind_12 (by decide +kernel) ?_
  refine aw_ci ((va_runSN (As := [.long y23, .int (nI 0)]) (rest := [.int b]) ⟨hx, hb, hml, hown, hG⟩ (k_Ru_byteOf l y23 (nI 0)) (aw_wSN 2 hG hN gw_8_9 nw_39 gw_0_1 gw_8_8 rfl rfl hd_Ru_byteOf ⟨Nat.le_of_ble_eq_true rfl, Nat.le_of_ble_eq_true rfl⟩) aw_p0 rfl rfl hl.1 rfl (lv_room (Nat.le_of_ble_eq_true rfl)) d_Cx_fedBehind_13 ⟨Nat.le_of_ble_eq_true rfl, Nat.le_of_ble_eq_true rfl⟩).run) (fun x24 hx24 => ?_)
  refine lv_ixor hx hb d_Cx_fedBehind_16 ?_
  refine lv_topi (fun x25 _ => ?_)
  refine lv_istore_n hx hb d_Cx_fedBehind_17 rfl hl (by decide) rfl (fun ls hl => ?_)
  have hl : lv_has ls 4 [(3, .int x25), (0, .ref (aw_c ad j 0)), (1, .int bk), (2, .int b)] := hl
  refine lv_aload_n hx hb d_Cx_fedBehind_18 rfl (lv_at hl 1 rfl) ?_
  refine lv_aload_n hx hb d_Cx_fedBehind_19 rfl (lv_at hl 1 rfl) ?_
  obtain ⟨o27, y28, y29, y30, x31, x32, ho33, he26⟩ := rd_C0 hSh hj
  have hg := hSh.2.2.2.2.1 j hj
  refine va_get (C := R_Cx) (T := T_Cx) (N := 10) (v := .long y29) hx hb hG in_Cx hown hK hP (3 + 16 * j + 0) he26 rfl 6 (by decide) (hG _ gw_2_3) (fun _ h => h) rfl d_Cx_fedBehind_20 ?_
  refine lv_bipush (v := nI 8) hx hb d_Cx_fedBehind_23 (by decide +kernel) ?_
  refine lv_lshl hx hb d_Cx_fedBehind_25 rfl ?_
  refine lv_topl (fun y34 _ => ?_)
  refine lv_iload_n hx hb d_Cx_fedBehind_26 rfl (lv_at hl 2 rfl) ?_
  refine lv_if_eq (tgt := 34) hx hb d_Cx_fedBehind_27 (by decide) (fun hb35 => ?_) (fun hb35 => ?_)
  · refine lv_iload_n hx hb d_Cx_fedBehind_34 rfl (lv_at hl 0 rfl) ?_
    refine lv_i2l hx hb d_Cx_fedBehind_35 rfl ?_
    refine lv_topl (fun y36 _ => ?_)
    refine lv_lor hx hb d_Cx_fedBehind_36 ?_
    refine lv_topl (fun y37 _ => ?_)
    obtain ⟨o39, y40, y41, y42, x43, x44, ho45, he38⟩ := rd_C0 hSh hj
    have hg := hSh.2.2.2.2.1 j hj
    refine aw_put (v := .long y37) (ty := .long) (C := R_Cx) (T := T_Cx) (N := 10) hx hb hG in_Cx t_Cx t_Cx_ok n_Cx hown hK hP hD hS (3 + 16 * j + 0) he38 rfl 6 (by decide) (hG _ gw_2_3) (fun _ h => h) rfl (by decide +kernel) rfl rfl (Nat.le_of_ble_eq_true rfl) d_Cx_fedBehind_37 (wr_C0 hSh hj o39 y40 y37 y42 x43 x44 ho45) (fun H locs L hP hD hSh hS => ?_)
    refine lv_iload_n hx hb d_Cx_fedBehind_40 rfl (lv_at hl 0 rfl) ?_
    exact W.iret hx hb hr (fun t ht hW => ⟨⟨_, (), rfl, trivial, aw_Hr ht hP hD hSh⟩, hS.F ht⟩) hS.2.2 d_Cx_fedBehind_41
  · refine lv_iload_n hx hb d_Cx_fedBehind_30 rfl (lv_at hl 3 rfl) ?_
    refine lv_goto (tgt := 35) hx hb d_Cx_fedBehind_31 (by decide) ?_
    refine lv_i2l hx hb d_Cx_fedBehind_35 rfl ?_
    refine lv_topl (fun y46 _ => ?_)
    refine lv_lor hx hb d_Cx_fedBehind_36 ?_
    refine lv_topl (fun y47 _ => ?_)
    obtain ⟨o49, y50, y51, y52, x53, x54, ho55, he48⟩ := rd_C0 hSh hj
    have hg := hSh.2.2.2.2.1 j hj
    refine aw_put (v := .long y47) (ty := .long) (C := R_Cx) (T := T_Cx) (N := 10) hx hb hG in_Cx t_Cx t_Cx_ok n_Cx hown hK hP hD hS (3 + 16 * j + 0) he48 rfl 6 (by decide) (hG _ gw_2_3) (fun _ h => h) rfl (by decide +kernel) rfl rfl (Nat.le_of_ble_eq_true rfl) d_Cx_fedBehind_37 (wr_C0 hSh hj o49 y50 y47 y52 x53 x54 ho55) (fun H locs L hP hD hSh hS => ?_)
    refine lv_iload_n hx hb d_Cx_fedBehind_40 rfl (lv_at hl 0 rfl) ?_
    exact W.iret hx hb hr (fun t ht hW => ⟨⟨_, (), rfl, trivial, aw_Hr ht hP hD hSh⟩, hS.F ht⟩) hS.2.2 d_Cx_fedBehind_41
abbrev ws_Cx_nextOfOwnStream : List Cond := Cond.code y_Cx_nextOfOwnStream b_Cx_nextOfOwnStream 2 (some .int) :: aw_G
abbrev rm_Cx_nextOfOwnStream : Room := { frames := 3, cells := 0, slots := 0, locals := 79 }
set_option maxHeartbeats 4000000 in
set_option maxRecDepth 100000 in
theorem k_Cx_nextOfOwnStream (l : Launch) (D : va_G) (g : Nat → ClassId) (ad : Nat → Nat) (G M : Nat → Nat × Nat) (F : Int32) (N0 : Nat) (j : Nat) (hj : j < 4) : Met l y_Cx_nextOfOwnStream ws_Cx_nextOfOwnStream rm_Cx_nextOfOwnStream (va_Pc ([.ref (aw_c ad j 0)] : List Value) (aw_B D g ad G M F N0)) (va_Qi (fun r (_ : Unit) => True) (fun (_ : Unit) t => aw_H D g ad G M F N0 t.heap) (aw_Z N0)) 0 0 (aw_Z N0) := by
  refine Met.ofW (cc := b_Cx_nextOfOwnStream) (maxL := 2) (ret := (some .int)) (by decide) rfl ?_
  intro p e s m args below meth c s₁ B hml hv
  obtain ⟨rfl, ⟨L, hP, hD, hSh⟩, hU⟩ := hv
  have hx := B.exec
  have hb := B.bytes
  have hr := B.returns
  have hG : ∀ w ∈ aw_G, w.before _ s = true := fun w h => atoms_spec (ws := ws_Cx_nextOfOwnStream) B.pre w (List.mem_cons_of_mem _ h)
  have hown : s.vm.findClass "RuleCiphers$Context" = some m.cls := findClass_of_methodNamed B.named
  have hlocks := B.notSynchronized
  have hE := hU.1
  have hK := hE.1
  have hN := hE.2.1
  have hS : va_S (aw_Z N0) s.heap s.heap [] := va_S.rf
  have hl := lv_entry ([.ref (aw_c ad j 0)] : List Value) (n := 2) (Nat.le_of_ble_eq_true rfl)
  rw [lg_entry_eq]
  generalize (lg_sl ([.ref (aw_c ad j 0)] : List Value) ++ List.replicate (2 - (lg_sl ([.ref (aw_c ad j 0)] : List Value)).length) Slot.unset).toArray = ls at hl ⊢
  have hl : lv_has ls 2 [(0, .ref (aw_c ad j 0))] := hl
  refine lv_aload_n hx hb d_Cx_nextOfOwnStream_0 rfl (lv_at hl 0 rfl) ?_
  obtain ⟨o2, y3, y4, y5, x6, x7, ho8, he1⟩ := rd_C0 hSh hj
  have hg := hSh.2.2.2.2.1 j hj
  refine va_get (C := R_Cx) (T := T_Cx) (N := 10) (v := .int x6) hx hb hG in_Cx hown hK hP (3 + 16 * j + 0) he1 rfl 8 (by decide) (hG _ gw_2_5) (fun _ h => h) rfl d_Cx_nextOfOwnStream_1 ?_
  refine lv_if_ne (tgt := 22) hx hb d_Cx_nextOfOwnStream_4 (by decide) (fun hb9 => ?_) (fun hb9 => ?_)
  · refine lv_aload_n hx hb d_Cx_nextOfOwnStream_22 rfl (lv_at hl 0 rfl) ?_
    obtain ⟨o11, y12, y13, y14, x15, x16, ho17, he10⟩ := rd_C0 hSh hj
    have hg := hSh.2.2.2.2.1 j hj
    refine va_get (C := R_Cx) (T := T_Cx) (N := 10) (v := .long y13) hx hb hG in_Cx hown hK hP (3 + 16 * j + 0) he10 rfl 6 (by decide) (hG _ gw_2_3) (fun _ h => h) rfl d_Cx_nextOfOwnStream_23 ?_
    refine lv_aload_n hx hb d_Cx_nextOfOwnStream_26 rfl (lv_at hl 0 rfl) ?_
    obtain ⟨o19, y20, y21, y22, x23, x24, ho25, he18⟩ := rd_C0 hSh hj
    have hg := hSh.2.2.2.2.1 j hj
    refine va_get (C := R_Cx) (T := T_Cx) (N := 10) (v := .int x23) hx hb hG in_Cx hown hK hP (3 + 16 * j + 0) he18 rfl 8 (by decide) (hG _ gw_2_5) (fun _ h => h) rfl d_Cx_nextOfOwnStream_27 ?_
    refine aw_ci ((va_runSN (As := [.long y13, .int x23]) (rest := []) ⟨hx, hb, hml, hown, hG⟩ (k_Ru_byteOf l y13 x23) (aw_wSN 2 hG hN gw_8_9 nw_39 gw_0_1 gw_8_8 rfl rfl hd_Ru_byteOf ⟨Nat.le_of_ble_eq_true rfl, Nat.le_of_ble_eq_true rfl⟩) aw_p0 rfl rfl hl.1 rfl (lv_room (Nat.le_of_ble_eq_true rfl)) d_Cx_nextOfOwnStream_30 ⟨Nat.le_of_ble_eq_true rfl, Nat.le_of_ble_eq_true rfl⟩).run) (fun x26 hx26 => ?_)
    refine lv_istore_n hx hb d_Cx_nextOfOwnStream_33 rfl hl (by decide) rfl (fun ls hl => ?_)
    have hl : lv_has ls 2 [(1, .int x26), (0, .ref (aw_c ad j 0))] := hl
    refine lv_aload_n hx hb d_Cx_nextOfOwnStream_34 rfl (lv_at hl 1 rfl) ?_
    refine lv_aload_n hx hb d_Cx_nextOfOwnStream_35 rfl (lv_at hl 1 rfl) ?_
    obtain ⟨o28, y29, y30, y31, x32, x33, ho34, he27⟩ := rd_C0 hSh hj
    have hg := hSh.2.2.2.2.1 j hj
    refine va_get (C := R_Cx) (T := T_Cx) (N := 10) (v := .int x32) hx hb hG in_Cx hown hK hP (3 + 16 * j + 0) he27 rfl 8 (by decide) (hG _ gw_2_5) (fun _ h => h) rfl d_Cx_nextOfOwnStream_36 ?_
    refine lv_iconst (v := nI 1) hx hb d_Cx_nextOfOwnStream_39 (by decide +kernel) ?_
    refine lv_iadd hx hb d_Cx_nextOfOwnStream_40 ?_
    refine lv_topi (fun x35 _ => ?_)
    refine lv_bipush (v := nI 8) hx hb d_Cx_nextOfOwnStream_41 (by decide +kernel) ?_
    refine lv_irem hx hb d_Cx_nextOfOwnStream_43 (by decide +kernel) ?_
    refine lv_topi (fun x36 _ => ?_)
    obtain ⟨o38, y39, y40, y41, x42, x43, ho44, he37⟩ := rd_C0 hSh hj
    have hg := hSh.2.2.2.2.1 j hj
    refine aw_put (v := .int x36) (ty := .int) (C := R_Cx) (T := T_Cx) (N := 10) hx hb hG in_Cx t_Cx t_Cx_ok n_Cx hown hK hP hD hS (3 + 16 * j + 0) he37 rfl 8 (by decide) (hG _ gw_2_5) (fun _ h => h) rfl (by decide +kernel) rfl rfl (Nat.le_of_ble_eq_true rfl) d_Cx_nextOfOwnStream_44 (wr_C0 hSh hj o38 y39 y40 y41 x36 x43 ho44) (fun H locs L hP hD hSh hS => ?_)
    refine lv_iload_n hx hb d_Cx_nextOfOwnStream_47 rfl (lv_at hl 0 rfl) ?_
    exact W.iret hx hb hr (fun t ht hW => ⟨⟨_, (), rfl, trivial, aw_Hr ht hP hD hSh⟩, hS.F ht⟩) hS.2.2 d_Cx_nextOfOwnStream_48
  · refine lv_aload_n hx hb d_Cx_nextOfOwnStream_7 rfl (lv_at hl 0 rfl) ?_
    refine lv_aload_n hx hb d_Cx_nextOfOwnStream_8 rfl (lv_at hl 0 rfl) ?_
    obtain ⟨o46, y47, y48, y49, x50, x51, ho52, he45⟩ := rd_C0 hSh hj
    have hg := hSh.2.2.2.2.1 j hj
    refine va_get (C := R_Cx) (T := T_Cx) (N := 10) (v := .ref (aw_c ad j o46)) hx hb hG in_Cx hown hK hP (3 + 16 * j + 0) he45 rfl 4 (by decide) (hG _ gw_2_0) (fun _ h => h) rfl d_Cx_nextOfOwnStream_9 ?_
    refine lv_aload_n hx hb d_Cx_nextOfOwnStream_12 rfl (lv_at hl 0 rfl) ?_
    obtain ⟨o54, y55, y56, y57, x58, x59, ho60, he53⟩ := rd_C0 hSh hj
    have hg := hSh.2.2.2.2.1 j hj
    refine va_get (C := R_Cx) (T := T_Cx) (N := 10) (v := .long y56) hx hb hG in_Cx hown hK hP (3 + 16 * j + 0) he53 rfl 6 (by decide) (hG _ gw_2_3) (fun _ h => h) rfl d_Cx_nextOfOwnStream_13 ?_
    have hrun61 : va_Run p l e (headSpec ws_Cx_nextOfOwnStream rm_Cx_nextOfOwnStream).room s m ([.ref (aw_c ad j 0)] : List Value).toArray below meth c s.heap [] 0 0 0 0 (F0 m 16 ls [.long y56, .ref (aw_c ad j o46), .ref (aw_c ad j 0)]) [.ref (aw_c ad j 0)] (va_Ql (fun r (_ : Unit) => True) (fun (_ : Unit) t => aw_H D g ad G M F N0 t.heap) (aw_Z N0) ([.ref (aw_c ad j o46), .long y56] : List Value).toArray) (aw_Z N0) := by
      rcases ho52 with rfl | rfl | rfl | rfl | rfl
      · have he62 := rd_C2 hSh hj
        exact va_runU (As := [.long y56]) (rest := [.ref (aw_c ad j 0)]) ⟨hx, hb, hml, hown, hG⟩ (k_Rc_on l D g ad G M F N0 j y56 hj) (aw_wA (owner := "RuleCiphers$Cipher") 1 hG hN gw_6_57 gw_8_14 gw_6_51 gw_6_55 gw_6_56 gw_0_4 nw_36 rfl rfl hd_Ci_on ⟨Nat.le_of_ble_eq_true rfl, Nat.le_of_ble_eq_true rfl⟩) (aw_qV (va_recv hK hP rfl he62) hP hD hSh hU hS) rfl rfl hl.1 rfl (lv_room (Nat.le_of_ble_eq_true rfl)) d_Cx_nextOfOwnStream_16 ⟨Nat.le_of_ble_eq_true rfl, Nat.le_of_ble_eq_true rfl⟩
      · have he63 := rd_C5 hSh hj
        exact va_runU (As := [.long y56]) (rest := [.ref (aw_c ad j 0)]) ⟨hx, hb, hml, hown, hG⟩ (k_Xt_on l D g ad G M F N0 j y56 hj) (aw_wA (owner := "RuleCiphers$Cipher") 1 hG hN gw_7_6 gw_8_14 gw_6_51 gw_7_4 gw_7_5 gw_0_5 nw_36 rfl rfl hd_Ci_on ⟨Nat.le_of_ble_eq_true rfl, Nat.le_of_ble_eq_true rfl⟩) (aw_qV (va_recv hK hP rfl he63) hP hD hSh hU hS) rfl rfl hl.1 rfl (lv_room (Nat.le_of_ble_eq_true rfl)) d_Cx_nextOfOwnStream_16 ⟨Nat.le_of_ble_eq_true rfl, Nat.le_of_ble_eq_true rfl⟩
      · have he64 := rd_C7 hSh hj
        exact va_runU (As := [.long y56]) (rest := [.ref (aw_c ad j 0)]) ⟨hx, hb, hml, hown, hG⟩ (k_Sp_on l D g ad G M F N0 j y56 hj) (aw_wA (owner := "RuleCiphers$Cipher") 1 hG hN gw_7_3 gw_8_14 gw_6_51 gw_7_1 gw_7_2 gw_0_6 nw_36 rfl rfl hd_Ci_on ⟨Nat.le_of_ble_eq_true rfl, Nat.le_of_ble_eq_true rfl⟩) (aw_qV (va_recv hK hP rfl he64) hP hD hSh hU hS) rfl rfl hl.1 rfl (lv_room (Nat.le_of_ble_eq_true rfl)) d_Cx_nextOfOwnStream_16 ⟨Nat.le_of_ble_eq_true rfl, Nat.le_of_ble_eq_true rfl⟩
      · have he65 := rd_C10 hSh hj
        exact va_runU (As := [.long y56]) (rest := [.ref (aw_c ad j 0)]) ⟨hx, hb, hml, hown, hG⟩ (k_Si_on l D g ad G M F N0 j y56 hj) (aw_wA (owner := "RuleCiphers$Cipher") 1 hG hN gw_7_0 gw_8_14 gw_6_51 gw_6_58 gw_6_59 gw_0_7 nw_36 rfl rfl hd_Ci_on ⟨Nat.le_of_ble_eq_true rfl, Nat.le_of_ble_eq_true rfl⟩) (aw_qV (va_recv hK hP rfl he65) hP hD hSh hU hS) rfl rfl hl.1 rfl (lv_room (Nat.le_of_ble_eq_true rfl)) d_Cx_nextOfOwnStream_16 ⟨Nat.le_of_ble_eq_true rfl, Nat.le_of_ble_eq_true rfl⟩
      · have he66 := rd_C12 hSh hj
        exact va_runU (As := [.long y56]) (rest := [.ref (aw_c ad j 0)]) ⟨hx, hb, hml, hown, hG⟩ (k_Id_on l D g ad G M F N0 j y56 hj) (aw_wA (owner := "RuleCiphers$Cipher") 1 hG hN gw_6_54 gw_8_14 gw_6_51 gw_6_52 gw_6_53 gw_0_8 nw_36 rfl rfl hd_Ci_on ⟨Nat.le_of_ble_eq_true rfl, Nat.le_of_ble_eq_true rfl⟩) (aw_qV (va_recv hK hP rfl he66) hP hD hSh hU hS) rfl rfl hl.1 rfl (lv_room (Nat.le_of_ble_eq_true rfl)) d_Cx_nextOfOwnStream_16 ⟨Nat.le_of_ble_eq_true rfl, Nat.le_of_ble_eq_true rfl⟩
    refine va_calll hrun61 hS (fun _ _ h => h) (fun _ h => h) (fun y67 u8 t8 H locs ht _ _ hB _ _ hS => ?_)
    obtain ⟨L, hP, hD, hSh⟩ := hB
    rw [ht] at hP
    clear ht
    obtain ⟨o69, y70, y71, y72, x73, x74, ho75, he68⟩ := rd_C0 hSh hj
    have hg := hSh.2.2.2.2.1 j hj
    refine aw_put (v := .long y67) (ty := .long) (C := R_Cx) (T := T_Cx) (N := 10) hx hb hG in_Cx t_Cx t_Cx_ok n_Cx hown hK hP hD hS (3 + 16 * j + 0) he68 rfl 6 (by decide) (hG _ gw_2_3) (fun _ h => h) rfl (by decide +kernel) rfl rfl (Nat.le_of_ble_eq_true rfl) d_Cx_nextOfOwnStream_19 (wr_C0 hSh hj o69 y70 y67 y72 x73 x74 ho75) (fun H locs L hP hD hSh hS => ?_)
    refine lv_aload_n hx hb d_Cx_nextOfOwnStream_22 rfl (lv_at hl 0 rfl) ?_
    obtain ⟨o77, y78, y79, y80, x81, x82, ho83, he76⟩ := rd_C0 hSh hj
    have hg := hSh.2.2.2.2.1 j hj
    refine va_get (C := R_Cx) (T := T_Cx) (N := 10) (v := .long y79) hx hb hG in_Cx hown hK hP (3 + 16 * j + 0) he76 rfl 6 (by decide) (hG _ gw_2_3) (fun _ h => h) rfl d_Cx_nextOfOwnStream_23 ?_
    refine lv_aload_n hx hb d_Cx_nextOfOwnStream_26 rfl (lv_at hl 0 rfl) ?_
    obtain ⟨o85, y86, y87, y88, x89, x90, ho91, he84⟩ := rd_C0 hSh hj
    have hg := hSh.2.2.2.2.1 j hj
    refine va_get (C := R_Cx) (T := T_Cx) (N := 10) (v := .int x89) hx hb hG in_Cx hown hK hP (3 + 16 * j + 0) he84 rfl 8 (by decide) (hG _ gw_2_5) (fun _ h => h) rfl d_Cx_nextOfOwnStream_27 ?_
    refine aw_ci ((va_runSN (As := [.long y79, .int x89]) (rest := []) ⟨hx, hb, hml, hown, hG⟩ (k_Ru_byteOf l y79 x89) (aw_wSN 2 hG hN gw_8_9 nw_39 gw_0_1 gw_8_8 rfl rfl hd_Ru_byteOf ⟨Nat.le_of_ble_eq_true rfl, Nat.le_of_ble_eq_true rfl⟩) aw_p0 rfl rfl hl.1 rfl (lv_room (Nat.le_of_ble_eq_true rfl)) d_Cx_nextOfOwnStream_30 ⟨Nat.le_of_ble_eq_true rfl, Nat.le_of_ble_eq_true rfl⟩).run) (fun x92 hx92 => ?_)
    refine lv_istore_n hx hb d_Cx_nextOfOwnStream_33 rfl hl (by decide) rfl (fun ls hl => ?_)
    have hl : lv_has ls 2 [(1, .int x92), (0, .ref (aw_c ad j 0))] := hl
    refine lv_aload_n hx hb d_Cx_nextOfOwnStream_34 rfl (lv_at hl 1 rfl) ?_
    refine lv_aload_n hx hb d_Cx_nextOfOwnStream_35 rfl (lv_at hl 1 rfl) ?_
    obtain ⟨o94, y95, y96, y97, x98, x99, ho100, he93⟩ := rd_C0 hSh hj
    have hg := hSh.2.2.2.2.1 j hj
    refine va_get (C := R_Cx) (T := T_Cx) (N := 10) (v := .int x98) hx hb hG in_Cx hown hK hP (3 + 16 * j + 0) he93 rfl 8 (by decide) (hG _ gw_2_5) (fun _ h => h) rfl d_Cx_nextOfOwnStream_36 ?_
    refine lv_iconst (v := nI 1) hx hb d_Cx_nextOfOwnStream_39 (by decide +kernel) ?_
    refine lv_iadd hx hb d_Cx_nextOfOwnStream_40 ?_
    refine lv_topi (fun x101 _ => ?_)
    refine lv_bipush (v := nI 8) hx hb d_Cx_nextOfOwnStream_41 (by decide +kernel) ?_
    refine lv_irem hx hb d_Cx_nextOfOwnStream_43 (by decide +kernel) ?_
    refine lv_topi (fun x102 _ => ?_)
    obtain ⟨o104, y105, y106, y107, x108, x109, ho110, he103⟩ := rd_C0 hSh hj
    have hg := hSh.2.2.2.2.1 j hj
    refine aw_put (v := .int x102) (ty := .int) (C := R_Cx) (T := T_Cx) (N := 10) hx hb hG in_Cx t_Cx t_Cx_ok n_Cx hown hK hP hD hS (3 + 16 * j + 0) he103 rfl 8 (by decide) (hG _ gw_2_5) (fun _ h => h) rfl (by decide +kernel) rfl rfl (Nat.le_of_ble_eq_true rfl) d_Cx_nextOfOwnStream_44 (wr_C0 hSh hj o104 y105 y106 y107 x102 x109 ho110) (fun H locs L hP hD hSh hS => ?_)
    refine lv_iload_n hx hb d_Cx_nextOfOwnStream_47 rfl (lv_at hl 0 rfl) ?_
    exact W.iret hx hb hr (fun t ht hW => ⟨⟨_, (), rfl, trivial, aw_Hr ht hP hD hSh⟩, hS.F ht⟩) hS.2.2 d_Cx_nextOfOwnStream_48
abbrev ws_Cx_nextOfCountedStream : List Cond := Cond.code y_Cx_nextOfCountedStream b_Cx_nextOfCountedStream 2 (some .int) :: aw_G
abbrev rm_Cx_nextOfCountedStream : Room := { frames := 3, cells := 0, slots := 0, locals := 79 }
set_option maxHeartbeats 4000000 in
set_option maxRecDepth 100000 in
theorem k_Cx_nextOfCountedStream (l : Launch) (D : va_G) (g : Nat → ClassId) (ad : Nat → Nat) (G M : Nat → Nat × Nat) (F : Int32) (N0 : Nat) (j : Nat) (hj : j < 4) : Met l y_Cx_nextOfCountedStream ws_Cx_nextOfCountedStream rm_Cx_nextOfCountedStream (va_Pc ([.ref (aw_c ad j 0)] : List Value) (aw_B D g ad G M F N0)) (va_Qi (fun r (_ : Unit) => True) (fun (_ : Unit) t => aw_H D g ad G M F N0 t.heap) (aw_Z N0)) 0 0 (aw_Z N0) := by
  refine Met.ofW (cc := b_Cx_nextOfCountedStream) (maxL := 2) (ret := (some .int)) (by decide) rfl ?_
  intro p e s m args below meth c s₁ B hml hv
  obtain ⟨rfl, ⟨L, hP, hD, hSh⟩, hU⟩ := hv
  have hx := B.exec
  have hb := B.bytes
  have hr := B.returns
  have hG : ∀ w ∈ aw_G, w.before _ s = true := fun w h => atoms_spec (ws := ws_Cx_nextOfCountedStream) B.pre w (List.mem_cons_of_mem _ h)
  have hown : s.vm.findClass "RuleCiphers$Context" = some m.cls := findClass_of_methodNamed B.named
  have hlocks := B.notSynchronized
  have hE := hU.1
  have hK := hE.1
  have hN := hE.2.1
  have hS : va_S (aw_Z N0) s.heap s.heap [] := va_S.rf
  have hl := lv_entry ([.ref (aw_c ad j 0)] : List Value) (n := 2) (Nat.le_of_ble_eq_true rfl)
  rw [lg_entry_eq]
  generalize (lg_sl ([.ref (aw_c ad j 0)] : List Value) ++ List.replicate (2 - (lg_sl ([.ref (aw_c ad j 0)] : List Value)).length) Slot.unset).toArray = ls at hl ⊢
  have hl : lv_has ls 2 [(0, .ref (aw_c ad j 0))] := hl
  refine lv_aload_n hx hb d_Cx_nextOfCountedStream_0 rfl (lv_at hl 0 rfl) ?_
  obtain ⟨o2, y3, y4, y5, x6, x7, ho8, he1⟩ := rd_C0 hSh hj
  have hg := hSh.2.2.2.2.1 j hj
  refine va_get (C := R_Cx) (T := T_Cx) (N := 10) (v := .int x6) hx hb hG in_Cx hown hK hP (3 + 16 * j + 0) he1 rfl 8 (by decide) (hG _ gw_2_5) (fun _ h => h) rfl d_Cx_nextOfCountedStream_1 ?_
  refine lv_if_ne (tgt := 22) hx hb d_Cx_nextOfCountedStream_4 (by decide) (fun hb9 => ?_) (fun hb9 => ?_)
  · refine lv_aload_n hx hb d_Cx_nextOfCountedStream_22 rfl (lv_at hl 0 rfl) ?_
    obtain ⟨o11, y12, y13, y14, x15, x16, ho17, he10⟩ := rd_C0 hSh hj
    have hg := hSh.2.2.2.2.1 j hj
    refine va_get (C := R_Cx) (T := T_Cx) (N := 10) (v := .long y14) hx hb hG in_Cx hown hK hP (3 + 16 * j + 0) he10 rfl 7 (by decide) (hG _ gw_2_4) (fun _ h => h) rfl d_Cx_nextOfCountedStream_23 ?_
    refine lv_aload_n hx hb d_Cx_nextOfCountedStream_26 rfl (lv_at hl 0 rfl) ?_
    obtain ⟨o19, y20, y21, y22, x23, x24, ho25, he18⟩ := rd_C0 hSh hj
    have hg := hSh.2.2.2.2.1 j hj
    refine va_get (C := R_Cx) (T := T_Cx) (N := 10) (v := .int x23) hx hb hG in_Cx hown hK hP (3 + 16 * j + 0) he18 rfl 8 (by decide) (hG _ gw_2_5) (fun _ h => h) rfl d_Cx_nextOfCountedStream_27 ?_
    refine aw_ci ((va_runSN (As := [.long y14, .int x23]) (rest := []) ⟨hx, hb, hml, hown, hG⟩ (k_Ru_byteOf l y14 x23) (aw_wSN 2 hG hN gw_8_9 nw_39 gw_0_1 gw_8_8 rfl rfl hd_Ru_byteOf ⟨Nat.le_of_ble_eq_true rfl, Nat.le_of_ble_eq_true rfl⟩) aw_p0 rfl rfl hl.1 rfl (lv_room (Nat.le_of_ble_eq_true rfl)) d_Cx_nextOfCountedStream_30 ⟨Nat.le_of_ble_eq_true rfl, Nat.le_of_ble_eq_true rfl⟩).run) (fun x26 hx26 => ?_)
    refine lv_istore_n hx hb d_Cx_nextOfCountedStream_33 rfl hl (by decide) rfl (fun ls hl => ?_)
    have hl : lv_has ls 2 [(1, .int x26), (0, .ref (aw_c ad j 0))] := hl
    refine lv_aload_n hx hb d_Cx_nextOfCountedStream_34 rfl (lv_at hl 1 rfl) ?_
    refine lv_aload_n hx hb d_Cx_nextOfCountedStream_35 rfl (lv_at hl 1 rfl) ?_
    obtain ⟨o28, y29, y30, y31, x32, x33, ho34, he27⟩ := rd_C0 hSh hj
    have hg := hSh.2.2.2.2.1 j hj
    refine va_get (C := R_Cx) (T := T_Cx) (N := 10) (v := .int x32) hx hb hG in_Cx hown hK hP (3 + 16 * j + 0) he27 rfl 8 (by decide) (hG _ gw_2_5) (fun _ h => h) rfl d_Cx_nextOfCountedStream_36 ?_
    refine lv_iconst (v := nI 1) hx hb d_Cx_nextOfCountedStream_39 (by decide +kernel) ?_
    refine lv_iadd hx hb d_Cx_nextOfCountedStream_40 ?_
    refine lv_topi (fun x35 _ => ?_)
    refine lv_bipush (v := nI 8) hx hb d_Cx_nextOfCountedStream_41 (by decide +kernel) ?_
    refine lv_irem hx hb d_Cx_nextOfCountedStream_43 (by decide +kernel) ?_
    refine lv_topi (fun x36 _ => ?_)
    obtain ⟨o38, y39, y40, y41, x42, x43, ho44, he37⟩ := rd_C0 hSh hj
    have hg := hSh.2.2.2.2.1 j hj
    refine aw_put (v := .int x36) (ty := .int) (C := R_Cx) (T := T_Cx) (N := 10) hx hb hG in_Cx t_Cx t_Cx_ok n_Cx hown hK hP hD hS (3 + 16 * j + 0) he37 rfl 8 (by decide) (hG _ gw_2_5) (fun _ h => h) rfl (by decide +kernel) rfl rfl (Nat.le_of_ble_eq_true rfl) d_Cx_nextOfCountedStream_44 (wr_C0 hSh hj o38 y39 y40 y41 x36 x43 ho44) (fun H locs L hP hD hSh hS => ?_)
    refine lv_aload_n hx hb d_Cx_nextOfCountedStream_47 rfl (lv_at hl 1 rfl) ?_
    obtain ⟨o46, y47, y48, y49, x50, x51, ho52, he45⟩ := rd_C0 hSh hj
    have hg := hSh.2.2.2.2.1 j hj
    refine va_get (C := R_Cx) (T := T_Cx) (N := 10) (v := .int x50) hx hb hG in_Cx hown hK hP (3 + 16 * j + 0) he45 rfl 8 (by decide) (hG _ gw_2_5) (fun _ h => h) rfl d_Cx_nextOfCountedStream_48 ?_
    refine lv_if_ne (tgt := 64) hx hb d_Cx_nextOfCountedStream_51 (by decide) (fun hb53 => ?_) (fun hb53 => ?_)
    · refine lv_iload_n hx hb d_Cx_nextOfCountedStream_64 rfl (lv_at hl 0 rfl) ?_
      exact W.iret hx hb hr (fun t ht hW => ⟨⟨_, (), rfl, trivial, aw_Hr ht hP hD hSh⟩, hS.F ht⟩) hS.2.2 d_Cx_nextOfCountedStream_65
    · refine lv_aload_n hx hb d_Cx_nextOfCountedStream_54 rfl (lv_at hl 1 rfl) ?_
      refine lv_dup hx hb d_Cx_nextOfCountedStream_55 rfl ?_
      obtain ⟨o55, y56, y57, y58, x59, x60, ho61, he54⟩ := rd_C0 hSh hj
      have hg := hSh.2.2.2.2.1 j hj
      refine va_get (C := R_Cx) (T := T_Cx) (N := 10) (v := .long y57) hx hb hG in_Cx hown hK hP (3 + 16 * j + 0) he54 rfl 6 (by decide) (hG _ gw_2_3) (fun _ h => h) rfl d_Cx_nextOfCountedStream_56 ?_
      refine lv_lconst (v := 1) hx hb d_Cx_nextOfCountedStream_59 (by decide +kernel) ?_
      refine lv_ladd hx hb d_Cx_nextOfCountedStream_60 ?_
      refine lv_topl (fun y62 _ => ?_)
      obtain ⟨o64, y65, y66, y67, x68, x69, ho70, he63⟩ := rd_C0 hSh hj
      have hg := hSh.2.2.2.2.1 j hj
      refine aw_put (v := .long y62) (ty := .long) (C := R_Cx) (T := T_Cx) (N := 10) hx hb hG in_Cx t_Cx t_Cx_ok n_Cx hown hK hP hD hS (3 + 16 * j + 0) he63 rfl 6 (by decide) (hG _ gw_2_3) (fun _ h => h) rfl (by decide +kernel) rfl rfl (Nat.le_of_ble_eq_true rfl) d_Cx_nextOfCountedStream_61 (wr_C0 hSh hj o64 y65 y62 y67 x68 x69 ho70) (fun H locs L hP hD hSh hS => ?_)
      refine lv_iload_n hx hb d_Cx_nextOfCountedStream_64 rfl (lv_at hl 0 rfl) ?_
      exact W.iret hx hb hr (fun t ht hW => ⟨⟨_, (), rfl, trivial, aw_Hr ht hP hD hSh⟩, hS.F ht⟩) hS.2.2 d_Cx_nextOfCountedStream_65
  · refine lv_aload_n hx hb d_Cx_nextOfCountedStream_7 rfl (lv_at hl 0 rfl) ?_
    refine lv_aload_n hx hb d_Cx_nextOfCountedStream_8 rfl (lv_at hl 0 rfl) ?_
    obtain ⟨o72, y73, y74, y75, x76, x77, ho78, he71⟩ := rd_C0 hSh hj
    have hg := hSh.2.2.2.2.1 j hj
    refine va_get (C := R_Cx) (T := T_Cx) (N := 10) (v := .ref (aw_c ad j o72)) hx hb hG in_Cx hown hK hP (3 + 16 * j + 0) he71 rfl 4 (by decide) (hG _ gw_2_0) (fun _ h => h) rfl d_Cx_nextOfCountedStream_9 ?_
    refine lv_aload_n hx hb d_Cx_nextOfCountedStream_12 rfl (lv_at hl 0 rfl) ?_
    obtain ⟨o80, y81, y82, y83, x84, x85, ho86, he79⟩ := rd_C0 hSh hj
    have hg := hSh.2.2.2.2.1 j hj
    refine va_get (C := R_Cx) (T := T_Cx) (N := 10) (v := .long y82) hx hb hG in_Cx hown hK hP (3 + 16 * j + 0) he79 rfl 6 (by decide) (hG _ gw_2_3) (fun _ h => h) rfl d_Cx_nextOfCountedStream_13 ?_
    have hrun87 : va_Run p l e (headSpec ws_Cx_nextOfCountedStream rm_Cx_nextOfCountedStream).room s m ([.ref (aw_c ad j 0)] : List Value).toArray below meth c s.heap [] 0 0 0 0 (F0 m 16 ls [.long y82, .ref (aw_c ad j o72), .ref (aw_c ad j 0)]) [.ref (aw_c ad j 0)] (va_Ql (fun r (_ : Unit) => True) (fun (_ : Unit) t => aw_H D g ad G M F N0 t.heap) (aw_Z N0) ([.ref (aw_c ad j o72), .long y82] : List Value).toArray) (aw_Z N0) := by
      rcases ho78 with rfl | rfl | rfl | rfl | rfl
      · have he88 := rd_C2 hSh hj
        exact va_runU (As := [.long y82]) (rest := [.ref (aw_c ad j 0)]) ⟨hx, hb, hml, hown, hG⟩ (k_Rc_on l D g ad G M F N0 j y82 hj) (aw_wA (owner := "RuleCiphers$Cipher") 1 hG hN gw_6_57 gw_8_14 gw_6_51 gw_6_55 gw_6_56 gw_0_4 nw_36 rfl rfl hd_Ci_on ⟨Nat.le_of_ble_eq_true rfl, Nat.le_of_ble_eq_true rfl⟩) (aw_qV (va_recv hK hP rfl he88) hP hD hSh hU hS) rfl rfl hl.1 rfl (lv_room (Nat.le_of_ble_eq_true rfl)) d_Cx_nextOfCountedStream_16 ⟨Nat.le_of_ble_eq_true rfl, Nat.le_of_ble_eq_true rfl⟩
      · have he89 := rd_C5 hSh hj
        exact va_runU (As := [.long y82]) (rest := [.ref (aw_c ad j 0)]) ⟨hx, hb, hml, hown, hG⟩ (k_Xt_on l D g ad G M F N0 j y82 hj) (aw_wA (owner := "RuleCiphers$Cipher") 1 hG hN gw_7_6 gw_8_14 gw_6_51 gw_7_4 gw_7_5 gw_0_5 nw_36 rfl rfl hd_Ci_on ⟨Nat.le_of_ble_eq_true rfl, Nat.le_of_ble_eq_true rfl⟩) (aw_qV (va_recv hK hP rfl he89) hP hD hSh hU hS) rfl rfl hl.1 rfl (lv_room (Nat.le_of_ble_eq_true rfl)) d_Cx_nextOfCountedStream_16 ⟨Nat.le_of_ble_eq_true rfl, Nat.le_of_ble_eq_true rfl⟩
      · have he90 := rd_C7 hSh hj
        exact va_runU (As := [.long y82]) (rest := [.ref (aw_c ad j 0)]) ⟨hx, hb, hml, hown, hG⟩ (k_Sp_on l D g ad G M F N0 j y82 hj) (aw_wA (owner := "RuleCiphers$Cipher") 1 hG hN gw_7_3 gw_8_14 gw_6_51 gw_7_1 gw_7_2 gw_0_6 nw_36 rfl rfl hd_Ci_on ⟨Nat.le_of_ble_eq_true rfl, Nat.le_of_ble_eq_true rfl⟩) (aw_qV (va_recv hK hP rfl he90) hP hD hSh hU hS) rfl rfl hl.1 rfl (lv_room (Nat.le_of_ble_eq_true rfl)) d_Cx_nextOfCountedStream_16 ⟨Nat.le_of_ble_eq_true rfl, Nat.le_of_ble_eq_true rfl⟩
      · have he91 := rd_C10 hSh hj
        exact va_runU (As := [.long y82]) (rest := [.ref (aw_c ad j 0)]) ⟨hx, hb, hml, hown, hG⟩ (k_Si_on l D g ad G M F N0 j y82 hj) (aw_wA (owner := "RuleCiphers$Cipher") 1 hG hN gw_7_0 gw_8_14 gw_6_51 gw_6_58 gw_6_59 gw_0_7 nw_36 rfl rfl hd_Ci_on ⟨Nat.le_of_ble_eq_true rfl, Nat.le_of_ble_eq_true rfl⟩) (aw_qV (va_recv hK hP rfl he91) hP hD hSh hU hS) rfl rfl hl.1 rfl (lv_room (Nat.le_of_ble_eq_true rfl)) d_Cx_nextOfCountedStream_16 ⟨Nat.le_of_ble_eq_true rfl, Nat.le_of_ble_eq_true rfl⟩
      · have he92 := rd_C12 hSh hj
        exact va_runU (As := [.long y82]) (rest := [.ref (aw_c ad j 0)]) ⟨hx, hb, hml, hown, hG⟩ (k_Id_on l D g ad G M F N0 j y82 hj) (aw_wA (owner := "RuleCiphers$Cipher") 1 hG hN gw_6_54 gw_8_14 gw_6_51 gw_6_52 gw_6_53 gw_0_8 nw_36 rfl rfl hd_Ci_on ⟨Nat.le_of_ble_eq_true rfl, Nat.le_of_ble_eq_true rfl⟩) (aw_qV (va_recv hK hP rfl he92) hP hD hSh hU hS) rfl rfl hl.1 rfl (lv_room (Nat.le_of_ble_eq_true rfl)) d_Cx_nextOfCountedStream_16 ⟨Nat.le_of_ble_eq_true rfl, Nat.le_of_ble_eq_true rfl⟩
    refine va_calll hrun87 hS (fun _ _ h => h) (fun _ h => h) (fun y93 u8 t8 H locs ht _ _ hB _ _ hS => ?_)
    obtain ⟨L, hP, hD, hSh⟩ := hB
    rw [ht] at hP
    clear ht
    obtain ⟨o95, y96, y97, y98, x99, x100, ho101, he94⟩ := rd_C0 hSh hj
    have hg := hSh.2.2.2.2.1 j hj
    refine aw_put (v := .long y93) (ty := .long) (C := R_Cx) (T := T_Cx) (N := 10) hx hb hG in_Cx t_Cx t_Cx_ok n_Cx hown hK hP hD hS (3 + 16 * j + 0) he94 rfl 7 (by decide) (hG _ gw_2_4) (fun _ h => h) rfl (by decide +kernel) rfl rfl (Nat.le_of_ble_eq_true rfl) d_Cx_nextOfCountedStream_19 (wr_C0 hSh hj o95 y96 y97 y93 x99 x100 ho101) (fun H locs L hP hD hSh hS => ?_)
    refine lv_aload_n hx hb d_Cx_nextOfCountedStream_22 rfl (lv_at hl 0 rfl) ?_
    obtain ⟨o103, y104, y105, y106, x107, x108, ho109, he102⟩ := rd_C0 hSh hj
    have hg := hSh.2.2.2.2.1 j hj
    refine va_get (C := R_Cx) (T := T_Cx) (N := 10) (v := .long y106) hx hb hG in_Cx hown hK hP (3 + 16 * j + 0) he102 rfl 7 (by decide) (hG _ gw_2_4) (fun _ h => h) rfl d_Cx_nextOfCountedStream_23 ?_
    refine lv_aload_n hx hb d_Cx_nextOfCountedStream_26 rfl (lv_at hl 0 rfl) ?_
    obtain ⟨o111, y112, y113, y114, x115, x116, ho117, he110⟩ := rd_C0 hSh hj
    have hg := hSh.2.2.2.2.1 j hj
    refine va_get (C := R_Cx) (T := T_Cx) (N := 10) (v := .int x115) hx hb hG in_Cx hown hK hP (3 + 16 * j + 0) he110 rfl 8 (by decide) (hG _ gw_2_5) (fun _ h => h) rfl d_Cx_nextOfCountedStream_27 ?_
    refine aw_ci ((va_runSN (As := [.long y106, .int x115]) (rest := []) ⟨hx, hb, hml, hown, hG⟩ (k_Ru_byteOf l y106 x115) (aw_wSN 2 hG hN gw_8_9 nw_39 gw_0_1 gw_8_8 rfl rfl hd_Ru_byteOf ⟨Nat.le_of_ble_eq_true rfl, Nat.le_of_ble_eq_true rfl⟩) aw_p0 rfl rfl hl.1 rfl (lv_room (Nat.le_of_ble_eq_true rfl)) d_Cx_nextOfCountedStream_30 ⟨Nat.le_of_ble_eq_true rfl, Nat.le_of_ble_eq_true rfl⟩).run) (fun x118 hx118 => ?_)
    refine lv_istore_n hx hb d_Cx_nextOfCountedStream_33 rfl hl (by decide) rfl (fun ls hl => ?_)
    have hl : lv_has ls 2 [(1, .int x118), (0, .ref (aw_c ad j 0))] := hl
    refine lv_aload_n hx hb d_Cx_nextOfCountedStream_34 rfl (lv_at hl 1 rfl) ?_
    refine lv_aload_n hx hb d_Cx_nextOfCountedStream_35 rfl (lv_at hl 1 rfl) ?_
    obtain ⟨o120, y121, y122, y123, x124, x125, ho126, he119⟩ := rd_C0 hSh hj
    have hg := hSh.2.2.2.2.1 j hj
    refine va_get (C := R_Cx) (T := T_Cx) (N := 10) (v := .int x124) hx hb hG in_Cx hown hK hP (3 + 16 * j + 0) he119 rfl 8 (by decide) (hG _ gw_2_5) (fun _ h => h) rfl d_Cx_nextOfCountedStream_36 ?_
    refine lv_iconst (v := nI 1) hx hb d_Cx_nextOfCountedStream_39 (by decide +kernel) ?_
    refine lv_iadd hx hb d_Cx_nextOfCountedStream_40 ?_
    refine lv_topi (fun x127 _ => ?_)
    refine lv_bipush (v := nI 8) hx hb d_Cx_nextOfCountedStream_41 (by decide +kernel) ?_
    refine lv_irem hx hb d_Cx_nextOfCountedStream_43 (by decide +kernel) ?_
    refine lv_topi (fun x128 _ => ?_)
    obtain ⟨o130, y131, y132, y133, x134, x135, ho136, he129⟩ := rd_C0 hSh hj
    have hg := hSh.2.2.2.2.1 j hj
    refine aw_put (v := .int x128) (ty := .int) (C := R_Cx) (T := T_Cx) (N := 10) hx hb hG in_Cx t_Cx t_Cx_ok n_Cx hown hK hP hD hS (3 + 16 * j + 0) he129 rfl 8 (by decide) (hG _ gw_2_5) (fun _ h => h) rfl (by decide +kernel) rfl rfl (Nat.le_of_ble_eq_true rfl) d_Cx_nextOfCountedStream_44 (wr_C0 hSh hj o130 y131 y132 y133 x128 x135 ho136) (fun H locs L hP hD hSh hS => ?_)
    refine lv_aload_n hx hb d_Cx_nextOfCountedStream_47 rfl (lv_at hl 1 rfl) ?_
    obtain ⟨o138, y139, y140, y141, x142, x143, ho144, he137⟩ := rd_C0 hSh hj
    have hg := hSh.2.2.2.2.1 j hj
    refine va_get (C := R_Cx) (T := T_Cx) (N := 10) (v := .int x142) hx hb hG in_Cx hown hK hP (3 + 16 * j + 0) he137 rfl 8 (by decide) (hG _ gw_2_5) (fun _ h => h) rfl d_Cx_nextOfCountedStream_48 ?_
    refine lv_if_ne (tgt := 64) hx hb d_Cx_nextOfCountedStream_51 (by decide) (fun hb145 => ?_) (fun hb145 => ?_)
    · refine lv_iload_n hx hb d_Cx_nextOfCountedStream_64 rfl (lv_at hl 0 rfl) ?_
      exact W.iret hx hb hr (fun t ht hW => ⟨⟨_, (), rfl, trivial, aw_Hr ht hP hD hSh⟩, hS.F ht⟩) hS.2.2 d_Cx_nextOfCountedStream_65
    · refine lv_aload_n hx hb d_Cx_nextOfCountedStream_54 rfl (lv_at hl 1 rfl) ?_
      refine lv_dup hx hb d_Cx_nextOfCountedStream_55 rfl ?_
      obtain ⟨o147, y148, y149, y150, x151, x152, ho153, he146⟩ := rd_C0 hSh hj
      have hg := hSh.2.2.2.2.1 j hj
      refine va_get (C := R_Cx) (T := T_Cx) (N := 10) (v := .long y149) hx hb hG in_Cx hown hK hP (3 + 16 * j + 0) he146 rfl 6 (by decide) (hG _ gw_2_3) (fun _ h => h) rfl d_Cx_nextOfCountedStream_56 ?_
      refine lv_lconst (v := 1) hx hb d_Cx_nextOfCountedStream_59 (by decide +kernel) ?_
      refine lv_ladd hx hb d_Cx_nextOfCountedStream_60 ?_
      refine lv_topl (fun y154 _ => ?_)
      obtain ⟨o156, y157, y158, y159, x160, x161, ho162, he155⟩ := rd_C0 hSh hj
      have hg := hSh.2.2.2.2.1 j hj
      refine aw_put (v := .long y154) (ty := .long) (C := R_Cx) (T := T_Cx) (N := 10) hx hb hG in_Cx t_Cx t_Cx_ok n_Cx hown hK hP hD hS (3 + 16 * j + 0) he155 rfl 6 (by decide) (hG _ gw_2_3) (fun _ h => h) rfl (by decide +kernel) rfl rfl (Nat.le_of_ble_eq_true rfl) d_Cx_nextOfCountedStream_61 (wr_C0 hSh hj o156 y157 y154 y159 x160 x161 ho162) (fun H locs L hP hD hSh hS => ?_)
      refine lv_iload_n hx hb d_Cx_nextOfCountedStream_64 rfl (lv_at hl 0 rfl) ?_
      exact W.iret hx hb hr (fun t ht hW => ⟨⟨_, (), rfl, trivial, aw_Hr ht hP hD hSh⟩, hS.F ht⟩) hS.2.2 d_Cx_nextOfCountedStream_65
abbrev ws_Cx_feedStep1 : List Cond := Cond.code y_Cx_feedStep b_Cx_feedStep 4 none :: aw_G
abbrev rm_Cx_feedStep1 : Room := { frames := 4, cells := 0, slots := 0, locals := 104 }
set_option maxHeartbeats 4000000 in
set_option maxRecDepth 100000 in
theorem k_Cx_feedStep1 (l : Launch) (D : va_G) (g : Nat → ClassId) (ad : Nat → Nat) (G M : Nat → Nat × Nat) (F : Int32) (N0 : Nat) (j : Nat) (bk : Int32) (k : Nat) (hj : j < 4) (hm : (G j).2 ≤ 1) (hk : k ≤ 56) : Met l y_Cx_feedStep ws_Cx_feedStep1 rm_Cx_feedStep1 (va_Pc ([.ref (aw_c ad j 0), .int bk, .ref (aw_r ad 2), .int (nI k)] : List Value) (aw_B D g ad G M F N0)) (va_Qv (fun (_ : Unit) => True) (fun (_ : Unit) t => aw_H D g ad G M F N0 t.heap) (aw_Z N0)) 0 0 (aw_Z N0) := by
  refine Met.ofW (cc := b_Cx_feedStep) (maxL := 4) (ret := none) (by decide) rfl ?_
  intro p e s m args below meth c s₁ B hml hv
  obtain ⟨rfl, ⟨L, hP, hD, hSh⟩, hU⟩ := hv
  have hx := B.exec
  have hb := B.bytes
  have hr := B.returns
  have hG : ∀ w ∈ aw_G, w.before _ s = true := fun w h => atoms_spec (ws := ws_Cx_feedStep1) B.pre w (List.mem_cons_of_mem _ h)
  have hown : s.vm.findClass "RuleCiphers$Context" = some m.cls := findClass_of_methodNamed B.named
  have hlocks := B.notSynchronized
  have hE := hU.1
  have hK := hE.1
  have hN := hE.2.1
  have hS : va_S (aw_Z N0) s.heap s.heap [] := va_S.rf
  have hl := lv_entry ([.ref (aw_c ad j 0), .int bk, .ref (aw_r ad 2), .int (nI k)] : List Value) (n := 4) (Nat.le_of_ble_eq_true rfl)
  rw [lg_entry_eq]
  generalize (lg_sl ([.ref (aw_c ad j 0), .int bk, .ref (aw_r ad 2), .int (nI k)] : List Value) ++ List.replicate (4 - (lg_sl ([.ref (aw_c ad j 0), .int bk, .ref (aw_r ad 2), .int (nI k)] : List Value)).length) Slot.unset).toArray = ls at hl ⊢
  have hl : lv_has ls 4 [(0, .ref (aw_c ad j 0)), (1, .int bk), (2, .ref (aw_r ad 2)), (3, .int (nI k))] := hl
  refine lv_aload_n hx hb d_Cx_feedStep_0 rfl (lv_at hl 0 rfl) ?_
  obtain ⟨o2, y3, y4, y5, x6, x7, ho8, he1⟩ := rd_C0 hSh hj
  have hg := hSh.2.2.2.2.1 j hj
  refine va_get (C := R_Cx) (T := T_Cx) (N := 10) (v := .int (nI ((G j).2))) hx hb hG in_Cx hown hK hP (3 + 16 * j + 0) he1 rfl 3 (by decide) (hG _ gw_1_58) (fun _ h => h) rfl d_Cx_feedStep_1 ?_
  rcases (by omega : (G j).2 = 0 ∨ (G j).2 = 1) with hs9 | hs9
  · refine aw_ti (y := nI 0) (by rw [hs9]) ?_
    refine lv_tableIn (tgt := 36) (off := 32) hx hb d_Cx_feedStep_4 (by decide +kernel) (by decide +kernel) (by decide +kernel) (by decide) ?_
    refine lv_aload_n hx hb d_Cx_feedStep_36 rfl (lv_at hl 2 rfl) ?_
    refine lv_iload_n hx hb d_Cx_feedStep_37 rfl (lv_at hl 3 rfl) ?_
    refine lv_aload_n hx hb d_Cx_feedStep_38 rfl (lv_at hl 0 rfl) ?_
    obtain ⟨o11, y12, y13, y14, x15, x16, ho17, he10⟩ := rd_C0 hSh hj
    have hg := hSh.2.2.2.2.1 j hj
    refine va_get (C := R_Cx) (T := T_Cx) (N := 10) (v := .ref (aw_c ad j o11)) hx hb hG in_Cx hown hK hP (3 + 16 * j + 0) he10 rfl 4 (by decide) (hG _ gw_2_0) (fun _ h => h) rfl d_Cx_feedStep_39 ?_
    refine lv_iload_n hx hb d_Cx_feedStep_42 rfl (lv_at hl 1 rfl) ?_
    refine lv_aload_n hx hb d_Cx_feedStep_43 rfl (lv_at hl 2 rfl) ?_
    refine lv_iload_n hx hb d_Cx_feedStep_44 rfl (lv_at hl 3 rfl) ?_
    refine va_calll (va_runSN (As := [.ref (aw_r ad 2), .int (nI k)]) (rest := [.int bk, .ref (aw_c ad j o11), .int (nI k), .ref (aw_r ad 2)]) ⟨hx, hb, hml, hown, hG⟩ (k_Ru_readBlock l D g ad G M F N0 k hk) (aw_wSN 2 hG hN gw_8_3 nw_37 gw_0_1 gw_8_2 rfl rfl hd_Ru_readBlock ⟨Nat.le_of_ble_eq_true rfl, Nat.le_of_ble_eq_true rfl⟩) (aw_qS hP hD hSh hU hS) rfl rfl hl.1 rfl (lv_room (Nat.le_of_ble_eq_true rfl)) d_Cx_feedStep_45 ⟨Nat.le_of_ble_eq_true rfl, Nat.le_of_ble_eq_true rfl⟩) hS (fun _ _ h => h) (fun _ h => h) (fun y18 u8 t8 H locs ht _ _ hB _ _ hS => ?_)
    obtain ⟨L, hP, hD, hSh⟩ := hB
    rw [ht] at hP
    clear ht
    have hrun19 : va_Run p l e (headSpec ws_Cx_feedStep1 rm_Cx_feedStep1).room s m ([.ref (aw_c ad j 0), .int bk, .ref (aw_r ad 2), .int (nI k)] : List Value).toArray below meth c H locs 0 0 0 0 (F0 m 48 ls [.long y18, .int bk, .ref (aw_c ad j o11), .int (nI k), .ref (aw_r ad 2)]) [.int (nI k), .ref (aw_r ad 2)] (va_Ql (fun r (_ : Unit) => True) (fun (_ : Unit) t => aw_H D g ad G M F N0 t.heap) (aw_Z N0) ([.ref (aw_c ad j o11), .int bk, .long y18] : List Value).toArray) (aw_Z N0) := by
      rcases ho17 with rfl | rfl | rfl | rfl | rfl
      · have he20 := rd_C2 hSh hj
        exact va_runU (As := [.int bk, .long y18]) (rest := [.int (nI k), .ref (aw_r ad 2)]) ⟨hx, hb, hml, hown, hG⟩ (k_Ci_onOrBack l D g ad G M F N0 j 2 bk y18 hj (by unfold aw_cof; omega)) (aw_wU (owner := "RuleCiphers$Cipher") 2 hG gw_6_8 gw_8_4 gw_6_2 gw_6_4 gw_6_1 gw_0_3 rfl rfl rfl hd_Ci_onOrBack ⟨Nat.le_of_ble_eq_true rfl, Nat.le_of_ble_eq_true rfl⟩) (aw_qV (va_recv hK hP rfl he20) hP hD hSh hU hS) rfl rfl hl.1 rfl (lv_room (Nat.le_of_ble_eq_true rfl)) d_Cx_feedStep_48 ⟨Nat.le_of_ble_eq_true rfl, Nat.le_of_ble_eq_true rfl⟩
      · have he21 := rd_C5 hSh hj
        exact va_runU (As := [.int bk, .long y18]) (rest := [.int (nI k), .ref (aw_r ad 2)]) ⟨hx, hb, hml, hown, hG⟩ (k_Ci_onOrBack l D g ad G M F N0 j 5 bk y18 hj (by unfold aw_cof; omega)) (aw_wU (owner := "RuleCiphers$Cipher") 2 hG gw_6_8 gw_8_4 gw_6_2 gw_6_7 gw_6_1 gw_0_3 rfl rfl rfl hd_Ci_onOrBack ⟨Nat.le_of_ble_eq_true rfl, Nat.le_of_ble_eq_true rfl⟩) (aw_qV (va_recv hK hP rfl he21) hP hD hSh hU hS) rfl rfl hl.1 rfl (lv_room (Nat.le_of_ble_eq_true rfl)) d_Cx_feedStep_48 ⟨Nat.le_of_ble_eq_true rfl, Nat.le_of_ble_eq_true rfl⟩
      · have he22 := rd_C7 hSh hj
        exact va_runU (As := [.int bk, .long y18]) (rest := [.int (nI k), .ref (aw_r ad 2)]) ⟨hx, hb, hml, hown, hG⟩ (k_Ci_onOrBack l D g ad G M F N0 j 7 bk y18 hj (by unfold aw_cof; omega)) (aw_wU (owner := "RuleCiphers$Cipher") 2 hG gw_6_8 gw_8_4 gw_6_2 gw_6_6 gw_6_1 gw_0_3 rfl rfl rfl hd_Ci_onOrBack ⟨Nat.le_of_ble_eq_true rfl, Nat.le_of_ble_eq_true rfl⟩) (aw_qV (va_recv hK hP rfl he22) hP hD hSh hU hS) rfl rfl hl.1 rfl (lv_room (Nat.le_of_ble_eq_true rfl)) d_Cx_feedStep_48 ⟨Nat.le_of_ble_eq_true rfl, Nat.le_of_ble_eq_true rfl⟩
      · have he23 := rd_C10 hSh hj
        exact va_runU (As := [.int bk, .long y18]) (rest := [.int (nI k), .ref (aw_r ad 2)]) ⟨hx, hb, hml, hown, hG⟩ (k_Ci_onOrBack l D g ad G M F N0 j 10 bk y18 hj (by unfold aw_cof; omega)) (aw_wU (owner := "RuleCiphers$Cipher") 2 hG gw_6_8 gw_8_4 gw_6_2 gw_6_5 gw_6_1 gw_0_3 rfl rfl rfl hd_Ci_onOrBack ⟨Nat.le_of_ble_eq_true rfl, Nat.le_of_ble_eq_true rfl⟩) (aw_qV (va_recv hK hP rfl he23) hP hD hSh hU hS) rfl rfl hl.1 rfl (lv_room (Nat.le_of_ble_eq_true rfl)) d_Cx_feedStep_48 ⟨Nat.le_of_ble_eq_true rfl, Nat.le_of_ble_eq_true rfl⟩
      · have he24 := rd_C12 hSh hj
        exact va_runU (As := [.int bk, .long y18]) (rest := [.int (nI k), .ref (aw_r ad 2)]) ⟨hx, hb, hml, hown, hG⟩ (k_Ci_onOrBack l D g ad G M F N0 j 12 bk y18 hj (by unfold aw_cof; omega)) (aw_wU (owner := "RuleCiphers$Cipher") 2 hG gw_6_8 gw_8_4 gw_6_2 gw_6_3 gw_6_1 gw_0_3 rfl rfl rfl hd_Ci_onOrBack ⟨Nat.le_of_ble_eq_true rfl, Nat.le_of_ble_eq_true rfl⟩) (aw_qV (va_recv hK hP rfl he24) hP hD hSh hU hS) rfl rfl hl.1 rfl (lv_room (Nat.le_of_ble_eq_true rfl)) d_Cx_feedStep_48 ⟨Nat.le_of_ble_eq_true rfl, Nat.le_of_ble_eq_true rfl⟩
    refine va_calll hrun19 hS (fun _ _ h => h) (fun _ h => h) (fun y25 u8 t8 H locs ht _ _ hB _ _ hS => ?_)
    obtain ⟨L, hP, hD, hSh⟩ := hB
    rw [ht] at hP
    clear ht
    refine va_callv (va_runSN (As := [.ref (aw_r ad 2), .int (nI k), .long y25]) (rest := []) ⟨hx, hb, hml, hown, hG⟩ (k_Ru_writeBlock l D g ad G M F N0 k y25 hk) (aw_wSN 3 hG hN gw_8_6 nw_38 gw_0_1 gw_8_5 rfl rfl hd_Ru_writeBlock ⟨Nat.le_of_ble_eq_true rfl, Nat.le_of_ble_eq_true rfl⟩) (aw_qS hP hD hSh hU hS) rfl rfl hl.1 rfl (lv_room (Nat.le_of_ble_eq_true rfl)) d_Cx_feedStep_51 ⟨Nat.le_of_ble_eq_true rfl, Nat.le_of_ble_eq_true rfl⟩) hS (fun _ _ h => h) (fun _ h => h) (fun u8 t8 H locs ht _ _ hB _ _ hS => ?_)
    obtain ⟨L, hP, hD, hSh⟩ := hB
    rw [ht] at hP
    clear ht
    refine lv_goto (tgt := 112) hx hb d_Cx_feedStep_54 (by decide) ?_
    exact W.vret hx hb hr (fun t ht hW => ⟨⟨(), rfl, trivial, aw_Hr ht hP hD hSh⟩, hS.F ht⟩) hS.2.2 d_Cx_feedStep_112
  · refine aw_ti (y := nI 1) (by rw [hs9]) ?_
    refine lv_tableIn (tgt := 57) (off := 53) hx hb d_Cx_feedStep_4 (by decide +kernel) (by decide +kernel) (by decide +kernel) (by decide) ?_
    refine lv_aload_n hx hb d_Cx_feedStep_57 rfl (lv_at hl 2 rfl) ?_
    refine lv_iload_n hx hb d_Cx_feedStep_58 rfl (lv_at hl 3 rfl) ?_
    refine lv_aload_n hx hb d_Cx_feedStep_59 rfl (lv_at hl 0 rfl) ?_
    refine lv_iload_n hx hb d_Cx_feedStep_60 rfl (lv_at hl 1 rfl) ?_
    refine lv_aload_n hx hb d_Cx_feedStep_61 rfl (lv_at hl 2 rfl) ?_
    refine lv_iload_n hx hb d_Cx_feedStep_62 rfl (lv_at hl 3 rfl) ?_
    refine va_calll (va_runSN (As := [.ref (aw_r ad 2), .int (nI k)]) (rest := [.int bk, .ref (aw_c ad j 0), .int (nI k), .ref (aw_r ad 2)]) ⟨hx, hb, hml, hown, hG⟩ (k_Ru_readBlock l D g ad G M F N0 k hk) (aw_wSN 2 hG hN gw_8_3 nw_37 gw_0_1 gw_8_2 rfl rfl hd_Ru_readBlock ⟨Nat.le_of_ble_eq_true rfl, Nat.le_of_ble_eq_true rfl⟩) (aw_qS hP hD hSh hU hS) rfl rfl hl.1 rfl (lv_room (Nat.le_of_ble_eq_true rfl)) d_Cx_feedStep_63 ⟨Nat.le_of_ble_eq_true rfl, Nat.le_of_ble_eq_true rfl⟩) hS (fun _ _ h => h) (fun _ h => h) (fun y26 u8 t8 H locs ht _ _ hB _ _ hS => ?_)
    obtain ⟨L, hP, hD, hSh⟩ := hB
    rw [ht] at hP
    clear ht
    obtain ⟨_, _, _, _, _, _, _, he27⟩ := rd_C0 hSh hj
    refine va_calll (va_runV (As := [.int bk, .long y26]) (rest := [.int (nI k), .ref (aw_r ad 2)]) ⟨hx, hb, hml, hown, hG⟩ (k_Cx_chained l D g ad G M F N0 j bk y26 hj) (aw_wV 2 hG gw_8_12 gw_8_10 gw_0_2 gw_8_11 gw_p_4 rfl rfl hd_Cx_chained ⟨Nat.le_of_ble_eq_true rfl, Nat.le_of_ble_eq_true rfl⟩) (aw_qV (va_recv hK hP rfl he27) hP hD hSh hU hS) rfl rfl hl.1 rfl (lv_room (Nat.le_of_ble_eq_true rfl)) d_Cx_feedStep_66 ⟨Nat.le_of_ble_eq_true rfl, Nat.le_of_ble_eq_true rfl⟩) hS (fun _ _ h => h) (fun _ h => h) (fun y28 u8 t8 H locs ht _ _ hB _ _ hS => ?_)
    obtain ⟨L, hP, hD, hSh⟩ := hB
    rw [ht] at hP
    clear ht
    refine va_callv (va_runSN (As := [.ref (aw_r ad 2), .int (nI k), .long y28]) (rest := []) ⟨hx, hb, hml, hown, hG⟩ (k_Ru_writeBlock l D g ad G M F N0 k y28 hk) (aw_wSN 3 hG hN gw_8_6 nw_38 gw_0_1 gw_8_5 rfl rfl hd_Ru_writeBlock ⟨Nat.le_of_ble_eq_true rfl, Nat.le_of_ble_eq_true rfl⟩) (aw_qS hP hD hSh hU hS) rfl rfl hl.1 rfl (lv_room (Nat.le_of_ble_eq_true rfl)) d_Cx_feedStep_69 ⟨Nat.le_of_ble_eq_true rfl, Nat.le_of_ble_eq_true rfl⟩) hS (fun _ _ h => h) (fun _ h => h) (fun u8 t8 H locs ht _ _ hB _ _ hS => ?_)
    obtain ⟨L, hP, hD, hSh⟩ := hB
    rw [ht] at hP
    clear ht
    refine lv_goto (tgt := 112) hx hb d_Cx_feedStep_72 (by decide) ?_
    exact W.vret hx hb hr (fun t ht hW => ⟨⟨(), rfl, trivial, aw_Hr ht hP hD hSh⟩, hS.F ht⟩) hS.2.2 d_Cx_feedStep_112
abbrev ws_Cx_feedStep0 : List Cond := Cond.code y_Cx_feedStep b_Cx_feedStep 4 none :: aw_G
abbrev rm_Cx_feedStep0 : Room := { frames := 4, cells := 0, slots := 0, locals := 102 }
set_option maxHeartbeats 4000000 in
set_option maxRecDepth 100000 in
theorem k_Cx_feedStep0 (l : Launch) (D : va_G) (g : Nat → ClassId) (ad : Nat → Nat) (G M : Nat → Nat × Nat) (F : Int32) (N0 : Nat) (j : Nat) (bk : Int32) (k : Nat) (hj : j < 4) (hm : 2 ≤ (G j).2) (hk : k ≤ 63) : Met l y_Cx_feedStep ws_Cx_feedStep0 rm_Cx_feedStep0 (va_Pc ([.ref (aw_c ad j 0), .int bk, .ref (aw_r ad 2), .int (nI k)] : List Value) (aw_B D g ad G M F N0)) (va_Qv (fun (_ : Unit) => True) (fun (_ : Unit) t => aw_H D g ad G M F N0 t.heap) (aw_Z N0)) 0 0 (aw_Z N0) := by
  refine Met.ofW (cc := b_Cx_feedStep) (maxL := 4) (ret := none) (by decide) rfl ?_
  intro p e s m args below meth c s₁ B hml hv
  obtain ⟨rfl, ⟨L, hP, hD, hSh⟩, hU⟩ := hv
  have hx := B.exec
  have hb := B.bytes
  have hr := B.returns
  have hG : ∀ w ∈ aw_G, w.before _ s = true := fun w h => atoms_spec (ws := ws_Cx_feedStep0) B.pre w (List.mem_cons_of_mem _ h)
  have hown : s.vm.findClass "RuleCiphers$Context" = some m.cls := findClass_of_methodNamed B.named
  have hlocks := B.notSynchronized
  have hE := hU.1
  have hK := hE.1
  have hN := hE.2.1
  have hS : va_S (aw_Z N0) s.heap s.heap [] := va_S.rf
  have hl := lv_entry ([.ref (aw_c ad j 0), .int bk, .ref (aw_r ad 2), .int (nI k)] : List Value) (n := 4) (Nat.le_of_ble_eq_true rfl)
  rw [lg_entry_eq]
  generalize (lg_sl ([.ref (aw_c ad j 0), .int bk, .ref (aw_r ad 2), .int (nI k)] : List Value) ++ List.replicate (4 - (lg_sl ([.ref (aw_c ad j 0), .int bk, .ref (aw_r ad 2), .int (nI k)] : List Value)).length) Slot.unset).toArray = ls at hl ⊢
  have hl : lv_has ls 4 [(0, .ref (aw_c ad j 0)), (1, .int bk), (2, .ref (aw_r ad 2)), (3, .int (nI k))] := hl
  refine lv_aload_n hx hb d_Cx_feedStep_0 rfl (lv_at hl 0 rfl) ?_
  obtain ⟨o2, y3, y4, y5, x6, x7, ho8, he1⟩ := rd_C0 hSh hj
  have hg := hSh.2.2.2.2.1 j hj
  refine va_get (C := R_Cx) (T := T_Cx) (N := 10) (v := .int (nI ((G j).2))) hx hb hG in_Cx hown hK hP (3 + 16 * j + 0) he1 rfl 3 (by decide) (hG _ gw_1_58) (fun _ h => h) rfl d_Cx_feedStep_1 ?_
  rcases (by omega : (G j).2 = 2 ∨ (G j).2 = 3 ∨ (G j).2 = 4 ∨ (G j).2 = 5) with hs9 | hs9 | hs9 | hs9
  · refine aw_ti (y := nI 2) (by rw [hs9]) ?_
    refine lv_tableIn (tgt := 75) (off := 71) hx hb d_Cx_feedStep_4 (by decide +kernel) (by decide +kernel) (by decide +kernel) (by decide) ?_
    refine lv_aload_n hx hb d_Cx_feedStep_75 rfl (lv_at hl 2 rfl) ?_
    refine lv_iload_n hx hb d_Cx_feedStep_76 rfl (lv_at hl 3 rfl) ?_
    refine lv_aload_n hx hb d_Cx_feedStep_77 rfl (lv_at hl 0 rfl) ?_
    refine lv_iload_n hx hb d_Cx_feedStep_78 rfl (lv_at hl 1 rfl) ?_
    refine lv_aload_n hx hb d_Cx_feedStep_79 rfl (lv_at hl 2 rfl) ?_
    refine lv_iload_n hx hb d_Cx_feedStep_80 rfl (lv_at hl 3 rfl) ?_
    obtain ⟨f11, he10⟩ := rd_R2 hSh
    refine aw_ild hx hb hK hP 2 0 he10 rfl (k := k) (by omega) (by decide) d_Cx_feedStep_81 ?_
    refine lv_topi (fun x12 _ => ?_)
    obtain ⟨_, _, _, _, _, _, _, he13⟩ := rd_C0 hSh hj
    refine va_calli (va_runV (As := [.int bk, .int x12]) (rest := [.int (nI k), .ref (aw_r ad 2)]) ⟨hx, hb, hml, hown, hG⟩ (k_Cx_fedBehind l D g ad G M F N0 j bk x12 hj) (aw_wV 2 hG gw_8_17 gw_8_15 gw_0_2 gw_8_16 gw_p_5 rfl rfl hd_Cx_fedBehind ⟨Nat.le_of_ble_eq_true rfl, Nat.le_of_ble_eq_true rfl⟩) (aw_qV (va_recv hK hP rfl he13) hP hD hSh hU hS) rfl rfl hl.1 rfl (lv_room (Nat.le_of_ble_eq_true rfl)) d_Cx_feedStep_82 ⟨Nat.le_of_ble_eq_true rfl, Nat.le_of_ble_eq_true rfl⟩) hS (fun _ _ h => h) (fun _ h => h) (fun x14 u8 t8 H locs ht _ _ hB _ _ hS => ?_)
    obtain ⟨L, hP, hD, hSh⟩ := hB
    rw [ht] at hP
    clear ht
    obtain ⟨f16, he15⟩ := rd_R2 hSh
    refine aw_istI hx hb hK hP hD hS 2 0 he15 rfl (k := k) (by omega) (by decide) d_Cx_feedStep_85 (wr_R2 hSh _) (fun H locs L hP hD hSh hS => ?_)
    refine lv_goto (tgt := 112) hx hb d_Cx_feedStep_86 (by decide) ?_
    exact W.vret hx hb hr (fun t ht hW => ⟨⟨(), rfl, trivial, aw_Hr ht hP hD hSh⟩, hS.F ht⟩) hS.2.2 d_Cx_feedStep_112
  · refine aw_ti (y := nI 3) (by rw [hs9]) ?_
    refine lv_tableIn (tgt := 89) (off := 85) hx hb d_Cx_feedStep_4 (by decide +kernel) (by decide +kernel) (by decide +kernel) (by decide) ?_
    refine lv_aload_n hx hb d_Cx_feedStep_89 rfl (lv_at hl 2 rfl) ?_
    refine lv_iload_n hx hb d_Cx_feedStep_90 rfl (lv_at hl 3 rfl) ?_
    refine lv_dup2_11 hx hb d_Cx_feedStep_91 rfl rfl ?_
    obtain ⟨f18, he17⟩ := rd_R2 hSh
    refine aw_ild hx hb hK hP 2 0 he17 rfl (k := k) (by omega) (by decide) d_Cx_feedStep_92 ?_
    refine lv_topi (fun x19 _ => ?_)
    refine lv_aload_n hx hb d_Cx_feedStep_93 rfl (lv_at hl 0 rfl) ?_
    obtain ⟨_, _, _, _, _, _, _, he20⟩ := rd_C0 hSh hj
    refine va_calli (va_runV (As := []) (rest := [.int x19, .int (nI k), .ref (aw_r ad 2)]) ⟨hx, hb, hml, hown, hG⟩ (k_Cx_nextOfOwnStream l D g ad G M F N0 j hj) (aw_wV 0 hG gw_8_20 gw_8_18 gw_0_2 gw_8_19 gw_p_6 rfl rfl hd_Cx_nextOfOwnStream ⟨Nat.le_of_ble_eq_true rfl, Nat.le_of_ble_eq_true rfl⟩) (aw_qV (va_recv hK hP rfl he20) hP hD hSh hU hS) rfl rfl hl.1 rfl (lv_room (Nat.le_of_ble_eq_true rfl)) d_Cx_feedStep_94 ⟨Nat.le_of_ble_eq_true rfl, Nat.le_of_ble_eq_true rfl⟩) hS (fun _ _ h => h) (fun _ h => h) (fun x21 u8 t8 H locs ht _ _ hB _ _ hS => ?_)
    obtain ⟨L, hP, hD, hSh⟩ := hB
    rw [ht] at hP
    clear ht
    refine lv_ixor hx hb d_Cx_feedStep_97 ?_
    refine lv_topi (fun x22 _ => ?_)
    obtain ⟨f24, he23⟩ := rd_R2 hSh
    refine aw_istI hx hb hK hP hD hS 2 0 he23 rfl (k := k) (by omega) (by decide) d_Cx_feedStep_98 (wr_R2 hSh _) (fun H locs L hP hD hSh hS => ?_)
    refine lv_goto (tgt := 112) hx hb d_Cx_feedStep_99 (by decide) ?_
    exact W.vret hx hb hr (fun t ht hW => ⟨⟨(), rfl, trivial, aw_Hr ht hP hD hSh⟩, hS.F ht⟩) hS.2.2 d_Cx_feedStep_112
  · refine aw_ti (y := nI 4) (by rw [hs9]) ?_
    refine lv_tableOut (tgt := 102) hx hb d_Cx_feedStep_4 (by decide +kernel) (by decide) ?_
    refine lv_aload_n hx hb d_Cx_feedStep_102 rfl (lv_at hl 2 rfl) ?_
    refine lv_iload_n hx hb d_Cx_feedStep_103 rfl (lv_at hl 3 rfl) ?_
    refine lv_dup2_11 hx hb d_Cx_feedStep_104 rfl rfl ?_
    obtain ⟨f26, he25⟩ := rd_R2 hSh
    refine aw_ild hx hb hK hP 2 0 he25 rfl (k := k) (by omega) (by decide) d_Cx_feedStep_105 ?_
    refine lv_topi (fun x27 _ => ?_)
    refine lv_aload_n hx hb d_Cx_feedStep_106 rfl (lv_at hl 0 rfl) ?_
    obtain ⟨_, _, _, _, _, _, _, he28⟩ := rd_C0 hSh hj
    refine va_calli (va_runV (As := []) (rest := [.int x27, .int (nI k), .ref (aw_r ad 2)]) ⟨hx, hb, hml, hown, hG⟩ (k_Cx_nextOfCountedStream l D g ad G M F N0 j hj) (aw_wV 0 hG gw_8_23 gw_8_21 gw_0_2 gw_8_22 gw_p_7 rfl rfl hd_Cx_nextOfCountedStream ⟨Nat.le_of_ble_eq_true rfl, Nat.le_of_ble_eq_true rfl⟩) (aw_qV (va_recv hK hP rfl he28) hP hD hSh hU hS) rfl rfl hl.1 rfl (lv_room (Nat.le_of_ble_eq_true rfl)) d_Cx_feedStep_107 ⟨Nat.le_of_ble_eq_true rfl, Nat.le_of_ble_eq_true rfl⟩) hS (fun _ _ h => h) (fun _ h => h) (fun x29 u8 t8 H locs ht _ _ hB _ _ hS => ?_)
    obtain ⟨L, hP, hD, hSh⟩ := hB
    rw [ht] at hP
    clear ht
    refine lv_ixor hx hb d_Cx_feedStep_110 ?_
    refine lv_topi (fun x30 _ => ?_)
    obtain ⟨f32, he31⟩ := rd_R2 hSh
    refine aw_istI hx hb hK hP hD hS 2 0 he31 rfl (k := k) (by omega) (by decide) d_Cx_feedStep_111 (wr_R2 hSh _) (fun H locs L hP hD hSh hS => ?_)
    exact W.vret hx hb hr (fun t ht hW => ⟨⟨(), rfl, trivial, aw_Hr ht hP hD hSh⟩, hS.F ht⟩) hS.2.2 d_Cx_feedStep_112
  · refine aw_ti (y := nI 5) (by rw [hs9]) ?_
    refine lv_tableOut (tgt := 102) hx hb d_Cx_feedStep_4 (by decide +kernel) (by decide) ?_
    refine lv_aload_n hx hb d_Cx_feedStep_102 rfl (lv_at hl 2 rfl) ?_
    refine lv_iload_n hx hb d_Cx_feedStep_103 rfl (lv_at hl 3 rfl) ?_
    refine lv_dup2_11 hx hb d_Cx_feedStep_104 rfl rfl ?_
    obtain ⟨f34, he33⟩ := rd_R2 hSh
    refine aw_ild hx hb hK hP 2 0 he33 rfl (k := k) (by omega) (by decide) d_Cx_feedStep_105 ?_
    refine lv_topi (fun x35 _ => ?_)
    refine lv_aload_n hx hb d_Cx_feedStep_106 rfl (lv_at hl 0 rfl) ?_
    obtain ⟨_, _, _, _, _, _, _, he36⟩ := rd_C0 hSh hj
    refine va_calli (va_runV (As := []) (rest := [.int x35, .int (nI k), .ref (aw_r ad 2)]) ⟨hx, hb, hml, hown, hG⟩ (k_Cx_nextOfCountedStream l D g ad G M F N0 j hj) (aw_wV 0 hG gw_8_23 gw_8_21 gw_0_2 gw_8_22 gw_p_7 rfl rfl hd_Cx_nextOfCountedStream ⟨Nat.le_of_ble_eq_true rfl, Nat.le_of_ble_eq_true rfl⟩) (aw_qV (va_recv hK hP rfl he36) hP hD hSh hU hS) rfl rfl hl.1 rfl (lv_room (Nat.le_of_ble_eq_true rfl)) d_Cx_feedStep_107 ⟨Nat.le_of_ble_eq_true rfl, Nat.le_of_ble_eq_true rfl⟩) hS (fun _ _ h => h) (fun _ h => h) (fun x37 u8 t8 H locs ht _ _ hB _ _ hS => ?_)
    obtain ⟨L, hP, hD, hSh⟩ := hB
    rw [ht] at hP
    clear ht
    refine lv_ixor hx hb d_Cx_feedStep_110 ?_
    refine lv_topi (fun x38 _ => ?_)
    obtain ⟨f40, he39⟩ := rd_R2 hSh
    refine aw_istI hx hb hK hP hD hS 2 0 he39 rfl (k := k) (by omega) (by decide) d_Cx_feedStep_111 (wr_R2 hSh _) (fun H locs L hP hD hSh hS => ?_)
    exact W.vret hx hb hr (fun t ht hW => ⟨⟨(), rfl, trivial, aw_Hr ht hP hD hSh⟩, hS.F ht⟩) hS.2.2 d_Cx_feedStep_112
