abbrev ws_Mo_turn : List Cond := Cond.code y_Mo_turn b_Mo_turn 3 (some .int) :: aw_G
abbrev rm_Mo_turn : Room := { frames := 0, cells := 0, slots := 0, locals := 0 }
set_option maxHeartbeats 4000000 in
set_option maxRecDepth 100000 in
theorem k_Mo_turn (l : Launch) (a0 : Int32) (a1 : Int32) : Met l y_Mo_turn ws_Mo_turn rm_Mo_turn (va_Pc ([.int a0, .int a1] : List Value) (fun _ => True)) (aw_RI (fun r => True)) 0 0 (fun _ => False) := by
  refine Met.ofW (cc := b_Mo_turn) (maxL := 3) (ret := (some .int)) (by decide) rfl ?_
  intro p e s m args below meth c s₁ B hml hv
  obtain ⟨rfl, -⟩ := hv
  have hx := B.exec
  have hb := B.bytes
  have hr := B.returns
  have hG : ∀ w ∈ aw_G, w.before _ s = true := fun w h => atoms_spec (ws := ws_Mo_turn) B.pre w (List.mem_cons_of_mem _ h)
  have hown : s.vm.findClass "RuleCiphersModel" = some m.cls := findClass_of_methodNamed B.named
  have hlocks := B.notSynchronized
  have hl := lv_entry ([.int a0, .int a1] : List Value) (n := 3) (Nat.le_of_ble_eq_true rfl)
  rw [lg_entry_eq]
  generalize (lg_sl ([.int a0, .int a1] : List Value) ++ List.replicate (3 - (lg_sl ([.int a0, .int a1] : List Value)).length) Slot.unset).toArray = ls at hl ⊢
  have hl : lv_has ls 3 [(0, .int a0), (1, .int a1)] := hl
  refine lv_iload_n hx hb d_Mo_turn_0 rfl (lv_at hl 1 rfl) ?_
  refine lv_bipush (v := nI 31) hx hb d_Mo_turn_1 (by decide +kernel) ?_
  refine lv_iand hx hb d_Mo_turn_3 ?_
  obtain ⟨k1, hk1, ek1⟩ := pk_andE a1 (m := nI 31) 5 (by decide +kernel)
  refine aw_ti ek1 ?_
  refine lv_istore_n hx hb d_Mo_turn_4 rfl hl (by decide) rfl (fun ls hl => ?_)
  have hl : lv_has ls 3 [(2, .int (nI k1)), (0, .int a0), (1, .int a1)] := hl
  refine lv_iload_n hx hb d_Mo_turn_5 rfl (lv_at hl 0 rfl) ?_
  refine lv_if_ne (tgt := 13) hx hb d_Mo_turn_6 (by decide) (fun hb2 => ?_) (fun hb2 => ?_)
  · have hb2 : ¬ k1 = 0 := fun z => absurd ((nI_eq (by omega) (by omega)).mpr z) (show ¬ nI k1 = nI 0 from hb2)
    refine lv_iload_n hx hb d_Mo_turn_13 rfl (lv_at hl 1 rfl) ?_
    refine lv_iload_n hx hb d_Mo_turn_14 rfl (lv_at hl 0 rfl) ?_
    refine lv_ishl hx hb d_Mo_turn_15 ?_
    refine lv_topi (fun x3 _ => ?_)
    refine lv_iload_n hx hb d_Mo_turn_16 rfl (lv_at hl 1 rfl) ?_
    refine lv_bipush (v := nI 32) hx hb d_Mo_turn_17 (by decide +kernel) ?_
    refine lv_iload_n hx hb d_Mo_turn_19 rfl (lv_at hl 0 rfl) ?_
    refine lv_isub hx hb d_Mo_turn_20 ?_
    refine aw_ti (pk_sub (a := 32) (b := k1) (by omega)) ?_
    refine lv_iushr hx hb d_Mo_turn_21 rfl ?_
    refine lv_topi (fun x4 _ => ?_)
    refine lv_ior hx hb d_Mo_turn_22 ?_
    refine lv_topi (fun x5 _ => ?_)
    exact W.iret hx hb hr (fun t ht hW => ⟨_, trivial, rfl, ht⟩) (fun q h => nomatch h) d_Mo_turn_23
  · have hb2 : k1 = 0 := (nI_eq (by omega) (by omega)).mp (show nI k1 = nI 0 from hb2)
    refine lv_iload_n hx hb d_Mo_turn_9 rfl (lv_at hl 1 rfl) ?_
    refine lv_goto (tgt := 23) hx hb d_Mo_turn_10 (by decide) ?_
    exact W.iret hx hb hr (fun t ht hW => ⟨_, trivial, rfl, ht⟩) (fun q h => nomatch h) d_Mo_turn_23
abbrev ws_Mo_back : List Cond := Cond.code y_Mo_back b_Mo_back 2 (some .int) :: aw_G
abbrev rm_Mo_back : Room := { frames := 1, cells := 0, slots := 0, locals := 22 }
set_option maxHeartbeats 4000000 in
set_option maxRecDepth 100000 in
theorem k_Mo_back (l : Launch) (a0 : Int32) (a1 : Int32) : Met l y_Mo_back ws_Mo_back rm_Mo_back (va_Pc ([.int a0, .int a1] : List Value) (fun _ => True)) (aw_RI (fun r => True)) 0 0 (fun _ => False) := by
  refine Met.ofW (cc := b_Mo_back) (maxL := 2) (ret := (some .int)) (by decide) rfl ?_
  intro p e s m args below meth c s₁ B hml hv
  obtain ⟨rfl, -⟩ := hv
  have hx := B.exec
  have hb := B.bytes
  have hr := B.returns
  have hG : ∀ w ∈ aw_G, w.before _ s = true := fun w h => atoms_spec (ws := ws_Mo_back) B.pre w (List.mem_cons_of_mem _ h)
  have hown : s.vm.findClass "RuleCiphersModel" = some m.cls := findClass_of_methodNamed B.named
  have hlocks := B.notSynchronized
  have hl := lv_entry ([.int a0, .int a1] : List Value) (n := 2) (Nat.le_of_ble_eq_true rfl)
  rw [lg_entry_eq]
  generalize (lg_sl ([.int a0, .int a1] : List Value) ++ List.replicate (2 - (lg_sl ([.int a0, .int a1] : List Value)).length) Slot.unset).toArray = ls at hl ⊢
  have hl : lv_has ls 2 [(0, .int a0), (1, .int a1)] := hl
  refine lv_iload_n hx hb d_Mo_back_0 rfl (lv_at hl 0 rfl) ?_
  refine lv_bipush (v := nI 32) hx hb d_Mo_back_1 (by decide +kernel) ?_
  refine lv_iload_n hx hb d_Mo_back_3 rfl (lv_at hl 1 rfl) ?_
  refine lv_bipush (v := nI 31) hx hb d_Mo_back_4 (by decide +kernel) ?_
  refine lv_iand hx hb d_Mo_back_6 ?_
  obtain ⟨k1, hk1, ek1⟩ := pk_andE a1 (m := nI 31) 5 (by decide +kernel)
  refine aw_ti ek1 ?_
  refine lv_isub hx hb d_Mo_back_7 ?_
  refine aw_ti (pk_sub (a := 32) (b := k1) (by omega)) ?_
  refine aw_ci ((va_runS (As := [.int a0, .int (nI (32 - k1))]) (rest := []) ⟨hx, hb, hml, hown, hG⟩ (k_Mo_turn l a0 (nI (32 - k1))) (aw_wS 2 hG gw_11_24 gw_11_22 gw_0_10 gw_11_23 rfl rfl hd_Mo_turn ⟨Nat.le_of_ble_eq_true rfl, Nat.le_of_ble_eq_true rfl⟩) aw_p0 rfl rfl hl.1 rfl (lv_room (Nat.le_of_ble_eq_true rfl)) d_Mo_back_8 ⟨Nat.le_of_ble_eq_true rfl, Nat.le_of_ble_eq_true rfl⟩).run) (fun x2 hx2 => ?_)
  exact W.iret hx hb hr (fun t ht hW => ⟨_, trivial, rfl, ht⟩) (fun q h => nomatch h) d_Mo_back_11
abbrev ws_Mo_swapped : List Cond := Cond.code y_Mo_swapped b_Mo_swapped 1 (some .int) :: aw_G
abbrev rm_Mo_swapped : Room := { frames := 0, cells := 0, slots := 0, locals := 0 }
set_option maxHeartbeats 4000000 in
set_option maxRecDepth 100000 in
theorem k_Mo_swapped (l : Launch) (a0 : Int32) : Met l y_Mo_swapped ws_Mo_swapped rm_Mo_swapped (va_Pc ([.int a0] : List Value) (fun _ => True)) (aw_RI (fun r => True)) 0 0 (fun _ => False) := by
  refine Met.ofW (cc := b_Mo_swapped) (maxL := 1) (ret := (some .int)) (by decide) rfl ?_
  intro p e s m args below meth c s₁ B hml hv
  obtain ⟨rfl, -⟩ := hv
  have hx := B.exec
  have hb := B.bytes
  have hr := B.returns
  have hG : ∀ w ∈ aw_G, w.before _ s = true := fun w h => atoms_spec (ws := ws_Mo_swapped) B.pre w (List.mem_cons_of_mem _ h)
  have hown : s.vm.findClass "RuleCiphersModel" = some m.cls := findClass_of_methodNamed B.named
  have hlocks := B.notSynchronized
  have hl := lv_entry ([.int a0] : List Value) (n := 1) (Nat.le_of_ble_eq_true rfl)
  rw [lg_entry_eq]
  generalize (lg_sl ([.int a0] : List Value) ++ List.replicate (1 - (lg_sl ([.int a0] : List Value)).length) Slot.unset).toArray = ls at hl ⊢
  have hl : lv_has ls 1 [(0, .int a0)] := hl
  refine lv_iload_n hx hb d_Mo_swapped_0 rfl (lv_at hl 0 rfl) ?_
  refine lv_bipush (v := nI 24) hx hb d_Mo_swapped_1 (by decide +kernel) ?_
  refine lv_ishl hx hb d_Mo_swapped_3 ?_
  refine lv_topi (fun x1 _ => ?_)
  refine lv_iload_n hx hb d_Mo_swapped_4 rfl (lv_at hl 0 rfl) ?_
  refine lv_ldc (v := 65280) hx hb hown (hG _ gw_11_21) d_Mo_swapped_5 ?_
  refine lv_iand hx hb d_Mo_swapped_7 ?_
  refine lv_topi (fun x2 _ => ?_)
  refine lv_bipush (v := nI 8) hx hb d_Mo_swapped_8 (by decide +kernel) ?_
  refine lv_ishl hx hb d_Mo_swapped_10 ?_
  refine lv_topi (fun x3 _ => ?_)
  refine lv_ior hx hb d_Mo_swapped_11 ?_
  refine lv_topi (fun x4 _ => ?_)
  refine lv_iload_n hx hb d_Mo_swapped_12 rfl (lv_at hl 0 rfl) ?_
  refine lv_bipush (v := nI 8) hx hb d_Mo_swapped_13 (by decide +kernel) ?_
  refine lv_iushr hx hb d_Mo_swapped_15 rfl ?_
  refine lv_topi (fun x5 _ => ?_)
  refine lv_ldc (v := 65280) hx hb hown (hG _ gw_11_21) d_Mo_swapped_16 ?_
  refine lv_iand hx hb d_Mo_swapped_18 ?_
  refine lv_topi (fun x6 _ => ?_)
  refine lv_ior hx hb d_Mo_swapped_19 ?_
  refine lv_topi (fun x7 _ => ?_)
  refine lv_iload_n hx hb d_Mo_swapped_20 rfl (lv_at hl 0 rfl) ?_
  refine lv_bipush (v := nI 24) hx hb d_Mo_swapped_21 (by decide +kernel) ?_
  refine lv_iushr hx hb d_Mo_swapped_23 rfl ?_
  refine lv_topi (fun x8 _ => ?_)
  refine lv_ior hx hb d_Mo_swapped_24 ?_
  refine lv_topi (fun x9 _ => ?_)
  exact W.iret hx hb hr (fun t ht hW => ⟨_, trivial, rfl, ht⟩) (fun q h => nomatch h) d_Mo_swapped_25
abbrev ws_Mo_joined : List Cond := Cond.code y_Mo_joined b_Mo_joined 2 (some .long) :: aw_G
abbrev rm_Mo_joined : Room := { frames := 0, cells := 0, slots := 0, locals := 0 }
set_option maxHeartbeats 4000000 in
set_option maxRecDepth 100000 in
theorem k_Mo_joined (l : Launch) (a0 : Int32) (a1 : Int32) : Met l y_Mo_joined ws_Mo_joined rm_Mo_joined (va_Pc ([.int a0, .int a1] : List Value) (fun _ => True)) (aw_RL (fun r => True)) 0 0 (fun _ => False) := by
  refine Met.ofW (cc := b_Mo_joined) (maxL := 2) (ret := (some .long)) (by decide) rfl ?_
  intro p e s m args below meth c s₁ B hml hv
  obtain ⟨rfl, -⟩ := hv
  have hx := B.exec
  have hb := B.bytes
  have hr := B.returns
  have hG : ∀ w ∈ aw_G, w.before _ s = true := fun w h => atoms_spec (ws := ws_Mo_joined) B.pre w (List.mem_cons_of_mem _ h)
  have hown : s.vm.findClass "RuleCiphersModel" = some m.cls := findClass_of_methodNamed B.named
  have hlocks := B.notSynchronized
  have hl := lv_entry ([.int a0, .int a1] : List Value) (n := 2) (Nat.le_of_ble_eq_true rfl)
  rw [lg_entry_eq]
  generalize (lg_sl ([.int a0, .int a1] : List Value) ++ List.replicate (2 - (lg_sl ([.int a0, .int a1] : List Value)).length) Slot.unset).toArray = ls at hl ⊢
  have hl : lv_has ls 2 [(0, .int a0), (1, .int a1)] := hl
  refine lv_iload_n hx hb d_Mo_joined_0 rfl (lv_at hl 0 rfl) ?_
  refine lv_i2l hx hb d_Mo_joined_1 rfl ?_
  refine lv_topl (fun y1 _ => ?_)
  refine lv_bipush (v := nI 32) hx hb d_Mo_joined_2 (by decide +kernel) ?_
  refine lv_lshl hx hb d_Mo_joined_4 rfl ?_
  refine lv_topl (fun y2 _ => ?_)
  refine lv_iload_n hx hb d_Mo_joined_5 rfl (lv_at hl 1 rfl) ?_
  refine lv_i2l hx hb d_Mo_joined_6 rfl ?_
  refine lv_topl (fun y3 _ => ?_)
  refine lv_ldc2 (v := 4294967295) hx hb hown (hG _ gw_11_44) d_Mo_joined_7 ?_
  refine lv_land hx hb d_Mo_joined_10 ?_
  refine lv_topl (fun y4 _ => ?_)
  refine lv_lor hx hb d_Mo_joined_11 ?_
  refine lv_topl (fun y5 _ => ?_)
  exact W.lret hx hb hr (fun t ht hW => ⟨_, trivial, rfl, ht⟩) (fun q h => nomatch h) d_Mo_joined_12
abbrev ws_Mo_upper : List Cond := Cond.code y_Mo_upper b_Mo_upper 2 (some .int) :: aw_G
abbrev rm_Mo_upper : Room := { frames := 0, cells := 0, slots := 0, locals := 0 }
set_option maxHeartbeats 4000000 in
set_option maxRecDepth 100000 in
theorem k_Mo_upper (l : Launch) (a0 : Int64) : Met l y_Mo_upper ws_Mo_upper rm_Mo_upper (va_Pc ([.long a0] : List Value) (fun _ => True)) (aw_RI (fun r => True)) 0 0 (fun _ => False) := by
  refine Met.ofW (cc := b_Mo_upper) (maxL := 2) (ret := (some .int)) (by decide) rfl ?_
  intro p e s m args below meth c s₁ B hml hv
  obtain ⟨rfl, -⟩ := hv
  have hx := B.exec
  have hb := B.bytes
  have hr := B.returns
  have hG : ∀ w ∈ aw_G, w.before _ s = true := fun w h => atoms_spec (ws := ws_Mo_upper) B.pre w (List.mem_cons_of_mem _ h)
  have hown : s.vm.findClass "RuleCiphersModel" = some m.cls := findClass_of_methodNamed B.named
  have hlocks := B.notSynchronized
  have hl := lv_entry ([.long a0] : List Value) (n := 2) (Nat.le_of_ble_eq_true rfl)
  rw [lg_entry_eq]
  generalize (lg_sl ([.long a0] : List Value) ++ List.replicate (2 - (lg_sl ([.long a0] : List Value)).length) Slot.unset).toArray = ls at hl ⊢
  have hl : lv_has ls 2 [(0, .long a0)] := hl
  refine lv_lload_n hx hb d_Mo_upper_0 rfl (lv_at hl 0 rfl) ?_
  refine lv_bipush (v := nI 32) hx hb d_Mo_upper_1 (by decide +kernel) ?_
  refine lv_lushr hx hb d_Mo_upper_3 rfl ?_
  refine lv_topl (fun y1 _ => ?_)
  refine lv_l2i hx hb d_Mo_upper_4 rfl ?_
  refine lv_topi (fun x2 _ => ?_)
  exact W.iret hx hb hr (fun t ht hW => ⟨_, trivial, rfl, ht⟩) (fun q h => nomatch h) d_Mo_upper_5
abbrev ws_Mo_times : List Cond := Cond.code y_Mo_times b_Mo_times 6 (some .int) :: aw_G
abbrev rm_Mo_times : Room := { frames := 0, cells := 0, slots := 0, locals := 0 }
set_option maxHeartbeats 4000000 in
set_option maxRecDepth 100000 in
theorem k_Mo_times (l : Launch) (a0 : Int32) (a1 : Int32) : Met l y_Mo_times ws_Mo_times rm_Mo_times (va_Pc ([.int a0, .int a1] : List Value) (fun _ => True)) (aw_RI (fun r => True)) 0 0 (fun _ => False) := by
  refine Met.ofW (cc := b_Mo_times) (maxL := 6) (ret := (some .int)) (by decide) rfl ?_
  intro p e s m args below meth c s₁ B hml hv
  obtain ⟨rfl, -⟩ := hv
  have hx := B.exec
  have hb := B.bytes
  have hr := B.returns
  have hG : ∀ w ∈ aw_G, w.before _ s = true := fun w h => atoms_spec (ws := ws_Mo_times) B.pre w (List.mem_cons_of_mem _ h)
  have hown : s.vm.findClass "RuleCiphersModel" = some m.cls := findClass_of_methodNamed B.named
  have hlocks := B.notSynchronized
  have hl := lv_entry ([.int a0, .int a1] : List Value) (n := 6) (Nat.le_of_ble_eq_true rfl)
  rw [lg_entry_eq]
  generalize (lg_sl ([.int a0, .int a1] : List Value) ++ List.replicate (6 - (lg_sl ([.int a0, .int a1] : List Value)).length) Slot.unset).toArray = ls at hl ⊢
  have hl : lv_has ls 6 [(0, .int a0), (1, .int a1)] := hl
  refine lv_iload_n hx hb d_Mo_times_0 rfl (lv_at hl 0 rfl) ?_
  refine lv_if_ne (tgt := 10) hx hb d_Mo_times_1 (by decide) (fun hb1 => ?_) (fun hb1 => ?_)
  · refine lv_iload_n hx hb d_Mo_times_10 rfl (lv_at hl 0 rfl) ?_
    refine lv_i2l hx hb d_Mo_times_11 rfl ?_
    refine lv_topl (fun y2 _ => ?_)
    refine lv_lstore_n hx hb d_Mo_times_12 rfl hl (by decide) rfl (fun ls hl => ?_)
    have hl : lv_has ls 6 [(2, .long y2), (0, .int a0), (1, .int a1)] := hl
    refine lv_iload_n hx hb d_Mo_times_13 rfl (lv_at hl 2 rfl) ?_
    refine lv_if_ne (tgt := 23) hx hb d_Mo_times_14 (by decide) (fun hb3 => ?_) (fun hb3 => ?_)
    · refine lv_iload_n hx hb d_Mo_times_23 rfl (lv_at hl 2 rfl) ?_
      refine lv_i2l hx hb d_Mo_times_24 rfl ?_
      refine lv_topl (fun y4 _ => ?_)
      refine lv_lstore hx hb d_Mo_times_25 hl (by decide) rfl (fun ls hl => ?_)
      have hl : lv_has ls 6 [(4, .long y4), (2, .long y2), (0, .int a0), (1, .int a1)] := hl
      refine lv_lload_n hx hb d_Mo_times_27 rfl (lv_at hl 1 rfl) ?_
      refine lv_lload hx hb d_Mo_times_28 (lv_at hl 0 rfl) ?_
      refine lv_lmul hx hb d_Mo_times_30 ?_
      refine lv_topl (fun y5 _ => ?_)
      refine lv_ldc2 (v := 65537) hx hb hown (hG _ gw_11_58) d_Mo_times_31 ?_
      refine lv_lrem hx hb d_Mo_times_34 (by decide +kernel) ?_
      refine lv_topl (fun y6 _ => ?_)
      refine lv_l2i hx hb d_Mo_times_35 rfl ?_
      refine lv_topi (fun x7 _ => ?_)
      refine lv_ldc (v := 65535) hx hb hown (hG _ gw_11_36) d_Mo_times_36 ?_
      refine lv_iand hx hb d_Mo_times_38 ?_
      refine lv_topi (fun x8 _ => ?_)
      exact W.iret hx hb hr (fun t ht hW => ⟨_, trivial, rfl, ht⟩) (fun q h => nomatch h) d_Mo_times_39
    · refine lv_ldc2 (v := 65536) hx hb hown (hG _ gw_11_57) d_Mo_times_17 ?_
      refine lv_goto (tgt := 25) hx hb d_Mo_times_20 (by decide) ?_
      refine lv_lstore hx hb d_Mo_times_25 hl (by decide) rfl (fun ls hl => ?_)
      have hl : lv_has ls 6 [(4, .long 65536), (2, .long y2), (0, .int a0), (1, .int a1)] := hl
      refine lv_lload_n hx hb d_Mo_times_27 rfl (lv_at hl 1 rfl) ?_
      refine lv_lload hx hb d_Mo_times_28 (lv_at hl 0 rfl) ?_
      refine lv_lmul hx hb d_Mo_times_30 ?_
      refine lv_topl (fun y9 _ => ?_)
      refine lv_ldc2 (v := 65537) hx hb hown (hG _ gw_11_58) d_Mo_times_31 ?_
      refine lv_lrem hx hb d_Mo_times_34 (by decide +kernel) ?_
      refine lv_topl (fun y10 _ => ?_)
      refine lv_l2i hx hb d_Mo_times_35 rfl ?_
      refine lv_topi (fun x11 _ => ?_)
      refine lv_ldc (v := 65535) hx hb hown (hG _ gw_11_36) d_Mo_times_36 ?_
      refine lv_iand hx hb d_Mo_times_38 ?_
      refine lv_topi (fun x12 _ => ?_)
      exact W.iret hx hb hr (fun t ht hW => ⟨_, trivial, rfl, ht⟩) (fun q h => nomatch h) d_Mo_times_39
  · refine lv_ldc2 (v := 65536) hx hb hown (hG _ gw_11_57) d_Mo_times_4 ?_
    refine lv_goto (tgt := 12) hx hb d_Mo_times_7 (by decide) ?_
    refine lv_lstore_n hx hb d_Mo_times_12 rfl hl (by decide) rfl (fun ls hl => ?_)
    have hl : lv_has ls 6 [(2, .long 65536), (0, .int a0), (1, .int a1)] := hl
    refine lv_iload_n hx hb d_Mo_times_13 rfl (lv_at hl 2 rfl) ?_
    refine lv_if_ne (tgt := 23) hx hb d_Mo_times_14 (by decide) (fun hb13 => ?_) (fun hb13 => ?_)
    · refine lv_iload_n hx hb d_Mo_times_23 rfl (lv_at hl 2 rfl) ?_
      refine lv_i2l hx hb d_Mo_times_24 rfl ?_
      refine lv_topl (fun y14 _ => ?_)
      refine lv_lstore hx hb d_Mo_times_25 hl (by decide) rfl (fun ls hl => ?_)
      have hl : lv_has ls 6 [(4, .long y14), (2, .long 65536), (0, .int a0), (1, .int a1)] := hl
      refine lv_lload_n hx hb d_Mo_times_27 rfl (lv_at hl 1 rfl) ?_
      refine lv_lload hx hb d_Mo_times_28 (lv_at hl 0 rfl) ?_
      refine lv_lmul hx hb d_Mo_times_30 ?_
      refine lv_topl (fun y15 _ => ?_)
      refine lv_ldc2 (v := 65537) hx hb hown (hG _ gw_11_58) d_Mo_times_31 ?_
      refine lv_lrem hx hb d_Mo_times_34 (by decide +kernel) ?_
      refine lv_topl (fun y16 _ => ?_)
      refine lv_l2i hx hb d_Mo_times_35 rfl ?_
      refine lv_topi (fun x17 _ => ?_)
      refine lv_ldc (v := 65535) hx hb hown (hG _ gw_11_36) d_Mo_times_36 ?_
      refine lv_iand hx hb d_Mo_times_38 ?_
      refine lv_topi (fun x18 _ => ?_)
      exact W.iret hx hb hr (fun t ht hW => ⟨_, trivial, rfl, ht⟩) (fun q h => nomatch h) d_Mo_times_39
    · refine lv_ldc2 (v := 65536) hx hb hown (hG _ gw_11_57) d_Mo_times_17 ?_
      refine lv_goto (tgt := 25) hx hb d_Mo_times_20 (by decide) ?_
      refine lv_lstore hx hb d_Mo_times_25 hl (by decide) rfl (fun ls hl => ?_)
      have hl : lv_has ls 6 [(4, .long 65536), (2, .long 65536), (0, .int a0), (1, .int a1)] := hl
      refine lv_lload_n hx hb d_Mo_times_27 rfl (lv_at hl 1 rfl) ?_
      refine lv_lload hx hb d_Mo_times_28 (lv_at hl 0 rfl) ?_
      refine lv_lmul hx hb d_Mo_times_30 ?_
      refine lv_topl (fun y19 _ => ?_)
      refine lv_ldc2 (v := 65537) hx hb hown (hG _ gw_11_58) d_Mo_times_31 ?_
      refine lv_lrem hx hb d_Mo_times_34 (by decide +kernel) ?_
      refine lv_topl (fun y20 _ => ?_)
      refine lv_l2i hx hb d_Mo_times_35 rfl ?_
      refine lv_topi (fun x21 _ => ?_)
      refine lv_ldc (v := 65535) hx hb hown (hG _ gw_11_36) d_Mo_times_36 ?_
      refine lv_iand hx hb d_Mo_times_38 ?_
      refine lv_topi (fun x22 _ => ?_)
      exact W.iret hx hb hr (fun t ht hW => ⟨_, trivial, rfl, ht⟩) (fun q h => nomatch h) d_Mo_times_39
abbrev ws_Mo_inverse : List Cond := Cond.code y_Mo_inverse b_Mo_inverse 3 (some .int) :: aw_G
abbrev rm_Mo_inverse : Room := { frames := 1, cells := 0, slots := 0, locals := 25 }
set_option maxHeartbeats 4000000 in
set_option maxRecDepth 100000 in
theorem k_Mo_inverse (l : Launch) (a0 : Int32) : Met l y_Mo_inverse ws_Mo_inverse rm_Mo_inverse (va_Pc ([.int a0] : List Value) (fun _ => True)) (aw_RI (fun r => True)) 0 0 (fun _ => False) := by
  refine Met.ofW (cc := b_Mo_inverse) (maxL := 3) (ret := (some .int)) (by decide) rfl ?_
  intro p e s m args below meth c s₁ B hml hv
  obtain ⟨rfl, -⟩ := hv
  have hx := B.exec
  have hb := B.bytes
  have hr := B.returns
  have hG : ∀ w ∈ aw_G, w.before _ s = true := fun w h => atoms_spec (ws := ws_Mo_inverse) B.pre w (List.mem_cons_of_mem _ h)
  have hown : s.vm.findClass "RuleCiphersModel" = some m.cls := findClass_of_methodNamed B.named
  have hlocks := B.notSynchronized
  have hl := lv_entry ([.int a0] : List Value) (n := 3) (Nat.le_of_ble_eq_true rfl)
  rw [lg_entry_eq]
  generalize (lg_sl ([.int a0] : List Value) ++ List.replicate (3 - (lg_sl ([.int a0] : List Value)).length) Slot.unset).toArray = ls at hl ⊢
  have hl : lv_has ls 3 [(0, .int a0)] := hl
  refine lv_iconst (v := nI 1) hx hb d_Mo_inverse_0 (by decide +kernel) ?_
  refine lv_istore_n hx hb d_Mo_inverse_1 rfl hl (by decide) rfl (fun ls hl => ?_)
  have hl : lv_has ls 3 [(1, .int (nI 1)), (0, .int a0)] := hl
  refine lv_iconst (v := nI 0) hx hb d_Mo_inverse_2 (by decide +kernel) ?_
  refine lv_istore_n hx hb d_Mo_inverse_3 rfl hl (by decide) rfl (fun ls hl => ?_)
  have hl : lv_has ls 3 [(2, .int (nI 0)), (1, .int (nI 1)), (0, .int a0)] := hl
  have L4 : ∀ (d t : Nat) (x1 : Int32) (ls : Array Slot), t + d = 16 → lv_has ls 3 [(0, .int a0), (1, .int x1), (2, .int (nI t))] → W p l e (headSpec ws_Mo_inverse rm_Mo_inverse).room s m ([.int a0] : List Value).toArray below meth c s.heap [] 0 0 (MQ below (aw_RI (fun r => True)) ([.int a0] : List Value).toArray s 0 0 (fun _ => False)) (F0 m 4 ls []) := by
    clear hl
    intro d
    induction d with
    | zero => 
      intro t x1 ls ht0 hl
      refine lv_iload_n hx hb d_Mo_inverse_4 rfl (lv_at hl 2 rfl) ?_
      refine lv_bipush (v := nI 16) hx hb d_Mo_inverse_5 (by decide +kernel) ?_
      refine lv_icmp_ge (tgt := 26) hx hb d_Mo_inverse_7 (by decide) (fun _ => ?_) (fun h => absurd (show nI 16 ≤ nI t from (nI_leI (by omega) (by omega)).mpr (by omega)) h)
      refine lv_iload_n hx hb d_Mo_inverse_26 rfl (lv_at hl 1 rfl) ?_
      exact W.iret hx hb hr (fun t ht hW => ⟨_, trivial, rfl, ht⟩) (fun q h => nomatch h) d_Mo_inverse_27
    | succ d ih => 
      intro t x1 ls ht0 hl
      refine lv_iload_n hx hb d_Mo_inverse_4 rfl (lv_at hl 2 rfl) ?_
      refine lv_bipush (v := nI 16) hx hb d_Mo_inverse_5 (by decide +kernel) ?_
      refine lv_icmp_ge (tgt := 26) hx hb d_Mo_inverse_7 (by decide) (fun h => absurd h (show ¬ nI 16 ≤ nI t from fun h9 => absurd ((nI_leI (by omega) (by omega)).mp h9) (by omega))) (fun _ => ?_)
      refine lv_iload_n hx hb d_Mo_inverse_10 rfl (lv_at hl 1 rfl) ?_
      refine lv_iload_n hx hb d_Mo_inverse_11 rfl (lv_at hl 1 rfl) ?_
      refine aw_ci ((va_runS (As := [.int x1, .int x1]) (rest := []) ⟨hx, hb, hml, hown, hG⟩ (k_Mo_times l x1 x1) (aw_wS 2 hG gw_11_56 gw_11_54 gw_0_10 gw_11_55 rfl rfl hd_Mo_times ⟨Nat.le_of_ble_eq_true rfl, Nat.le_of_ble_eq_true rfl⟩) aw_p0 rfl rfl hl.1 rfl (lv_room (Nat.le_of_ble_eq_true rfl)) d_Mo_inverse_12 ⟨Nat.le_of_ble_eq_true rfl, Nat.le_of_ble_eq_true rfl⟩).run) (fun x2 hx2 => ?_)
      refine lv_iload_n hx hb d_Mo_inverse_15 rfl (lv_at hl 0 rfl) ?_
      refine aw_ci ((va_runS (As := [.int x2, .int a0]) (rest := []) ⟨hx, hb, hml, hown, hG⟩ (k_Mo_times l x2 a0) (aw_wS 2 hG gw_11_56 gw_11_54 gw_0_10 gw_11_55 rfl rfl hd_Mo_times ⟨Nat.le_of_ble_eq_true rfl, Nat.le_of_ble_eq_true rfl⟩) aw_p0 rfl rfl hl.1 rfl (lv_room (Nat.le_of_ble_eq_true rfl)) d_Mo_inverse_16 ⟨Nat.le_of_ble_eq_true rfl, Nat.le_of_ble_eq_true rfl⟩).run) (fun x3 hx3 => ?_)
      refine lv_istore_n hx hb d_Mo_inverse_19 rfl hl (by decide) rfl (fun ls hl => ?_)
      have hl : lv_has ls 3 [(1, .int x3), (0, .int a0), (2, .int (nI t))] := hl
      refine lv_iinc (k := 2) (v := nI (t + 1)) hx hb d_Mo_inverse_20 hl rfl (aw_inc t 1 1 (by decide +kernel)) (by decide) rfl (fun ls hl => ?_)
      have hl : lv_has ls 3 [(2, .int (nI (t + 1))), (1, .int x3), (0, .int a0)] := hl
      refine lv_goto (tgt := 4) hx hb d_Mo_inverse_23 (by decide) ?_
      have hl := lv_sub hl (l' := [(0, .int a0), (1, .int x3), (2, .int (nI (t + 1)))]) [2, 1, 0] rfl
      exact ih (t + 1) x3 ls (by omega) (by first | exact hl | simpa [Nat.add_assoc, Nat.mul_add, Nat.add_comm] using hl)
  have hl := lv_sub hl (l' := [(0, .int a0), (1, .int (nI 1)), (2, .int (nI 0))]) [2, 1, 0] rfl
  exact L4 16 0 (nI 1) ls (by omega) (by first | exact hl | simpa using hl)
abbrev ws_Mo_part : List Cond := Cond.code y_Mo_part b_Mo_part 3 (some .int) :: aw_G
abbrev rm_Mo_part : Room := { frames := 0, cells := 0, slots := 0, locals := 0 }
set_option maxHeartbeats 4000000 in
set_option maxRecDepth 100000 in
theorem k_Mo_part (l : Launch) (a0 : Int64) (a1 : Int32) : Met l y_Mo_part ws_Mo_part rm_Mo_part (va_Pc ([.long a0, .int a1] : List Value) (fun _ => True)) (aw_RI (fun r => True)) 0 0 (fun _ => False) := by
  refine Met.ofW (cc := b_Mo_part) (maxL := 3) (ret := (some .int)) (by decide) rfl ?_
  intro p e s m args below meth c s₁ B hml hv
  obtain ⟨rfl, -⟩ := hv
  have hx := B.exec
  have hb := B.bytes
  have hr := B.returns
  have hG : ∀ w ∈ aw_G, w.before _ s = true := fun w h => atoms_spec (ws := ws_Mo_part) B.pre w (List.mem_cons_of_mem _ h)
  have hown : s.vm.findClass "RuleCiphersModel" = some m.cls := findClass_of_methodNamed B.named
  have hlocks := B.notSynchronized
  have hl := lv_entry ([.long a0, .int a1] : List Value) (n := 3) (Nat.le_of_ble_eq_true rfl)
  rw [lg_entry_eq]
  generalize (lg_sl ([.long a0, .int a1] : List Value) ++ List.replicate (3 - (lg_sl ([.long a0, .int a1] : List Value)).length) Slot.unset).toArray = ls at hl ⊢
  have hl : lv_has ls 3 [(0, .long a0), (2, .int a1)] := hl
  refine lv_lload_n hx hb d_Mo_part_0 rfl (lv_at hl 0 rfl) ?_
  refine lv_bipush (v := nI 48) hx hb d_Mo_part_1 (by decide +kernel) ?_
  refine lv_bipush (v := nI 16) hx hb d_Mo_part_3 (by decide +kernel) ?_
  refine lv_iload_n hx hb d_Mo_part_5 rfl (lv_at hl 1 rfl) ?_
  refine lv_imul hx hb d_Mo_part_6 ?_
  refine lv_topi (fun x1 _ => ?_)
  refine lv_isub hx hb d_Mo_part_7 ?_
  refine lv_topi (fun x2 _ => ?_)
  refine lv_lushr hx hb d_Mo_part_8 rfl ?_
  refine lv_topl (fun y3 _ => ?_)
  refine lv_l2i hx hb d_Mo_part_9 rfl ?_
  refine lv_topi (fun x4 _ => ?_)
  refine lv_ldc (v := 65535) hx hb hown (hG _ gw_11_36) d_Mo_part_10 ?_
  refine lv_iand hx hb d_Mo_part_12 ?_
  refine lv_topi (fun x5 _ => ?_)
  exact W.iret hx hb hr (fun t ht hW => ⟨_, trivial, rfl, ht⟩) (fun q h => nomatch h) d_Mo_part_13
abbrev ws_Mo_four : List Cond := Cond.code y_Mo_four b_Mo_four 4 (some .long) :: aw_G
abbrev rm_Mo_four : Room := { frames := 0, cells := 0, slots := 0, locals := 0 }
set_option maxHeartbeats 4000000 in
set_option maxRecDepth 100000 in
theorem k_Mo_four (l : Launch) (a0 : Int32) (a1 : Int32) (a2 : Int32) (a3 : Int32) : Met l y_Mo_four ws_Mo_four rm_Mo_four (va_Pc ([.int a0, .int a1, .int a2, .int a3] : List Value) (fun _ => True)) (aw_RL (fun r => True)) 0 0 (fun _ => False) := by
  refine Met.ofW (cc := b_Mo_four) (maxL := 4) (ret := (some .long)) (by decide) rfl ?_
  intro p e s m args below meth c s₁ B hml hv
  obtain ⟨rfl, -⟩ := hv
  have hx := B.exec
  have hb := B.bytes
  have hr := B.returns
  have hG : ∀ w ∈ aw_G, w.before _ s = true := fun w h => atoms_spec (ws := ws_Mo_four) B.pre w (List.mem_cons_of_mem _ h)
  have hown : s.vm.findClass "RuleCiphersModel" = some m.cls := findClass_of_methodNamed B.named
  have hlocks := B.notSynchronized
  have hl := lv_entry ([.int a0, .int a1, .int a2, .int a3] : List Value) (n := 4) (Nat.le_of_ble_eq_true rfl)
  rw [lg_entry_eq]
  generalize (lg_sl ([.int a0, .int a1, .int a2, .int a3] : List Value) ++ List.replicate (4 - (lg_sl ([.int a0, .int a1, .int a2, .int a3] : List Value)).length) Slot.unset).toArray = ls at hl ⊢
  have hl : lv_has ls 4 [(0, .int a0), (1, .int a1), (2, .int a2), (3, .int a3)] := hl
  refine lv_iload_n hx hb d_Mo_four_0 rfl (lv_at hl 0 rfl) ?_
  refine lv_ldc (v := 65535) hx hb hown (hG _ gw_11_36) d_Mo_four_1 ?_
  refine lv_iand hx hb d_Mo_four_3 ?_
  refine lv_topi (fun x1 _ => ?_)
  refine lv_i2l hx hb d_Mo_four_4 rfl ?_
  refine lv_topl (fun y2 _ => ?_)
  refine lv_bipush (v := nI 48) hx hb d_Mo_four_5 (by decide +kernel) ?_
  refine lv_lshl hx hb d_Mo_four_7 rfl ?_
  refine lv_topl (fun y3 _ => ?_)
  refine lv_iload_n hx hb d_Mo_four_8 rfl (lv_at hl 1 rfl) ?_
  refine lv_ldc (v := 65535) hx hb hown (hG _ gw_11_36) d_Mo_four_9 ?_
  refine lv_iand hx hb d_Mo_four_11 ?_
  refine lv_topi (fun x4 _ => ?_)
  refine lv_i2l hx hb d_Mo_four_12 rfl ?_
  refine lv_topl (fun y5 _ => ?_)
  refine lv_bipush (v := nI 32) hx hb d_Mo_four_13 (by decide +kernel) ?_
  refine lv_lshl hx hb d_Mo_four_15 rfl ?_
  refine lv_topl (fun y6 _ => ?_)
  refine lv_lor hx hb d_Mo_four_16 ?_
  refine lv_topl (fun y7 _ => ?_)
  refine lv_iload_n hx hb d_Mo_four_17 rfl (lv_at hl 2 rfl) ?_
  refine lv_ldc (v := 65535) hx hb hown (hG _ gw_11_36) d_Mo_four_18 ?_
  refine lv_iand hx hb d_Mo_four_20 ?_
  refine lv_topi (fun x8 _ => ?_)
  refine lv_i2l hx hb d_Mo_four_21 rfl ?_
  refine lv_topl (fun y9 _ => ?_)
  refine lv_bipush (v := nI 16) hx hb d_Mo_four_22 (by decide +kernel) ?_
  refine lv_lshl hx hb d_Mo_four_24 rfl ?_
  refine lv_topl (fun y10 _ => ?_)
  refine lv_lor hx hb d_Mo_four_25 ?_
  refine lv_topl (fun y11 _ => ?_)
  refine lv_iload_n hx hb d_Mo_four_26 rfl (lv_at hl 3 rfl) ?_
  refine lv_ldc (v := 65535) hx hb hown (hG _ gw_11_36) d_Mo_four_27 ?_
  refine lv_iand hx hb d_Mo_four_29 ?_
  refine lv_topi (fun x12 _ => ?_)
  refine lv_i2l hx hb d_Mo_four_30 rfl ?_
  refine lv_topl (fun y13 _ => ?_)
  refine lv_lor hx hb d_Mo_four_31 ?_
  refine lv_topl (fun y14 _ => ?_)
  exact W.lret hx hb hr (fun t ht hW => ⟨_, trivial, rfl, ht⟩) (fun q h => nomatch h) d_Mo_four_32
abbrev ws_Mo_sum : List Cond := Cond.code y_Mo_sum b_Mo_sum 2 (some .int) :: aw_G
abbrev rm_Mo_sum : Room := { frames := 0, cells := 0, slots := 0, locals := 0 }
set_option maxHeartbeats 4000000 in
set_option maxRecDepth 100000 in
theorem k_Mo_sum (l : Launch) (a0 : Int32) (a1 : Int32) : Met l y_Mo_sum ws_Mo_sum rm_Mo_sum (va_Pc ([.int a0, .int a1] : List Value) (fun _ => True)) (aw_RI (fun r => True)) 0 0 (fun _ => False) := by
  refine Met.ofW (cc := b_Mo_sum) (maxL := 2) (ret := (some .int)) (by decide) rfl ?_
  intro p e s m args below meth c s₁ B hml hv
  obtain ⟨rfl, -⟩ := hv
  have hx := B.exec
  have hb := B.bytes
  have hr := B.returns
  have hG : ∀ w ∈ aw_G, w.before _ s = true := fun w h => atoms_spec (ws := ws_Mo_sum) B.pre w (List.mem_cons_of_mem _ h)
  have hown : s.vm.findClass "RuleCiphersModel" = some m.cls := findClass_of_methodNamed B.named
  have hlocks := B.notSynchronized
  have hl := lv_entry ([.int a0, .int a1] : List Value) (n := 2) (Nat.le_of_ble_eq_true rfl)
  rw [lg_entry_eq]
  generalize (lg_sl ([.int a0, .int a1] : List Value) ++ List.replicate (2 - (lg_sl ([.int a0, .int a1] : List Value)).length) Slot.unset).toArray = ls at hl ⊢
  have hl : lv_has ls 2 [(0, .int a0), (1, .int a1)] := hl
  refine lv_iload_n hx hb d_Mo_sum_0 rfl (lv_at hl 0 rfl) ?_
  refine lv_iload_n hx hb d_Mo_sum_1 rfl (lv_at hl 1 rfl) ?_
  refine lv_iadd hx hb d_Mo_sum_2 ?_
  refine lv_topi (fun x1 _ => ?_)
  refine lv_ldc (v := 65535) hx hb hown (hG _ gw_11_36) d_Mo_sum_3 ?_
  refine lv_iand hx hb d_Mo_sum_5 ?_
  refine lv_topi (fun x2 _ => ?_)
  exact W.iret hx hb hr (fun t ht hW => ⟨_, trivial, rfl, ht⟩) (fun q h => nomatch h) d_Mo_sum_6
abbrev ws_Mo_twice : List Cond := Cond.code y_Mo_twice b_Mo_twice 2 (some .long) :: aw_G
abbrev rm_Mo_twice : Room := { frames := 0, cells := 0, slots := 0, locals := 0 }
set_option maxHeartbeats 4000000 in
set_option maxRecDepth 100000 in
theorem k_Mo_twice (l : Launch) (a0 : Int64) : Met l y_Mo_twice ws_Mo_twice rm_Mo_twice (va_Pc ([.long a0] : List Value) (fun _ => True)) (aw_RL (fun r => True)) 0 0 (fun _ => False) := by
  refine Met.ofW (cc := b_Mo_twice) (maxL := 2) (ret := (some .long)) (by decide) rfl ?_
  intro p e s m args below meth c s₁ B hml hv
  obtain ⟨rfl, -⟩ := hv
  have hx := B.exec
  have hb := B.bytes
  have hr := B.returns
  have hG : ∀ w ∈ aw_G, w.before _ s = true := fun w h => atoms_spec (ws := ws_Mo_twice) B.pre w (List.mem_cons_of_mem _ h)
  have hown : s.vm.findClass "RuleCiphersModel" = some m.cls := findClass_of_methodNamed B.named
  have hlocks := B.notSynchronized
  have hl := lv_entry ([.long a0] : List Value) (n := 2) (Nat.le_of_ble_eq_true rfl)
  rw [lg_entry_eq]
  generalize (lg_sl ([.long a0] : List Value) ++ List.replicate (2 - (lg_sl ([.long a0] : List Value)).length) Slot.unset).toArray = ls at hl ⊢
  have hl : lv_has ls 2 [(0, .long a0)] := hl
  refine lv_lload_n hx hb d_Mo_twice_0 rfl (lv_at hl 0 rfl) ?_
  refine lv_lconst (v := 0) hx hb d_Mo_twice_1 (by decide +kernel) ?_
  refine W.lcmp hx hb d_Mo_twice_2 ?_
  refine lv_topi (fun x1 _ => ?_)
  refine lv_if_ge (tgt := 18) hx hb d_Mo_twice_3 (by decide) (fun hb2 => ?_) (fun hb2 => ?_)
  · refine lv_ldc2 (v := 2) hx hb hown (hG _ gw_13_0) d_Mo_twice_18 ?_
    refine lv_lload_n hx hb d_Mo_twice_21 rfl (lv_at hl 0 rfl) ?_
    refine lv_lmul hx hb d_Mo_twice_22 ?_
    refine lv_topl (fun y3 _ => ?_)
    exact W.lret hx hb hr (fun t ht hW => ⟨_, trivial, rfl, ht⟩) (fun q h => nomatch h) d_Mo_twice_23
  · refine lv_ldc2 (v := 2) hx hb hown (hG _ gw_13_0) d_Mo_twice_6 ?_
    refine lv_lload_n hx hb d_Mo_twice_9 rfl (lv_at hl 0 rfl) ?_
    refine lv_lmul hx hb d_Mo_twice_10 ?_
    refine lv_topl (fun y4 _ => ?_)
    refine lv_ldc2 (v := 27) hx hb hown (hG _ gw_13_1) d_Mo_twice_11 ?_
    refine lv_lxor hx hb d_Mo_twice_14 ?_
    refine lv_topl (fun y5 _ => ?_)
    refine lv_goto (tgt := 23) hx hb d_Mo_twice_15 (by decide) ?_
    exact W.lret hx hb hr (fun t ht hW => ⟨_, trivial, rfl, ht⟩) (fun q h => nomatch h) d_Mo_twice_23
abbrev ws_Mo_bit : List Cond := Cond.code y_Mo_bit b_Mo_bit 1 (some .int) :: aw_G
abbrev rm_Mo_bit : Room := { frames := 0, cells := 0, slots := 0, locals := 0 }
set_option maxHeartbeats 4000000 in
set_option maxRecDepth 100000 in
theorem k_Mo_bit (l : Launch) (a0 : Int32) : Met l y_Mo_bit ws_Mo_bit rm_Mo_bit (va_Pc ([.int a0] : List Value) (fun _ => True)) (aw_RI (fun r => True)) 0 0 (fun _ => False) := by
  refine Met.ofW (cc := b_Mo_bit) (maxL := 1) (ret := (some .int)) (by decide) rfl ?_
  intro p e s m args below meth c s₁ B hml hv
  obtain ⟨rfl, -⟩ := hv
  have hx := B.exec
  have hb := B.bytes
  have hr := B.returns
  have hG : ∀ w ∈ aw_G, w.before _ s = true := fun w h => atoms_spec (ws := ws_Mo_bit) B.pre w (List.mem_cons_of_mem _ h)
  have hown : s.vm.findClass "RuleCiphersModel" = some m.cls := findClass_of_methodNamed B.named
  have hlocks := B.notSynchronized
  have hl := lv_entry ([.int a0] : List Value) (n := 1) (Nat.le_of_ble_eq_true rfl)
  rw [lg_entry_eq]
  generalize (lg_sl ([.int a0] : List Value) ++ List.replicate (1 - (lg_sl ([.int a0] : List Value)).length) Slot.unset).toArray = ls at hl ⊢
  have hl : lv_has ls 1 [(0, .int a0)] := hl
  refine lv_iload_n hx hb d_Mo_bit_0 rfl (lv_at hl 0 rfl) ?_
  refine lv_bipush (v := nI 31) hx hb d_Mo_bit_1 (by decide +kernel) ?_
  refine lv_icmp_ge (tgt := 18) hx hb d_Mo_bit_3 (by decide) (fun hb1 => ?_) (fun hb1 => ?_)
  · refine lv_ldc (v := 304729359) hx hb hown (hG _ gw_11_32) d_Mo_bit_18 ?_
    refine lv_bipush (v := nI 61) hx hb d_Mo_bit_20 (by decide +kernel) ?_
    refine lv_iload_n hx hb d_Mo_bit_22 rfl (lv_at hl 0 rfl) ?_
    refine lv_isub hx hb d_Mo_bit_23 ?_
    refine lv_topi (fun x2 _ => ?_)
    refine lv_ishr hx hb d_Mo_bit_24 ?_
    refine lv_topi (fun x3 _ => ?_)
    refine lv_iconst (v := nI 1) hx hb d_Mo_bit_25 (by decide +kernel) ?_
    refine lv_iand hx hb d_Mo_bit_26 ?_
    obtain ⟨k4, hk4, ek4⟩ := pk_andE x3 (m := nI 1) 1 (by decide +kernel)
    refine aw_ti ek4 ?_
    exact W.iret hx hb hr (fun t ht hW => ⟨_, trivial, rfl, ht⟩) (fun q h => nomatch h) d_Mo_bit_27
  · refine lv_ldc (v := 1842754288) hx hb hown (hG _ gw_11_31) d_Mo_bit_6 ?_
    refine lv_bipush (v := nI 30) hx hb d_Mo_bit_8 (by decide +kernel) ?_
    refine lv_iload_n hx hb d_Mo_bit_10 rfl (lv_at hl 0 rfl) ?_
    refine lv_isub hx hb d_Mo_bit_11 ?_
    refine lv_topi (fun x5 _ => ?_)
    refine lv_ishr hx hb d_Mo_bit_12 ?_
    refine lv_topi (fun x6 _ => ?_)
    refine lv_iconst (v := nI 1) hx hb d_Mo_bit_13 (by decide +kernel) ?_
    refine lv_iand hx hb d_Mo_bit_14 ?_
    obtain ⟨k7, hk7, ek7⟩ := pk_andE x6 (m := nI 1) 1 (by decide +kernel)
    refine aw_ti ek7 ?_
    refine lv_goto (tgt := 27) hx hb d_Mo_bit_15 (by decide) ?_
    exact W.iret hx hb hr (fun t ht hW => ⟨_, trivial, rfl, ht⟩) (fun q h => nomatch h) d_Mo_bit_27
abbrev ws_Mo_isContext1 : List Cond := Cond.code y_Mo_isContext b_Mo_isContext 1 (some .boolean) :: aw_G
abbrev rm_Mo_isContext1 : Room := { frames := 0, cells := 0, slots := 0, locals := 0 }
set_option maxHeartbeats 4000000 in
set_option maxRecDepth 100000 in
theorem k_Mo_isContext1 (l : Launch) (j : Nat) (hj : j < 4) : Met l y_Mo_isContext ws_Mo_isContext1 rm_Mo_isContext1 (va_Pc ([.int (nI j)] : List Value) (fun _ => True)) (aw_RI (fun r => r = nI 1)) 0 0 (fun _ => False) := by
  refine Met.ofW (cc := b_Mo_isContext) (maxL := 1) (ret := (some .boolean)) (by decide) rfl ?_
  intro p e s m args below meth c s₁ B hml hv
  obtain ⟨rfl, -⟩ := hv
  have hx := B.exec
  have hb := B.bytes
  have hr := B.returns
  have hG : ∀ w ∈ aw_G, w.before _ s = true := fun w h => atoms_spec (ws := ws_Mo_isContext1) B.pre w (List.mem_cons_of_mem _ h)
  have hown : s.vm.findClass "RuleCiphersModel" = some m.cls := findClass_of_methodNamed B.named
  have hlocks := B.notSynchronized
  have hl := lv_entry ([.int (nI j)] : List Value) (n := 1) (Nat.le_of_ble_eq_true rfl)
  rw [lg_entry_eq]
  generalize (lg_sl ([.int (nI j)] : List Value) ++ List.replicate (1 - (lg_sl ([.int (nI j)] : List Value)).length) Slot.unset).toArray = ls at hl ⊢
  have hl : lv_has ls 1 [(0, .int (nI j))] := hl
  refine lv_iload_n hx hb d_Mo_isContext_0 rfl (lv_at hl 0 rfl) ?_
  refine lv_if_lt (tgt := 13) hx hb d_Mo_isContext_1 (by decide) (fun h => absurd h (show ¬ nI j < nI 0 from fun h9 => absurd ((nI_ltI (by omega) (by omega)).mp h9) (by omega))) (fun _ => ?_)
  refine lv_iload_n hx hb d_Mo_isContext_4 rfl (lv_at hl 0 rfl) ?_
  refine lv_iconst (v := nI 4) hx hb d_Mo_isContext_5 (by decide +kernel) ?_
  refine lv_icmp_ge (tgt := 13) hx hb d_Mo_isContext_6 (by decide) (fun h => absurd h (show ¬ nI 4 ≤ nI j from fun h9 => absurd ((nI_leI (by omega) (by omega)).mp h9) (by omega))) (fun _ => ?_)
  refine lv_iconst (v := nI 1) hx hb d_Mo_isContext_9 (by decide +kernel) ?_
  refine lv_goto (tgt := 14) hx hb d_Mo_isContext_10 (by decide) ?_
  exact W.zret hx hb hr (by decide +kernel) (fun t ht hW => ⟨_, rfl, rfl, ht⟩) (fun q h => nomatch h) d_Mo_isContext_14
abbrev ws_Mo_isContext0 : List Cond := Cond.code y_Mo_isContext b_Mo_isContext 1 (some .boolean) :: aw_G
abbrev rm_Mo_isContext0 : Room := { frames := 0, cells := 0, slots := 0, locals := 0 }
set_option maxHeartbeats 4000000 in
set_option maxRecDepth 100000 in
theorem k_Mo_isContext0 (l : Launch) (c0 : Int32) (hc : c0 < 0 ∨ (¬ c0 < 0 ∧ ¬ c0 < nI 4)) : Met l y_Mo_isContext ws_Mo_isContext0 rm_Mo_isContext0 (va_Pc ([.int c0] : List Value) (fun _ => True)) (aw_RI (fun r => r = nI 0)) 0 0 (fun _ => False) := by
  refine Met.ofW (cc := b_Mo_isContext) (maxL := 1) (ret := (some .boolean)) (by decide) rfl ?_
  intro p e s m args below meth c s₁ B hml hv
  obtain ⟨rfl, -⟩ := hv
  have hx := B.exec
  have hb := B.bytes
  have hr := B.returns
  have hG : ∀ w ∈ aw_G, w.before _ s = true := fun w h => atoms_spec (ws := ws_Mo_isContext0) B.pre w (List.mem_cons_of_mem _ h)
  have hown : s.vm.findClass "RuleCiphersModel" = some m.cls := findClass_of_methodNamed B.named
  have hlocks := B.notSynchronized
  have hl := lv_entry ([.int c0] : List Value) (n := 1) (Nat.le_of_ble_eq_true rfl)
  rw [lg_entry_eq]
  generalize (lg_sl ([.int c0] : List Value) ++ List.replicate (1 - (lg_sl ([.int c0] : List Value)).length) Slot.unset).toArray = ls at hl ⊢
  have hl : lv_has ls 1 [(0, .int c0)] := hl
  rcases hc with hc | hc
  · refine lv_iload_n hx hb d_Mo_isContext_0 rfl (lv_at hl 0 rfl) ?_
    refine lv_if_lt (tgt := 13) hx hb d_Mo_isContext_1 (by decide) (fun _ => ?_) (fun h => absurd hc h)
    refine lv_iconst (v := nI 0) hx hb d_Mo_isContext_13 (by decide +kernel) ?_
    exact W.zret hx hb hr (by decide +kernel) (fun t ht hW => ⟨_, rfl, rfl, ht⟩) (fun q h => nomatch h) d_Mo_isContext_14
  · refine lv_iload_n hx hb d_Mo_isContext_0 rfl (lv_at hl 0 rfl) ?_
    refine lv_if_lt (tgt := 13) hx hb d_Mo_isContext_1 (by decide) (fun h => absurd h hc.1) (fun _ => ?_)
    refine lv_iload_n hx hb d_Mo_isContext_4 rfl (lv_at hl 0 rfl) ?_
    refine lv_iconst (v := nI 4) hx hb d_Mo_isContext_5 (by decide +kernel) ?_
    refine lv_icmp_ge (tgt := 13) hx hb d_Mo_isContext_6 (by decide) (fun _ => ?_) (fun h => absurd (Int32.not_lt.mp hc.2) h)
    refine lv_iconst (v := nI 0) hx hb d_Mo_isContext_13 (by decide +kernel) ?_
    exact W.zret hx hb hr (by decide +kernel) (fun t ht hW => ⟨_, rfl, rfl, ht⟩) (fun q h => nomatch h) d_Mo_isContext_14
abbrev ws_Mo_isPart1 : List Cond := Cond.code y_Mo_isPart b_Mo_isPart 2 (some .boolean) :: aw_G
abbrev rm_Mo_isPart1 : Room := { frames := 0, cells := 0, slots := 0, locals := 0 }
set_option maxHeartbeats 4000000 in
set_option maxRecDepth 100000 in
theorem k_Mo_isPart1 (l : Launch) (k : Nat) (mm : Nat) (hk : k + mm ≤ 64) : Met l y_Mo_isPart ws_Mo_isPart1 rm_Mo_isPart1 (va_Pc ([.int (nI k), .int (nI mm)] : List Value) (fun _ => True)) (aw_RI (fun r => r = nI 1)) 0 0 (fun _ => False) := by
  refine Met.ofW (cc := b_Mo_isPart) (maxL := 2) (ret := (some .boolean)) (by decide) rfl ?_
  intro p e s m args below meth c s₁ B hml hv
  obtain ⟨rfl, -⟩ := hv
  have hx := B.exec
  have hb := B.bytes
  have hr := B.returns
  have hG : ∀ w ∈ aw_G, w.before _ s = true := fun w h => atoms_spec (ws := ws_Mo_isPart1) B.pre w (List.mem_cons_of_mem _ h)
  have hown : s.vm.findClass "RuleCiphersModel" = some m.cls := findClass_of_methodNamed B.named
  have hlocks := B.notSynchronized
  have hl := lv_entry ([.int (nI k), .int (nI mm)] : List Value) (n := 2) (Nat.le_of_ble_eq_true rfl)
  rw [lg_entry_eq]
  generalize (lg_sl ([.int (nI k), .int (nI mm)] : List Value) ++ List.replicate (2 - (lg_sl ([.int (nI k), .int (nI mm)] : List Value)).length) Slot.unset).toArray = ls at hl ⊢
  have hl : lv_has ls 2 [(0, .int (nI k)), (1, .int (nI mm))] := hl
  refine lv_iload_n hx hb d_Mo_isPart_0 rfl (lv_at hl 0 rfl) ?_
  refine lv_if_lt (tgt := 26) hx hb d_Mo_isPart_1 (by decide) (fun h => absurd h (show ¬ nI k < nI 0 from fun h9 => absurd ((nI_ltI (by omega) (by omega)).mp h9) (by omega))) (fun _ => ?_)
  refine lv_iload_n hx hb d_Mo_isPart_4 rfl (lv_at hl 1 rfl) ?_
  refine lv_if_lt (tgt := 26) hx hb d_Mo_isPart_5 (by decide) (fun h => absurd h (show ¬ nI mm < nI 0 from fun h9 => absurd ((nI_ltI (by omega) (by omega)).mp h9) (by omega))) (fun _ => ?_)
  refine lv_iload_n hx hb d_Mo_isPart_8 rfl (lv_at hl 0 rfl) ?_
  refine lv_bipush (v := nI 64) hx hb d_Mo_isPart_9 (by decide +kernel) ?_
  refine lv_icmp_gt (tgt := 26) hx hb d_Mo_isPart_11 (by decide) (fun h => absurd h (show ¬ nI 64 < nI k from fun h9 => absurd ((nI_ltI (by omega) (by omega)).mp h9) (by omega))) (fun _ => ?_)
  refine lv_iload_n hx hb d_Mo_isPart_14 rfl (lv_at hl 1 rfl) ?_
  refine lv_bipush (v := nI 64) hx hb d_Mo_isPart_15 (by decide +kernel) ?_
  refine lv_iload_n hx hb d_Mo_isPart_17 rfl (lv_at hl 0 rfl) ?_
  refine lv_isub hx hb d_Mo_isPart_18 ?_
  refine aw_ti (pk_sub (a := 64) (b := k) (by omega)) ?_
  refine lv_icmp_gt (tgt := 26) hx hb d_Mo_isPart_19 (by decide) (fun h => absurd h (show ¬ nI (64 - k) < nI mm from fun h9 => absurd ((nI_ltI (by omega) (by omega)).mp h9) (by omega))) (fun _ => ?_)
  refine lv_iconst (v := nI 1) hx hb d_Mo_isPart_22 (by decide +kernel) ?_
  refine lv_goto (tgt := 27) hx hb d_Mo_isPart_23 (by decide) ?_
  exact W.zret hx hb hr (by decide +kernel) (fun t ht hW => ⟨_, rfl, rfl, ht⟩) (fun q h => nomatch h) d_Mo_isPart_27
abbrev ws_Mo_isPart0 : List Cond := Cond.code y_Mo_isPart b_Mo_isPart 2 (some .boolean) :: aw_G
abbrev rm_Mo_isPart0 : Room := { frames := 0, cells := 0, slots := 0, locals := 0 }
set_option maxHeartbeats 4000000 in
set_option maxRecDepth 100000 in
theorem k_Mo_isPart0 (l : Launch) (fr : Int32) (m0 : Int32) (hi : fr < 0 ∨ (¬ fr < 0 ∧ m0 < 0) ∨ (¬ fr < 0 ∧ ¬ m0 < 0 ∧ nI 64 < fr) ∨ (¬ fr < 0 ∧ ¬ m0 < 0 ∧ ¬ nI 64 < fr ∧ nI 64 - fr < m0)) : Met l y_Mo_isPart ws_Mo_isPart0 rm_Mo_isPart0 (va_Pc ([.int fr, .int m0] : List Value) (fun _ => True)) (aw_RI (fun r => r = nI 0)) 0 0 (fun _ => False) := by
  refine Met.ofW (cc := b_Mo_isPart) (maxL := 2) (ret := (some .boolean)) (by decide) rfl ?_
  intro p e s m args below meth c s₁ B hml hv
  obtain ⟨rfl, -⟩ := hv
  have hx := B.exec
  have hb := B.bytes
  have hr := B.returns
  have hG : ∀ w ∈ aw_G, w.before _ s = true := fun w h => atoms_spec (ws := ws_Mo_isPart0) B.pre w (List.mem_cons_of_mem _ h)
  have hown : s.vm.findClass "RuleCiphersModel" = some m.cls := findClass_of_methodNamed B.named
  have hlocks := B.notSynchronized
  have hl := lv_entry ([.int fr, .int m0] : List Value) (n := 2) (Nat.le_of_ble_eq_true rfl)
  rw [lg_entry_eq]
  generalize (lg_sl ([.int fr, .int m0] : List Value) ++ List.replicate (2 - (lg_sl ([.int fr, .int m0] : List Value)).length) Slot.unset).toArray = ls at hl ⊢
  have hl : lv_has ls 2 [(0, .int fr), (1, .int m0)] := hl
  rcases hi with hi | hi | hi | hi
  · refine lv_iload_n hx hb d_Mo_isPart_0 rfl (lv_at hl 0 rfl) ?_
    refine lv_if_lt (tgt := 26) hx hb d_Mo_isPart_1 (by decide) (fun _ => ?_) (fun h => absurd hi h)
    refine lv_iconst (v := nI 0) hx hb d_Mo_isPart_26 (by decide +kernel) ?_
    exact W.zret hx hb hr (by decide +kernel) (fun t ht hW => ⟨_, rfl, rfl, ht⟩) (fun q h => nomatch h) d_Mo_isPart_27
  · refine lv_iload_n hx hb d_Mo_isPart_0 rfl (lv_at hl 0 rfl) ?_
    refine lv_if_lt (tgt := 26) hx hb d_Mo_isPart_1 (by decide) (fun h => absurd h hi.1) (fun _ => ?_)
    refine lv_iload_n hx hb d_Mo_isPart_4 rfl (lv_at hl 1 rfl) ?_
    refine lv_if_lt (tgt := 26) hx hb d_Mo_isPart_5 (by decide) (fun _ => ?_) (fun h => absurd hi.2 h)
    refine lv_iconst (v := nI 0) hx hb d_Mo_isPart_26 (by decide +kernel) ?_
    exact W.zret hx hb hr (by decide +kernel) (fun t ht hW => ⟨_, rfl, rfl, ht⟩) (fun q h => nomatch h) d_Mo_isPart_27
  · refine lv_iload_n hx hb d_Mo_isPart_0 rfl (lv_at hl 0 rfl) ?_
    refine lv_if_lt (tgt := 26) hx hb d_Mo_isPart_1 (by decide) (fun h => absurd h hi.1) (fun _ => ?_)
    refine lv_iload_n hx hb d_Mo_isPart_4 rfl (lv_at hl 1 rfl) ?_
    refine lv_if_lt (tgt := 26) hx hb d_Mo_isPart_5 (by decide) (fun h => absurd h hi.2.1) (fun _ => ?_)
    refine lv_iload_n hx hb d_Mo_isPart_8 rfl (lv_at hl 0 rfl) ?_
    refine lv_bipush (v := nI 64) hx hb d_Mo_isPart_9 (by decide +kernel) ?_
    refine lv_icmp_gt (tgt := 26) hx hb d_Mo_isPart_11 (by decide) (fun _ => ?_) (fun h => absurd hi.2.2 h)
    refine lv_iconst (v := nI 0) hx hb d_Mo_isPart_26 (by decide +kernel) ?_
    exact W.zret hx hb hr (by decide +kernel) (fun t ht hW => ⟨_, rfl, rfl, ht⟩) (fun q h => nomatch h) d_Mo_isPart_27
  · refine lv_iload_n hx hb d_Mo_isPart_0 rfl (lv_at hl 0 rfl) ?_
    refine lv_if_lt (tgt := 26) hx hb d_Mo_isPart_1 (by decide) (fun h => absurd h hi.1) (fun _ => ?_)
    refine lv_iload_n hx hb d_Mo_isPart_4 rfl (lv_at hl 1 rfl) ?_
    refine lv_if_lt (tgt := 26) hx hb d_Mo_isPart_5 (by decide) (fun h => absurd h hi.2.1) (fun _ => ?_)
    refine lv_iload_n hx hb d_Mo_isPart_8 rfl (lv_at hl 0 rfl) ?_
    refine lv_bipush (v := nI 64) hx hb d_Mo_isPart_9 (by decide +kernel) ?_
    refine lv_icmp_gt (tgt := 26) hx hb d_Mo_isPart_11 (by decide) (fun h => absurd h hi.2.2.1) (fun _ => ?_)
    refine lv_iload_n hx hb d_Mo_isPart_14 rfl (lv_at hl 1 rfl) ?_
    refine lv_bipush (v := nI 64) hx hb d_Mo_isPart_15 (by decide +kernel) ?_
    refine lv_iload_n hx hb d_Mo_isPart_17 rfl (lv_at hl 0 rfl) ?_
    refine lv_isub hx hb d_Mo_isPart_18 ?_
    refine lv_icmp_gt (tgt := 26) hx hb d_Mo_isPart_19 (by decide) (fun _ => ?_) (fun h => absurd hi.2.2.2 h)
    refine lv_iconst (v := nI 0) hx hb d_Mo_isPart_26 (by decide +kernel) ?_
    exact W.zret hx hb hr (by decide +kernel) (fun t ht hW => ⟨_, rfl, rfl, ht⟩) (fun q h => nomatch h) d_Mo_isPart_27
