abbrev ws_Ru_turnLeft : List Cond := Cond.code y_Ru_turnLeft b_Ru_turnLeft 2 (some .int) :: aw_G
abbrev rm_Ru_turnLeft : Room := { frames := 0, cells := 0, slots := 0, locals := 0 }
set_option maxHeartbeats 4000000 in
set_option maxRecDepth 100000 in
theorem k_Ru_turnLeft (l : Launch) (a0 : Int32) (a1 : Int32) : Met l y_Ru_turnLeft ws_Ru_turnLeft rm_Ru_turnLeft (va_Pc ([.int a0, .int a1] : List Value) (fun _ => True)) (aw_RI (fun r => True)) 0 0 (fun _ => False) := by
  refine Met.ofW (cc := b_Ru_turnLeft) (maxL := 2) (ret := (some .int)) (by decide) rfl ?_
  intro p e s m args below meth c s₁ B hml hv
  obtain ⟨rfl, -⟩ := hv
  have hx := B.exec
  have hb := B.bytes
  have hr := B.returns
  have hG : ∀ w ∈ aw_G, w.before _ s = true := fun w h => atoms_spec (ws := ws_Ru_turnLeft) B.pre w (List.mem_cons_of_mem _ h)
  have hown : s.vm.findClass "RuleCiphers" = some m.cls := findClass_of_methodNamed B.named
  have hlocks := B.notSynchronized
  have hl := lv_entry ([.int a0, .int a1] : List Value) (n := 2) (Nat.le_of_ble_eq_true rfl)
  rw [lg_entry_eq]
  generalize (lg_sl ([.int a0, .int a1] : List Value) ++ List.replicate (2 - (lg_sl ([.int a0, .int a1] : List Value)).length) Slot.unset).toArray = ls at hl ⊢
  have hl : lv_has ls 2 [(0, .int a0), (1, .int a1)] := hl
  refine lv_iload_n hx hb d_Ru_turnLeft_0 rfl (lv_at hl 0 rfl) ?_
  refine lv_iload_n hx hb d_Ru_turnLeft_1 rfl (lv_at hl 1 rfl) ?_
  refine lv_ishl hx hb d_Ru_turnLeft_2 ?_
  refine lv_topi (fun x1 _ => ?_)
  refine lv_iload_n hx hb d_Ru_turnLeft_3 rfl (lv_at hl 0 rfl) ?_
  refine lv_iload_n hx hb d_Ru_turnLeft_4 rfl (lv_at hl 1 rfl) ?_
  refine lv_ineg hx hb d_Ru_turnLeft_5 ?_
  refine lv_topi (fun x2 _ => ?_)
  refine lv_iushr hx hb d_Ru_turnLeft_6 rfl ?_
  refine lv_topi (fun x3 _ => ?_)
  refine lv_ior hx hb d_Ru_turnLeft_7 ?_
  refine lv_topi (fun x4 _ => ?_)
  exact W.iret hx hb hr (fun t ht hW => ⟨_, trivial, rfl, ht⟩) (fun q h => nomatch h) d_Ru_turnLeft_8
abbrev ws_Ru_turnRight : List Cond := Cond.code y_Ru_turnRight b_Ru_turnRight 2 (some .int) :: aw_G
abbrev rm_Ru_turnRight : Room := { frames := 0, cells := 0, slots := 0, locals := 0 }
set_option maxHeartbeats 4000000 in
set_option maxRecDepth 100000 in
theorem k_Ru_turnRight (l : Launch) (a0 : Int32) (a1 : Int32) : Met l y_Ru_turnRight ws_Ru_turnRight rm_Ru_turnRight (va_Pc ([.int a0, .int a1] : List Value) (fun _ => True)) (aw_RI (fun r => True)) 0 0 (fun _ => False) := by
  refine Met.ofW (cc := b_Ru_turnRight) (maxL := 2) (ret := (some .int)) (by decide) rfl ?_
  intro p e s m args below meth c s₁ B hml hv
  obtain ⟨rfl, -⟩ := hv
  have hx := B.exec
  have hb := B.bytes
  have hr := B.returns
  have hG : ∀ w ∈ aw_G, w.before _ s = true := fun w h => atoms_spec (ws := ws_Ru_turnRight) B.pre w (List.mem_cons_of_mem _ h)
  have hown : s.vm.findClass "RuleCiphers" = some m.cls := findClass_of_methodNamed B.named
  have hlocks := B.notSynchronized
  have hl := lv_entry ([.int a0, .int a1] : List Value) (n := 2) (Nat.le_of_ble_eq_true rfl)
  rw [lg_entry_eq]
  generalize (lg_sl ([.int a0, .int a1] : List Value) ++ List.replicate (2 - (lg_sl ([.int a0, .int a1] : List Value)).length) Slot.unset).toArray = ls at hl ⊢
  have hl : lv_has ls 2 [(0, .int a0), (1, .int a1)] := hl
  refine lv_iload_n hx hb d_Ru_turnRight_0 rfl (lv_at hl 0 rfl) ?_
  refine lv_iload_n hx hb d_Ru_turnRight_1 rfl (lv_at hl 1 rfl) ?_
  refine lv_iushr hx hb d_Ru_turnRight_2 rfl ?_
  refine lv_topi (fun x1 _ => ?_)
  refine lv_iload_n hx hb d_Ru_turnRight_3 rfl (lv_at hl 0 rfl) ?_
  refine lv_iload_n hx hb d_Ru_turnRight_4 rfl (lv_at hl 1 rfl) ?_
  refine lv_ineg hx hb d_Ru_turnRight_5 ?_
  refine lv_topi (fun x2 _ => ?_)
  refine lv_ishl hx hb d_Ru_turnRight_6 ?_
  refine lv_topi (fun x3 _ => ?_)
  refine lv_ior hx hb d_Ru_turnRight_7 ?_
  refine lv_topi (fun x4 _ => ?_)
  exact W.iret hx hb hr (fun t ht hW => ⟨_, trivial, rfl, ht⟩) (fun q h => nomatch h) d_Ru_turnRight_8
abbrev ws_Ru_bytesReversed : List Cond := Cond.code y_Ru_bytesReversed b_Ru_bytesReversed 1 (some .int) :: aw_G
abbrev rm_Ru_bytesReversed : Room := { frames := 0, cells := 0, slots := 0, locals := 0 }
set_option maxHeartbeats 4000000 in
set_option maxRecDepth 100000 in
theorem k_Ru_bytesReversed (l : Launch) (a0 : Int32) : Met l y_Ru_bytesReversed ws_Ru_bytesReversed rm_Ru_bytesReversed (va_Pc ([.int a0] : List Value) (fun _ => True)) (aw_RI (fun r => True)) 0 0 (fun _ => False) := by
  refine Met.ofW (cc := b_Ru_bytesReversed) (maxL := 1) (ret := (some .int)) (by decide) rfl ?_
  intro p e s m args below meth c s₁ B hml hv
  obtain ⟨rfl, -⟩ := hv
  have hx := B.exec
  have hb := B.bytes
  have hr := B.returns
  have hG : ∀ w ∈ aw_G, w.before _ s = true := fun w h => atoms_spec (ws := ws_Ru_bytesReversed) B.pre w (List.mem_cons_of_mem _ h)
  have hown : s.vm.findClass "RuleCiphers" = some m.cls := findClass_of_methodNamed B.named
  have hlocks := B.notSynchronized
  have hl := lv_entry ([.int a0] : List Value) (n := 1) (Nat.le_of_ble_eq_true rfl)
  rw [lg_entry_eq]
  generalize (lg_sl ([.int a0] : List Value) ++ List.replicate (1 - (lg_sl ([.int a0] : List Value)).length) Slot.unset).toArray = ls at hl ⊢
  have hl : lv_has ls 1 [(0, .int a0)] := hl
  refine lv_iload_n hx hb d_Ru_bytesReversed_0 rfl (lv_at hl 0 rfl) ?_
  refine lv_bipush (v := nI 24) hx hb d_Ru_bytesReversed_1 (by decide +kernel) ?_
  refine lv_ishl hx hb d_Ru_bytesReversed_3 ?_
  refine lv_topi (fun x1 _ => ?_)
  refine lv_iload_n hx hb d_Ru_bytesReversed_4 rfl (lv_at hl 0 rfl) ?_
  refine lv_ldc (v := 65280) hx hb hown (hG _ gw_4_58) d_Ru_bytesReversed_5 ?_
  refine lv_iand hx hb d_Ru_bytesReversed_7 ?_
  refine lv_topi (fun x2 _ => ?_)
  refine lv_bipush (v := nI 8) hx hb d_Ru_bytesReversed_8 (by decide +kernel) ?_
  refine lv_ishl hx hb d_Ru_bytesReversed_10 ?_
  refine lv_topi (fun x3 _ => ?_)
  refine lv_ior hx hb d_Ru_bytesReversed_11 ?_
  refine lv_topi (fun x4 _ => ?_)
  refine lv_iload_n hx hb d_Ru_bytesReversed_12 rfl (lv_at hl 0 rfl) ?_
  refine lv_bipush (v := nI 8) hx hb d_Ru_bytesReversed_13 (by decide +kernel) ?_
  refine lv_iushr hx hb d_Ru_bytesReversed_15 rfl ?_
  refine lv_topi (fun x5 _ => ?_)
  refine lv_ldc (v := 65280) hx hb hown (hG _ gw_4_58) d_Ru_bytesReversed_16 ?_
  refine lv_iand hx hb d_Ru_bytesReversed_18 ?_
  refine lv_topi (fun x6 _ => ?_)
  refine lv_ior hx hb d_Ru_bytesReversed_19 ?_
  refine lv_topi (fun x7 _ => ?_)
  refine lv_iload_n hx hb d_Ru_bytesReversed_20 rfl (lv_at hl 0 rfl) ?_
  refine lv_bipush (v := nI 24) hx hb d_Ru_bytesReversed_21 (by decide +kernel) ?_
  refine lv_iushr hx hb d_Ru_bytesReversed_23 rfl ?_
  refine lv_topi (fun x8 _ => ?_)
  refine lv_ior hx hb d_Ru_bytesReversed_24 ?_
  refine lv_topi (fun x9 _ => ?_)
  exact W.iret hx hb hr (fun t ht hW => ⟨_, trivial, rfl, ht⟩) (fun q h => nomatch h) d_Ru_bytesReversed_25
abbrev ws_Ru_firstHalf : List Cond := Cond.code y_Ru_firstHalf b_Ru_firstHalf 2 (some .int) :: aw_G
abbrev rm_Ru_firstHalf : Room := { frames := 0, cells := 0, slots := 0, locals := 0 }
set_option maxHeartbeats 4000000 in
set_option maxRecDepth 100000 in
theorem k_Ru_firstHalf (l : Launch) (a0 : Int64) : Met l y_Ru_firstHalf ws_Ru_firstHalf rm_Ru_firstHalf (va_Pc ([.long a0] : List Value) (fun _ => True)) (aw_RI (fun r => True)) 0 0 (fun _ => False) := by
  refine Met.ofW (cc := b_Ru_firstHalf) (maxL := 2) (ret := (some .int)) (by decide) rfl ?_
  intro p e s m args below meth c s₁ B hml hv
  obtain ⟨rfl, -⟩ := hv
  have hx := B.exec
  have hb := B.bytes
  have hr := B.returns
  have hG : ∀ w ∈ aw_G, w.before _ s = true := fun w h => atoms_spec (ws := ws_Ru_firstHalf) B.pre w (List.mem_cons_of_mem _ h)
  have hown : s.vm.findClass "RuleCiphers" = some m.cls := findClass_of_methodNamed B.named
  have hlocks := B.notSynchronized
  have hl := lv_entry ([.long a0] : List Value) (n := 2) (Nat.le_of_ble_eq_true rfl)
  rw [lg_entry_eq]
  generalize (lg_sl ([.long a0] : List Value) ++ List.replicate (2 - (lg_sl ([.long a0] : List Value)).length) Slot.unset).toArray = ls at hl ⊢
  have hl : lv_has ls 2 [(0, .long a0)] := hl
  refine lv_lload_n hx hb d_Ru_firstHalf_0 rfl (lv_at hl 0 rfl) ?_
  refine lv_bipush (v := nI 32) hx hb d_Ru_firstHalf_1 (by decide +kernel) ?_
  refine lv_lushr hx hb d_Ru_firstHalf_3 rfl ?_
  refine lv_topl (fun y1 _ => ?_)
  refine lv_l2i hx hb d_Ru_firstHalf_4 rfl ?_
  refine lv_topi (fun x2 _ => ?_)
  exact W.iret hx hb hr (fun t ht hW => ⟨_, trivial, rfl, ht⟩) (fun q h => nomatch h) d_Ru_firstHalf_5
abbrev ws_Ru_secondHalf : List Cond := Cond.code y_Ru_secondHalf b_Ru_secondHalf 2 (some .int) :: aw_G
abbrev rm_Ru_secondHalf : Room := { frames := 0, cells := 0, slots := 0, locals := 0 }
set_option maxHeartbeats 4000000 in
set_option maxRecDepth 100000 in
theorem k_Ru_secondHalf (l : Launch) (a0 : Int64) : Met l y_Ru_secondHalf ws_Ru_secondHalf rm_Ru_secondHalf (va_Pc ([.long a0] : List Value) (fun _ => True)) (aw_RI (fun r => True)) 0 0 (fun _ => False) := by
  refine Met.ofW (cc := b_Ru_secondHalf) (maxL := 2) (ret := (some .int)) (by decide) rfl ?_
  intro p e s m args below meth c s₁ B hml hv
  obtain ⟨rfl, -⟩ := hv
  have hx := B.exec
  have hb := B.bytes
  have hr := B.returns
  have hG : ∀ w ∈ aw_G, w.before _ s = true := fun w h => atoms_spec (ws := ws_Ru_secondHalf) B.pre w (List.mem_cons_of_mem _ h)
  have hown : s.vm.findClass "RuleCiphers" = some m.cls := findClass_of_methodNamed B.named
  have hlocks := B.notSynchronized
  have hl := lv_entry ([.long a0] : List Value) (n := 2) (Nat.le_of_ble_eq_true rfl)
  rw [lg_entry_eq]
  generalize (lg_sl ([.long a0] : List Value) ++ List.replicate (2 - (lg_sl ([.long a0] : List Value)).length) Slot.unset).toArray = ls at hl ⊢
  have hl : lv_has ls 2 [(0, .long a0)] := hl
  refine lv_lload_n hx hb d_Ru_secondHalf_0 rfl (lv_at hl 0 rfl) ?_
  refine lv_l2i hx hb d_Ru_secondHalf_1 rfl ?_
  refine lv_topi (fun x1 _ => ?_)
  exact W.iret hx hb hr (fun t ht hW => ⟨_, trivial, rfl, ht⟩) (fun q h => nomatch h) d_Ru_secondHalf_2
abbrev ws_Ru_joined : List Cond := Cond.code y_Ru_joined b_Ru_joined 2 (some .long) :: aw_G
abbrev rm_Ru_joined : Room := { frames := 0, cells := 0, slots := 0, locals := 0 }
set_option maxHeartbeats 4000000 in
set_option maxRecDepth 100000 in
theorem k_Ru_joined (l : Launch) (a0 : Int32) (a1 : Int32) : Met l y_Ru_joined ws_Ru_joined rm_Ru_joined (va_Pc ([.int a0, .int a1] : List Value) (fun _ => True)) (aw_RL (fun r => True)) 0 0 (fun _ => False) := by
  refine Met.ofW (cc := b_Ru_joined) (maxL := 2) (ret := (some .long)) (by decide) rfl ?_
  intro p e s m args below meth c s₁ B hml hv
  obtain ⟨rfl, -⟩ := hv
  have hx := B.exec
  have hb := B.bytes
  have hr := B.returns
  have hG : ∀ w ∈ aw_G, w.before _ s = true := fun w h => atoms_spec (ws := ws_Ru_joined) B.pre w (List.mem_cons_of_mem _ h)
  have hown : s.vm.findClass "RuleCiphers" = some m.cls := findClass_of_methodNamed B.named
  have hlocks := B.notSynchronized
  have hl := lv_entry ([.int a0, .int a1] : List Value) (n := 2) (Nat.le_of_ble_eq_true rfl)
  rw [lg_entry_eq]
  generalize (lg_sl ([.int a0, .int a1] : List Value) ++ List.replicate (2 - (lg_sl ([.int a0, .int a1] : List Value)).length) Slot.unset).toArray = ls at hl ⊢
  have hl : lv_has ls 2 [(0, .int a0), (1, .int a1)] := hl
  refine lv_iload_n hx hb d_Ru_joined_0 rfl (lv_at hl 0 rfl) ?_
  refine lv_i2l hx hb d_Ru_joined_1 rfl ?_
  refine lv_topl (fun y1 _ => ?_)
  refine lv_bipush (v := nI 32) hx hb d_Ru_joined_2 (by decide +kernel) ?_
  refine lv_lshl hx hb d_Ru_joined_4 rfl ?_
  refine lv_topl (fun y2 _ => ?_)
  refine lv_iload_n hx hb d_Ru_joined_5 rfl (lv_at hl 1 rfl) ?_
  refine lv_i2l hx hb d_Ru_joined_6 rfl ?_
  refine lv_topl (fun y3 _ => ?_)
  refine lv_ldc2 (v := 4294967295) hx hb hown (hG _ gw_6_32) d_Ru_joined_7 ?_
  refine lv_land hx hb d_Ru_joined_10 ?_
  refine lv_topl (fun y4 _ => ?_)
  refine lv_lor hx hb d_Ru_joined_11 ?_
  refine lv_topl (fun y5 _ => ?_)
  exact W.lret hx hb hr (fun t ht hW => ⟨_, trivial, rfl, ht⟩) (fun q h => nomatch h) d_Ru_joined_12
abbrev ws_Ru_keyQuarter : List Cond := Cond.code y_Ru_keyQuarter b_Ru_keyQuarter 7 (some .int) :: aw_G
abbrev rm_Ru_keyQuarter : Room := { frames := 1, cells := 0, slots := 0, locals := 21 }
set_option maxHeartbeats 4000000 in
set_option maxRecDepth 100000 in
theorem k_Ru_keyQuarter (l : Launch) (a0 : Int64) (a1 : Int64) (a2 : Int32) : Met l y_Ru_keyQuarter ws_Ru_keyQuarter rm_Ru_keyQuarter (va_Pc ([.long a0, .long a1, .int a2] : List Value) (fun _ => True)) (aw_RI (fun r => True)) 0 0 (fun _ => False) := by
  refine Met.ofW (cc := b_Ru_keyQuarter) (maxL := 7) (ret := (some .int)) (by decide) rfl ?_
  intro p e s m args below meth c s₁ B hml hv
  obtain ⟨rfl, -⟩ := hv
  have hx := B.exec
  have hb := B.bytes
  have hr := B.returns
  have hG : ∀ w ∈ aw_G, w.before _ s = true := fun w h => atoms_spec (ws := ws_Ru_keyQuarter) B.pre w (List.mem_cons_of_mem _ h)
  have hown : s.vm.findClass "RuleCiphers" = some m.cls := findClass_of_methodNamed B.named
  have hlocks := B.notSynchronized
  have hl := lv_entry ([.long a0, .long a1, .int a2] : List Value) (n := 7) (Nat.le_of_ble_eq_true rfl)
  rw [lg_entry_eq]
  generalize (lg_sl ([.long a0, .long a1, .int a2] : List Value) ++ List.replicate (7 - (lg_sl ([.long a0, .long a1, .int a2] : List Value)).length) Slot.unset).toArray = ls at hl ⊢
  have hl : lv_has ls 7 [(0, .long a0), (2, .long a1), (4, .int a2)] := hl
  refine lv_iload hx hb d_Ru_keyQuarter_0 (lv_at hl 2 rfl) ?_
  refine lv_iconst (v := nI 2) hx hb d_Ru_keyQuarter_2 (by decide +kernel) ?_
  refine lv_icmp_ge (tgt := 10) hx hb d_Ru_keyQuarter_3 (by decide) (fun hb1 => ?_) (fun hb1 => ?_)
  · refine lv_lload_n hx hb d_Ru_keyQuarter_10 rfl (lv_at hl 1 rfl) ?_
    refine lv_lstore hx hb d_Ru_keyQuarter_11 hl (by decide) rfl (fun ls hl => ?_)
    have hl : lv_has ls 7 [(5, .long a1), (0, .long a0), (2, .long a1), (4, .int a2)] := hl
    refine lv_iload hx hb d_Ru_keyQuarter_13 (lv_at hl 3 rfl) ?_
    refine lv_iconst (v := nI 2) hx hb d_Ru_keyQuarter_15 (by decide +kernel) ?_
    refine lv_irem hx hb d_Ru_keyQuarter_16 (by decide +kernel) ?_
    refine lv_topi (fun x2 _ => ?_)
    refine lv_if_ne (tgt := 28) hx hb d_Ru_keyQuarter_17 (by decide) (fun hb3 => ?_) (fun hb3 => ?_)
    · refine lv_lload hx hb d_Ru_keyQuarter_28 (lv_at hl 0 rfl) ?_
      refine aw_ci ((va_runS (As := [.long a1]) (rest := []) ⟨hx, hb, hml, hown, hG⟩ (k_Ru_secondHalf l a1) (aw_wS 1 hG gw_4_55 gw_4_53 gw_0_1 gw_4_54 rfl rfl hd_Ru_secondHalf ⟨Nat.le_of_ble_eq_true rfl, Nat.le_of_ble_eq_true rfl⟩) aw_p0 rfl rfl hl.1 rfl (lv_room (Nat.le_of_ble_eq_true rfl)) d_Ru_keyQuarter_30 ⟨Nat.le_of_ble_eq_true rfl, Nat.le_of_ble_eq_true rfl⟩).run) (fun x4 hx4 => ?_)
      exact W.iret hx hb hr (fun t ht hW => ⟨_, trivial, rfl, ht⟩) (fun q h => nomatch h) d_Ru_keyQuarter_33
    · refine lv_lload hx hb d_Ru_keyQuarter_20 (lv_at hl 0 rfl) ?_
      refine aw_ci ((va_runS (As := [.long a1]) (rest := []) ⟨hx, hb, hml, hown, hG⟩ (k_Ru_firstHalf l a1) (aw_wS 1 hG gw_4_52 gw_4_50 gw_0_1 gw_4_51 rfl rfl hd_Ru_firstHalf ⟨Nat.le_of_ble_eq_true rfl, Nat.le_of_ble_eq_true rfl⟩) aw_p0 rfl rfl hl.1 rfl (lv_room (Nat.le_of_ble_eq_true rfl)) d_Ru_keyQuarter_22 ⟨Nat.le_of_ble_eq_true rfl, Nat.le_of_ble_eq_true rfl⟩).run) (fun x5 hx5 => ?_)
      refine lv_goto (tgt := 33) hx hb d_Ru_keyQuarter_25 (by decide) ?_
      exact W.iret hx hb hr (fun t ht hW => ⟨_, trivial, rfl, ht⟩) (fun q h => nomatch h) d_Ru_keyQuarter_33
  · refine lv_lload_n hx hb d_Ru_keyQuarter_6 rfl (lv_at hl 0 rfl) ?_
    refine lv_goto (tgt := 11) hx hb d_Ru_keyQuarter_7 (by decide) ?_
    refine lv_lstore hx hb d_Ru_keyQuarter_11 hl (by decide) rfl (fun ls hl => ?_)
    have hl : lv_has ls 7 [(5, .long a0), (0, .long a0), (2, .long a1), (4, .int a2)] := hl
    refine lv_iload hx hb d_Ru_keyQuarter_13 (lv_at hl 3 rfl) ?_
    refine lv_iconst (v := nI 2) hx hb d_Ru_keyQuarter_15 (by decide +kernel) ?_
    refine lv_irem hx hb d_Ru_keyQuarter_16 (by decide +kernel) ?_
    refine lv_topi (fun x6 _ => ?_)
    refine lv_if_ne (tgt := 28) hx hb d_Ru_keyQuarter_17 (by decide) (fun hb7 => ?_) (fun hb7 => ?_)
    · refine lv_lload hx hb d_Ru_keyQuarter_28 (lv_at hl 0 rfl) ?_
      refine aw_ci ((va_runS (As := [.long a0]) (rest := []) ⟨hx, hb, hml, hown, hG⟩ (k_Ru_secondHalf l a0) (aw_wS 1 hG gw_4_55 gw_4_53 gw_0_1 gw_4_54 rfl rfl hd_Ru_secondHalf ⟨Nat.le_of_ble_eq_true rfl, Nat.le_of_ble_eq_true rfl⟩) aw_p0 rfl rfl hl.1 rfl (lv_room (Nat.le_of_ble_eq_true rfl)) d_Ru_keyQuarter_30 ⟨Nat.le_of_ble_eq_true rfl, Nat.le_of_ble_eq_true rfl⟩).run) (fun x8 hx8 => ?_)
      exact W.iret hx hb hr (fun t ht hW => ⟨_, trivial, rfl, ht⟩) (fun q h => nomatch h) d_Ru_keyQuarter_33
    · refine lv_lload hx hb d_Ru_keyQuarter_20 (lv_at hl 0 rfl) ?_
      refine aw_ci ((va_runS (As := [.long a0]) (rest := []) ⟨hx, hb, hml, hown, hG⟩ (k_Ru_firstHalf l a0) (aw_wS 1 hG gw_4_52 gw_4_50 gw_0_1 gw_4_51 rfl rfl hd_Ru_firstHalf ⟨Nat.le_of_ble_eq_true rfl, Nat.le_of_ble_eq_true rfl⟩) aw_p0 rfl rfl hl.1 rfl (lv_room (Nat.le_of_ble_eq_true rfl)) d_Ru_keyQuarter_22 ⟨Nat.le_of_ble_eq_true rfl, Nat.le_of_ble_eq_true rfl⟩).run) (fun x9 hx9 => ?_)
      refine lv_goto (tgt := 33) hx hb d_Ru_keyQuarter_25 (by decide) ?_
      exact W.iret hx hb hr (fun t ht hW => ⟨_, trivial, rfl, ht⟩) (fun q h => nomatch h) d_Ru_keyQuarter_33
abbrev ws_Ru_byteOf : List Cond := Cond.code y_Ru_byteOf b_Ru_byteOf 3 (some .int) :: aw_G
abbrev rm_Ru_byteOf : Room := { frames := 0, cells := 0, slots := 0, locals := 0 }
set_option maxHeartbeats 4000000 in
set_option maxRecDepth 100000 in
theorem k_Ru_byteOf (l : Launch) (a0 : Int64) (a1 : Int32) : Met l y_Ru_byteOf ws_Ru_byteOf rm_Ru_byteOf (va_Pc ([.long a0, .int a1] : List Value) (fun _ => True)) (aw_RI (fun r => True)) 0 0 (fun _ => False) := by
  refine Met.ofW (cc := b_Ru_byteOf) (maxL := 3) (ret := (some .int)) (by decide) rfl ?_
  intro p e s m args below meth c s₁ B hml hv
  obtain ⟨rfl, -⟩ := hv
  have hx := B.exec
  have hb := B.bytes
  have hr := B.returns
  have hG : ∀ w ∈ aw_G, w.before _ s = true := fun w h => atoms_spec (ws := ws_Ru_byteOf) B.pre w (List.mem_cons_of_mem _ h)
  have hown : s.vm.findClass "RuleCiphers" = some m.cls := findClass_of_methodNamed B.named
  have hlocks := B.notSynchronized
  have hl := lv_entry ([.long a0, .int a1] : List Value) (n := 3) (Nat.le_of_ble_eq_true rfl)
  rw [lg_entry_eq]
  generalize (lg_sl ([.long a0, .int a1] : List Value) ++ List.replicate (3 - (lg_sl ([.long a0, .int a1] : List Value)).length) Slot.unset).toArray = ls at hl ⊢
  have hl : lv_has ls 3 [(0, .long a0), (2, .int a1)] := hl
  refine lv_lload_n hx hb d_Ru_byteOf_0 rfl (lv_at hl 0 rfl) ?_
  refine lv_bipush (v := nI 56) hx hb d_Ru_byteOf_1 (by decide +kernel) ?_
  refine lv_bipush (v := nI 8) hx hb d_Ru_byteOf_3 (by decide +kernel) ?_
  refine lv_iload_n hx hb d_Ru_byteOf_5 rfl (lv_at hl 1 rfl) ?_
  refine lv_imul hx hb d_Ru_byteOf_6 ?_
  refine lv_topi (fun x1 _ => ?_)
  refine lv_isub hx hb d_Ru_byteOf_7 ?_
  refine lv_topi (fun x2 _ => ?_)
  refine lv_lushr hx hb d_Ru_byteOf_8 rfl ?_
  refine lv_topl (fun y3 _ => ?_)
  refine lv_l2i hx hb d_Ru_byteOf_9 rfl ?_
  refine lv_topi (fun x4 _ => ?_)
  refine lv_sipush (v := nI 255) hx hb d_Ru_byteOf_10 (by decide +kernel) ?_
  refine lv_iand hx hb d_Ru_byteOf_13 ?_
  obtain ⟨k5, hk5, ek5⟩ := pk_andE x4 (m := nI 255) 8 (by decide +kernel)
  refine aw_ti ek5 ?_
  exact W.iret hx hb hr (fun t ht hW => ⟨_, trivial, rfl, ht⟩) (fun q h => nomatch h) d_Ru_byteOf_14
abbrev ws_Id_quarterOf : List Cond := Cond.code y_Id_quarterOf b_Id_quarterOf 3 (some .int) :: aw_G
abbrev rm_Id_quarterOf : Room := { frames := 0, cells := 0, slots := 0, locals := 0 }
set_option maxHeartbeats 4000000 in
set_option maxRecDepth 100000 in
theorem k_Id_quarterOf (l : Launch) (a0 : Int64) (a1 : Int32) : Met l y_Id_quarterOf ws_Id_quarterOf rm_Id_quarterOf (va_Pc ([.long a0, .int a1] : List Value) (fun _ => True)) (aw_RI (fun r => True)) 0 0 (fun _ => False) := by
  refine Met.ofW (cc := b_Id_quarterOf) (maxL := 3) (ret := (some .int)) (by decide) rfl ?_
  intro p e s m args below meth c s₁ B hml hv
  obtain ⟨rfl, -⟩ := hv
  have hx := B.exec
  have hb := B.bytes
  have hr := B.returns
  have hG : ∀ w ∈ aw_G, w.before _ s = true := fun w h => atoms_spec (ws := ws_Id_quarterOf) B.pre w (List.mem_cons_of_mem _ h)
  have hown : s.vm.findClass "RuleCiphers$Idea" = some m.cls := findClass_of_methodNamed B.named
  have hlocks := B.notSynchronized
  have hl := lv_entry ([.long a0, .int a1] : List Value) (n := 3) (Nat.le_of_ble_eq_true rfl)
  rw [lg_entry_eq]
  generalize (lg_sl ([.long a0, .int a1] : List Value) ++ List.replicate (3 - (lg_sl ([.long a0, .int a1] : List Value)).length) Slot.unset).toArray = ls at hl ⊢
  have hl : lv_has ls 3 [(0, .long a0), (2, .int a1)] := hl
  refine lv_lload_n hx hb d_Id_quarterOf_0 rfl (lv_at hl 0 rfl) ?_
  refine lv_bipush (v := nI 48) hx hb d_Id_quarterOf_1 (by decide +kernel) ?_
  refine lv_bipush (v := nI 16) hx hb d_Id_quarterOf_3 (by decide +kernel) ?_
  refine lv_iload_n hx hb d_Id_quarterOf_5 rfl (lv_at hl 1 rfl) ?_
  refine lv_imul hx hb d_Id_quarterOf_6 ?_
  refine lv_topi (fun x1 _ => ?_)
  refine lv_isub hx hb d_Id_quarterOf_7 ?_
  refine lv_topi (fun x2 _ => ?_)
  refine lv_lushr hx hb d_Id_quarterOf_8 rfl ?_
  refine lv_topl (fun y3 _ => ?_)
  refine lv_l2i hx hb d_Id_quarterOf_9 rfl ?_
  refine lv_topi (fun x4 _ => ?_)
  refine lv_ldc (v := 65535) hx hb hown (hG _ gw_4_36) d_Id_quarterOf_10 ?_
  refine lv_iand hx hb d_Id_quarterOf_12 ?_
  refine lv_topi (fun x5 _ => ?_)
  exact W.iret hx hb hr (fun t ht hW => ⟨_, trivial, rfl, ht⟩) (fun q h => nomatch h) d_Id_quarterOf_13
abbrev ws_Id_ofQuarters : List Cond := Cond.code y_Id_ofQuarters b_Id_ofQuarters 8 (some .long) :: aw_G
abbrev rm_Id_ofQuarters : Room := { frames := 0, cells := 0, slots := 0, locals := 0 }
set_option maxHeartbeats 4000000 in
set_option maxRecDepth 100000 in
theorem k_Id_ofQuarters (l : Launch) (a0 : Int64) (a1 : Int64) (a2 : Int64) (a3 : Int64) : Met l y_Id_ofQuarters ws_Id_ofQuarters rm_Id_ofQuarters (va_Pc ([.long a0, .long a1, .long a2, .long a3] : List Value) (fun _ => True)) (aw_RL (fun r => True)) 0 0 (fun _ => False) := by
  refine Met.ofW (cc := b_Id_ofQuarters) (maxL := 8) (ret := (some .long)) (by decide) rfl ?_
  intro p e s m args below meth c s₁ B hml hv
  obtain ⟨rfl, -⟩ := hv
  have hx := B.exec
  have hb := B.bytes
  have hr := B.returns
  have hG : ∀ w ∈ aw_G, w.before _ s = true := fun w h => atoms_spec (ws := ws_Id_ofQuarters) B.pre w (List.mem_cons_of_mem _ h)
  have hown : s.vm.findClass "RuleCiphers$Idea" = some m.cls := findClass_of_methodNamed B.named
  have hlocks := B.notSynchronized
  have hl := lv_entry ([.long a0, .long a1, .long a2, .long a3] : List Value) (n := 8) (Nat.le_of_ble_eq_true rfl)
  rw [lg_entry_eq]
  generalize (lg_sl ([.long a0, .long a1, .long a2, .long a3] : List Value) ++ List.replicate (8 - (lg_sl ([.long a0, .long a1, .long a2, .long a3] : List Value)).length) Slot.unset).toArray = ls at hl ⊢
  have hl : lv_has ls 8 [(0, .long a0), (2, .long a1), (4, .long a2), (6, .long a3)] := hl
  refine lv_lload_n hx hb d_Id_ofQuarters_0 rfl (lv_at hl 0 rfl) ?_
  refine lv_ldc2 (v := 65535) hx hb hown (hG _ gw_6_20) d_Id_ofQuarters_1 ?_
  refine lv_land hx hb d_Id_ofQuarters_4 ?_
  refine lv_topl (fun y1 _ => ?_)
  refine lv_bipush (v := nI 48) hx hb d_Id_ofQuarters_5 (by decide +kernel) ?_
  refine lv_lshl hx hb d_Id_ofQuarters_7 rfl ?_
  refine lv_topl (fun y2 _ => ?_)
  refine lv_lload_n hx hb d_Id_ofQuarters_8 rfl (lv_at hl 1 rfl) ?_
  refine lv_ldc2 (v := 65535) hx hb hown (hG _ gw_6_20) d_Id_ofQuarters_9 ?_
  refine lv_land hx hb d_Id_ofQuarters_12 ?_
  refine lv_topl (fun y3 _ => ?_)
  refine lv_bipush (v := nI 32) hx hb d_Id_ofQuarters_13 (by decide +kernel) ?_
  refine lv_lshl hx hb d_Id_ofQuarters_15 rfl ?_
  refine lv_topl (fun y4 _ => ?_)
  refine lv_lor hx hb d_Id_ofQuarters_16 ?_
  refine lv_topl (fun y5 _ => ?_)
  refine lv_lload hx hb d_Id_ofQuarters_17 (lv_at hl 2 rfl) ?_
  refine lv_ldc2 (v := 65535) hx hb hown (hG _ gw_6_20) d_Id_ofQuarters_19 ?_
  refine lv_land hx hb d_Id_ofQuarters_22 ?_
  refine lv_topl (fun y6 _ => ?_)
  refine lv_bipush (v := nI 16) hx hb d_Id_ofQuarters_23 (by decide +kernel) ?_
  refine lv_lshl hx hb d_Id_ofQuarters_25 rfl ?_
  refine lv_topl (fun y7 _ => ?_)
  refine lv_lor hx hb d_Id_ofQuarters_26 ?_
  refine lv_topl (fun y8 _ => ?_)
  refine lv_lload hx hb d_Id_ofQuarters_27 (lv_at hl 3 rfl) ?_
  refine lv_ldc2 (v := 65535) hx hb hown (hG _ gw_6_20) d_Id_ofQuarters_29 ?_
  refine lv_land hx hb d_Id_ofQuarters_32 ?_
  refine lv_topl (fun y9 _ => ?_)
  refine lv_lor hx hb d_Id_ofQuarters_33 ?_
  refine lv_topl (fun y10 _ => ?_)
  exact W.lret hx hb hr (fun t ht hW => ⟨_, trivial, rfl, ht⟩) (fun q h => nomatch h) d_Id_ofQuarters_34
abbrev ws_Id_times : List Cond := Cond.code y_Id_times b_Id_times 4 (some .int) :: aw_G
abbrev rm_Id_times : Room := { frames := 0, cells := 0, slots := 0, locals := 0 }
set_option maxHeartbeats 4000000 in
set_option maxRecDepth 100000 in
theorem k_Id_times (l : Launch) (a0 : Int32) (a1 : Int32) : Met l y_Id_times ws_Id_times rm_Id_times (va_Pc ([.int a0, .int a1] : List Value) (fun _ => True)) (aw_RI (fun r => True)) 0 0 (fun _ => False) := by
  refine Met.ofW (cc := b_Id_times) (maxL := 4) (ret := (some .int)) (by decide) rfl ?_
  intro p e s m args below meth c s₁ B hml hv
  obtain ⟨rfl, -⟩ := hv
  have hx := B.exec
  have hb := B.bytes
  have hr := B.returns
  have hG : ∀ w ∈ aw_G, w.before _ s = true := fun w h => atoms_spec (ws := ws_Id_times) B.pre w (List.mem_cons_of_mem _ h)
  have hown : s.vm.findClass "RuleCiphers$Idea" = some m.cls := findClass_of_methodNamed B.named
  have hlocks := B.notSynchronized
  have hl := lv_entry ([.int a0, .int a1] : List Value) (n := 4) (Nat.le_of_ble_eq_true rfl)
  rw [lg_entry_eq]
  generalize (lg_sl ([.int a0, .int a1] : List Value) ++ List.replicate (4 - (lg_sl ([.int a0, .int a1] : List Value)).length) Slot.unset).toArray = ls at hl ⊢
  have hl : lv_has ls 4 [(0, .int a0), (1, .int a1)] := hl
  refine lv_iload_n hx hb d_Id_times_0 rfl (lv_at hl 0 rfl) ?_
  refine lv_if_ne (tgt := 9) hx hb d_Id_times_1 (by decide) (fun hb1 => ?_) (fun hb1 => ?_)
  · refine lv_iload_n hx hb d_Id_times_9 rfl (lv_at hl 0 rfl) ?_
    refine lv_i2l hx hb d_Id_times_10 rfl ?_
    refine lv_topl (fun y2 _ => ?_)
    refine lv_iload_n hx hb d_Id_times_11 rfl (lv_at hl 1 rfl) ?_
    refine lv_if_ne (tgt := 20) hx hb d_Id_times_12 (by decide) (fun hb3 => ?_) (fun hb3 => ?_)
    · refine lv_iload_n hx hb d_Id_times_20 rfl (lv_at hl 1 rfl) ?_
      refine lv_i2l hx hb d_Id_times_21 rfl ?_
      refine lv_topl (fun y4 _ => ?_)
      refine lv_lmul hx hb d_Id_times_22 ?_
      refine lv_topl (fun y5 _ => ?_)
      refine lv_lstore_n hx hb d_Id_times_23 rfl hl (by decide) rfl (fun ls hl => ?_)
      have hl : lv_has ls 4 [(2, .long y5), (0, .int a0), (1, .int a1)] := hl
      refine lv_lload_n hx hb d_Id_times_24 rfl (lv_at hl 0 rfl) ?_
      refine lv_ldc2 (v := 65537) hx hb hown (hG _ gw_4_44) d_Id_times_25 ?_
      refine lv_lrem hx hb d_Id_times_28 (by decide +kernel) ?_
      refine lv_topl (fun y6 _ => ?_)
      refine lv_l2i hx hb d_Id_times_29 rfl ?_
      refine lv_topi (fun x7 _ => ?_)
      refine lv_ldc (v := 65535) hx hb hown (hG _ gw_4_36) d_Id_times_30 ?_
      refine lv_iand hx hb d_Id_times_32 ?_
      refine lv_topi (fun x8 _ => ?_)
      exact W.iret hx hb hr (fun t ht hW => ⟨_, trivial, rfl, ht⟩) (fun q h => nomatch h) d_Id_times_33
    · refine lv_ldc (v := 65536) hx hb hown (hG _ gw_4_43) d_Id_times_15 ?_
      refine lv_goto (tgt := 21) hx hb d_Id_times_17 (by decide) ?_
      refine lv_i2l hx hb d_Id_times_21 rfl ?_
      refine lv_topl (fun y9 _ => ?_)
      refine lv_lmul hx hb d_Id_times_22 ?_
      refine lv_topl (fun y10 _ => ?_)
      refine lv_lstore_n hx hb d_Id_times_23 rfl hl (by decide) rfl (fun ls hl => ?_)
      have hl : lv_has ls 4 [(2, .long y10), (0, .int a0), (1, .int a1)] := hl
      refine lv_lload_n hx hb d_Id_times_24 rfl (lv_at hl 0 rfl) ?_
      refine lv_ldc2 (v := 65537) hx hb hown (hG _ gw_4_44) d_Id_times_25 ?_
      refine lv_lrem hx hb d_Id_times_28 (by decide +kernel) ?_
      refine lv_topl (fun y11 _ => ?_)
      refine lv_l2i hx hb d_Id_times_29 rfl ?_
      refine lv_topi (fun x12 _ => ?_)
      refine lv_ldc (v := 65535) hx hb hown (hG _ gw_4_36) d_Id_times_30 ?_
      refine lv_iand hx hb d_Id_times_32 ?_
      refine lv_topi (fun x13 _ => ?_)
      exact W.iret hx hb hr (fun t ht hW => ⟨_, trivial, rfl, ht⟩) (fun q h => nomatch h) d_Id_times_33
  · refine lv_ldc (v := 65536) hx hb hown (hG _ gw_4_43) d_Id_times_4 ?_
    refine lv_goto (tgt := 10) hx hb d_Id_times_6 (by decide) ?_
    refine lv_i2l hx hb d_Id_times_10 rfl ?_
    refine lv_topl (fun y14 _ => ?_)
    refine lv_iload_n hx hb d_Id_times_11 rfl (lv_at hl 1 rfl) ?_
    refine lv_if_ne (tgt := 20) hx hb d_Id_times_12 (by decide) (fun hb15 => ?_) (fun hb15 => ?_)
    · refine lv_iload_n hx hb d_Id_times_20 rfl (lv_at hl 1 rfl) ?_
      refine lv_i2l hx hb d_Id_times_21 rfl ?_
      refine lv_topl (fun y16 _ => ?_)
      refine lv_lmul hx hb d_Id_times_22 ?_
      refine lv_topl (fun y17 _ => ?_)
      refine lv_lstore_n hx hb d_Id_times_23 rfl hl (by decide) rfl (fun ls hl => ?_)
      have hl : lv_has ls 4 [(2, .long y17), (0, .int a0), (1, .int a1)] := hl
      refine lv_lload_n hx hb d_Id_times_24 rfl (lv_at hl 0 rfl) ?_
      refine lv_ldc2 (v := 65537) hx hb hown (hG _ gw_4_44) d_Id_times_25 ?_
      refine lv_lrem hx hb d_Id_times_28 (by decide +kernel) ?_
      refine lv_topl (fun y18 _ => ?_)
      refine lv_l2i hx hb d_Id_times_29 rfl ?_
      refine lv_topi (fun x19 _ => ?_)
      refine lv_ldc (v := 65535) hx hb hown (hG _ gw_4_36) d_Id_times_30 ?_
      refine lv_iand hx hb d_Id_times_32 ?_
      refine lv_topi (fun x20 _ => ?_)
      exact W.iret hx hb hr (fun t ht hW => ⟨_, trivial, rfl, ht⟩) (fun q h => nomatch h) d_Id_times_33
    · refine lv_ldc (v := 65536) hx hb hown (hG _ gw_4_43) d_Id_times_15 ?_
      refine lv_goto (tgt := 21) hx hb d_Id_times_17 (by decide) ?_
      refine lv_i2l hx hb d_Id_times_21 rfl ?_
      refine lv_topl (fun y21 _ => ?_)
      refine lv_lmul hx hb d_Id_times_22 ?_
      refine lv_topl (fun y22 _ => ?_)
      refine lv_lstore_n hx hb d_Id_times_23 rfl hl (by decide) rfl (fun ls hl => ?_)
      have hl : lv_has ls 4 [(2, .long y22), (0, .int a0), (1, .int a1)] := hl
      refine lv_lload_n hx hb d_Id_times_24 rfl (lv_at hl 0 rfl) ?_
      refine lv_ldc2 (v := 65537) hx hb hown (hG _ gw_4_44) d_Id_times_25 ?_
      refine lv_lrem hx hb d_Id_times_28 (by decide +kernel) ?_
      refine lv_topl (fun y23 _ => ?_)
      refine lv_l2i hx hb d_Id_times_29 rfl ?_
      refine lv_topi (fun x24 _ => ?_)
      refine lv_ldc (v := 65535) hx hb hown (hG _ gw_4_36) d_Id_times_30 ?_
      refine lv_iand hx hb d_Id_times_32 ?_
      refine lv_topi (fun x25 _ => ?_)
      exact W.iret hx hb hr (fun t ht hW => ⟨_, trivial, rfl, ht⟩) (fun q h => nomatch h) d_Id_times_33
abbrev ws_Id_middleSwapped : List Cond := Cond.code y_Id_middleSwapped b_Id_middleSwapped 2 (some .long) :: aw_G
abbrev rm_Id_middleSwapped : Room := { frames := 1, cells := 0, slots := 0, locals := 27 }
set_option maxHeartbeats 4000000 in
set_option maxRecDepth 100000 in
theorem k_Id_middleSwapped (l : Launch) (a0 : Int64) : Met l y_Id_middleSwapped ws_Id_middleSwapped rm_Id_middleSwapped (va_Pc ([.long a0] : List Value) (fun _ => True)) (aw_RL (fun r => True)) 0 0 (fun _ => False) := by
  refine Met.ofW (cc := b_Id_middleSwapped) (maxL := 2) (ret := (some .long)) (by decide) rfl ?_
  intro p e s m args below meth c s₁ B hml hv
  obtain ⟨rfl, -⟩ := hv
  have hx := B.exec
  have hb := B.bytes
  have hr := B.returns
  have hG : ∀ w ∈ aw_G, w.before _ s = true := fun w h => atoms_spec (ws := ws_Id_middleSwapped) B.pre w (List.mem_cons_of_mem _ h)
  have hown : s.vm.findClass "RuleCiphers$Idea" = some m.cls := findClass_of_methodNamed B.named
  have hlocks := B.notSynchronized
  have hl := lv_entry ([.long a0] : List Value) (n := 2) (Nat.le_of_ble_eq_true rfl)
  rw [lg_entry_eq]
  generalize (lg_sl ([.long a0] : List Value) ++ List.replicate (2 - (lg_sl ([.long a0] : List Value)).length) Slot.unset).toArray = ls at hl ⊢
  have hl : lv_has ls 2 [(0, .long a0)] := hl
  refine lv_lload_n hx hb d_Id_middleSwapped_0 rfl (lv_at hl 0 rfl) ?_
  refine lv_iconst (v := nI 0) hx hb d_Id_middleSwapped_1 (by decide +kernel) ?_
  refine aw_ci ((va_runS (As := [.long a0, .int (nI 0)]) (rest := []) ⟨hx, hb, hml, hown, hG⟩ (k_Id_quarterOf l a0 (nI 0)) (aw_wS 2 hG gw_4_35 gw_4_33 gw_0_8 gw_4_34 rfl rfl hd_Id_quarterOf ⟨Nat.le_of_ble_eq_true rfl, Nat.le_of_ble_eq_true rfl⟩) aw_p0 rfl rfl hl.1 rfl (lv_room (Nat.le_of_ble_eq_true rfl)) d_Id_middleSwapped_2 ⟨Nat.le_of_ble_eq_true rfl, Nat.le_of_ble_eq_true rfl⟩).run) (fun x1 hx1 => ?_)
  refine lv_i2l hx hb d_Id_middleSwapped_5 rfl ?_
  refine lv_topl (fun y2 _ => ?_)
  refine lv_lload_n hx hb d_Id_middleSwapped_6 rfl (lv_at hl 0 rfl) ?_
  refine lv_iconst (v := nI 2) hx hb d_Id_middleSwapped_7 (by decide +kernel) ?_
  refine aw_ci ((va_runS (As := [.long a0, .int (nI 2)]) (rest := [.long y2]) ⟨hx, hb, hml, hown, hG⟩ (k_Id_quarterOf l a0 (nI 2)) (aw_wS 2 hG gw_4_35 gw_4_33 gw_0_8 gw_4_34 rfl rfl hd_Id_quarterOf ⟨Nat.le_of_ble_eq_true rfl, Nat.le_of_ble_eq_true rfl⟩) aw_p0 rfl rfl hl.1 rfl (lv_room (Nat.le_of_ble_eq_true rfl)) d_Id_middleSwapped_8 ⟨Nat.le_of_ble_eq_true rfl, Nat.le_of_ble_eq_true rfl⟩).run) (fun x3 hx3 => ?_)
  refine lv_i2l hx hb d_Id_middleSwapped_11 rfl ?_
  refine lv_topl (fun y4 _ => ?_)
  refine lv_lload_n hx hb d_Id_middleSwapped_12 rfl (lv_at hl 0 rfl) ?_
  refine lv_iconst (v := nI 1) hx hb d_Id_middleSwapped_13 (by decide +kernel) ?_
  refine aw_ci ((va_runS (As := [.long a0, .int (nI 1)]) (rest := [.long y4, .long y2]) ⟨hx, hb, hml, hown, hG⟩ (k_Id_quarterOf l a0 (nI 1)) (aw_wS 2 hG gw_4_35 gw_4_33 gw_0_8 gw_4_34 rfl rfl hd_Id_quarterOf ⟨Nat.le_of_ble_eq_true rfl, Nat.le_of_ble_eq_true rfl⟩) aw_p0 rfl rfl hl.1 rfl (lv_room (Nat.le_of_ble_eq_true rfl)) d_Id_middleSwapped_14 ⟨Nat.le_of_ble_eq_true rfl, Nat.le_of_ble_eq_true rfl⟩).run) (fun x5 hx5 => ?_)
  refine lv_i2l hx hb d_Id_middleSwapped_17 rfl ?_
  refine lv_topl (fun y6 _ => ?_)
  refine lv_lload_n hx hb d_Id_middleSwapped_18 rfl (lv_at hl 0 rfl) ?_
  refine lv_iconst (v := nI 3) hx hb d_Id_middleSwapped_19 (by decide +kernel) ?_
  refine aw_ci ((va_runS (As := [.long a0, .int (nI 3)]) (rest := [.long y6, .long y4, .long y2]) ⟨hx, hb, hml, hown, hG⟩ (k_Id_quarterOf l a0 (nI 3)) (aw_wS 2 hG gw_4_35 gw_4_33 gw_0_8 gw_4_34 rfl rfl hd_Id_quarterOf ⟨Nat.le_of_ble_eq_true rfl, Nat.le_of_ble_eq_true rfl⟩) aw_p0 rfl rfl hl.1 rfl (lv_room (Nat.le_of_ble_eq_true rfl)) d_Id_middleSwapped_20 ⟨Nat.le_of_ble_eq_true rfl, Nat.le_of_ble_eq_true rfl⟩).run) (fun x7 hx7 => ?_)
  refine lv_i2l hx hb d_Id_middleSwapped_23 rfl ?_
  refine lv_topl (fun y8 _ => ?_)
  refine aw_cl ((va_runS (As := [.long y2, .long y4, .long y6, .long y8]) (rest := []) ⟨hx, hb, hml, hown, hG⟩ (k_Id_ofQuarters l y2 y4 y6 y8) (aw_wS 4 hG gw_6_19 gw_6_17 gw_0_8 gw_6_18 rfl rfl hd_Id_ofQuarters ⟨Nat.le_of_ble_eq_true rfl, Nat.le_of_ble_eq_true rfl⟩) aw_p0 rfl rfl hl.1 rfl (lv_room (Nat.le_of_ble_eq_true rfl)) d_Id_middleSwapped_24 ⟨Nat.le_of_ble_eq_true rfl, Nat.le_of_ble_eq_true rfl⟩).run) (fun y9 hy9 => ?_)
  exact W.lret hx hb hr (fun t ht hW => ⟨_, trivial, rfl, ht⟩) (fun q h => nomatch h) d_Id_middleSwapped_27
abbrev ws_Id_inverse : List Cond := Cond.code y_Id_inverse b_Id_inverse 3 (some .int) :: aw_G
abbrev rm_Id_inverse : Room := { frames := 1, cells := 0, slots := 0, locals := 23 }
set_option maxHeartbeats 4000000 in
set_option maxRecDepth 100000 in
theorem k_Id_inverse (l : Launch) (a0 : Int32) : Met l y_Id_inverse ws_Id_inverse rm_Id_inverse (va_Pc ([.int a0] : List Value) (fun _ => True)) (aw_RI (fun r => True)) 0 0 (fun _ => False) := by
  refine Met.ofW (cc := b_Id_inverse) (maxL := 3) (ret := (some .int)) (by decide) rfl ?_
  intro p e s m args below meth c s₁ B hml hv
  obtain ⟨rfl, -⟩ := hv
  have hx := B.exec
  have hb := B.bytes
  have hr := B.returns
  have hG : ∀ w ∈ aw_G, w.before _ s = true := fun w h => atoms_spec (ws := ws_Id_inverse) B.pre w (List.mem_cons_of_mem _ h)
  have hown : s.vm.findClass "RuleCiphers$Idea" = some m.cls := findClass_of_methodNamed B.named
  have hlocks := B.notSynchronized
  have hl := lv_entry ([.int a0] : List Value) (n := 3) (Nat.le_of_ble_eq_true rfl)
  rw [lg_entry_eq]
  generalize (lg_sl ([.int a0] : List Value) ++ List.replicate (3 - (lg_sl ([.int a0] : List Value)).length) Slot.unset).toArray = ls at hl ⊢
  have hl : lv_has ls 3 [(0, .int a0)] := hl
  refine lv_iload_n hx hb d_Id_inverse_0 rfl (lv_at hl 0 rfl) ?_
  refine lv_istore_n hx hb d_Id_inverse_1 rfl hl (by decide) rfl (fun ls hl => ?_)
  have hl : lv_has ls 3 [(1, .int a0), (0, .int a0)] := hl
  refine lv_iconst (v := nI 1) hx hb d_Id_inverse_2 (by decide +kernel) ?_
  refine lv_istore_n hx hb d_Id_inverse_3 rfl hl (by decide) rfl (fun ls hl => ?_)
  have hl : lv_has ls 3 [(2, .int (nI 1)), (1, .int a0), (0, .int a0)] := hl
  have L4 : ∀ (d t : Nat) (x1 : Int32) (ls : Array Slot), t + d = 15 → lv_has ls 3 [(0, .int a0), (1, .int x1), (2, .int (nI (1 + t)))] → W p l e (headSpec ws_Id_inverse rm_Id_inverse).room s m ([.int a0] : List Value).toArray below meth c s.heap [] 0 0 (MQ below (aw_RI (fun r => True)) ([.int a0] : List Value).toArray s 0 0 (fun _ => False)) (F0 m 4 ls []) := by
    clear hl
    intro d
    induction d with
    | zero => 
      intro t x1 ls ht0 hl
      refine lv_iload_n hx hb d_Id_inverse_4 rfl (lv_at hl 2 rfl) ?_
      refine lv_bipush (v := nI 16) hx hb d_Id_inverse_5 (by decide +kernel) ?_
      refine lv_icmp_ge (tgt := 26) hx hb d_Id_inverse_7 (by decide) (fun _ => ?_) (fun h => absurd (show nI 16 ≤ nI (1 + t) from (nI_leI (by omega) (by omega)).mpr (by omega)) h)
      refine lv_iload_n hx hb d_Id_inverse_26 rfl (lv_at hl 1 rfl) ?_
      exact W.iret hx hb hr (fun t ht hW => ⟨_, trivial, rfl, ht⟩) (fun q h => nomatch h) d_Id_inverse_27
    | succ d ih => 
      intro t x1 ls ht0 hl
      refine lv_iload_n hx hb d_Id_inverse_4 rfl (lv_at hl 2 rfl) ?_
      refine lv_bipush (v := nI 16) hx hb d_Id_inverse_5 (by decide +kernel) ?_
      refine lv_icmp_ge (tgt := 26) hx hb d_Id_inverse_7 (by decide) (fun h => absurd h (show ¬ nI 16 ≤ nI (1 + t) from fun h9 => absurd ((nI_leI (by omega) (by omega)).mp h9) (by omega))) (fun _ => ?_)
      refine lv_iload_n hx hb d_Id_inverse_10 rfl (lv_at hl 1 rfl) ?_
      refine lv_iload_n hx hb d_Id_inverse_11 rfl (lv_at hl 1 rfl) ?_
      refine aw_ci ((va_runS (As := [.int x1, .int x1]) (rest := []) ⟨hx, hb, hml, hown, hG⟩ (k_Id_times l x1 x1) (aw_wS 2 hG gw_4_42 gw_4_40 gw_0_8 gw_4_41 rfl rfl hd_Id_times ⟨Nat.le_of_ble_eq_true rfl, Nat.le_of_ble_eq_true rfl⟩) aw_p0 rfl rfl hl.1 rfl (lv_room (Nat.le_of_ble_eq_true rfl)) d_Id_inverse_12 ⟨Nat.le_of_ble_eq_true rfl, Nat.le_of_ble_eq_true rfl⟩).run) (fun x2 hx2 => ?_)
      refine lv_iload_n hx hb d_Id_inverse_15 rfl (lv_at hl 0 rfl) ?_
      refine aw_ci ((va_runS (As := [.int x2, .int a0]) (rest := []) ⟨hx, hb, hml, hown, hG⟩ (k_Id_times l x2 a0) (aw_wS 2 hG gw_4_42 gw_4_40 gw_0_8 gw_4_41 rfl rfl hd_Id_times ⟨Nat.le_of_ble_eq_true rfl, Nat.le_of_ble_eq_true rfl⟩) aw_p0 rfl rfl hl.1 rfl (lv_room (Nat.le_of_ble_eq_true rfl)) d_Id_inverse_16 ⟨Nat.le_of_ble_eq_true rfl, Nat.le_of_ble_eq_true rfl⟩).run) (fun x3 hx3 => ?_)
      refine lv_istore_n hx hb d_Id_inverse_19 rfl hl (by decide) rfl (fun ls hl => ?_)
      have hl : lv_has ls 3 [(1, .int x3), (0, .int a0), (2, .int (nI (1 + t)))] := hl
      refine lv_iinc (k := 2) (v := nI (1 + t + 1)) hx hb d_Id_inverse_20 hl rfl (aw_inc (1 + t) 1 1 (by decide +kernel)) (by decide) rfl (fun ls hl => ?_)
      have hl : lv_has ls 3 [(2, .int (nI (1 + t + 1))), (1, .int x3), (0, .int a0)] := hl
      refine lv_goto (tgt := 4) hx hb d_Id_inverse_23 (by decide) ?_
      have hl := lv_sub hl (l' := [(0, .int a0), (1, .int x3), (2, .int (nI (1 + t + 1)))]) [2, 1, 0] rfl
      exact ih (t + 1) x3 ls (by omega) (by first | exact hl | simpa [Nat.add_assoc, Nat.mul_add, Nat.add_comm] using hl)
  have hl := lv_sub hl (l' := [(0, .int a0), (1, .int a0), (2, .int (nI 1))]) [2, 1, 0] rfl
  exact L4 15 0 a0 ls (by omega) (by first | exact hl | simpa using hl)
abbrev ws_Xt_stirred : List Cond := Cond.code y_Xt_stirred b_Xt_stirred 1 (some .int) :: aw_G
abbrev rm_Xt_stirred : Room := { frames := 0, cells := 0, slots := 0, locals := 0 }
set_option maxHeartbeats 4000000 in
set_option maxRecDepth 100000 in
theorem k_Xt_stirred (l : Launch) (a0 : Int32) : Met l y_Xt_stirred ws_Xt_stirred rm_Xt_stirred (va_Pc ([.int a0] : List Value) (fun _ => True)) (aw_RI (fun r => True)) 0 0 (fun _ => False) := by
  refine Met.ofW (cc := b_Xt_stirred) (maxL := 1) (ret := (some .int)) (by decide) rfl ?_
  intro p e s m args below meth c s₁ B hml hv
  obtain ⟨rfl, -⟩ := hv
  have hx := B.exec
  have hb := B.bytes
  have hr := B.returns
  have hG : ∀ w ∈ aw_G, w.before _ s = true := fun w h => atoms_spec (ws := ws_Xt_stirred) B.pre w (List.mem_cons_of_mem _ h)
  have hown : s.vm.findClass "RuleCiphers$Xtea" = some m.cls := findClass_of_methodNamed B.named
  have hlocks := B.notSynchronized
  have hl := lv_entry ([.int a0] : List Value) (n := 1) (Nat.le_of_ble_eq_true rfl)
  rw [lg_entry_eq]
  generalize (lg_sl ([.int a0] : List Value) ++ List.replicate (1 - (lg_sl ([.int a0] : List Value)).length) Slot.unset).toArray = ls at hl ⊢
  have hl : lv_has ls 1 [(0, .int a0)] := hl
  refine lv_iload_n hx hb d_Xt_stirred_0 rfl (lv_at hl 0 rfl) ?_
  refine lv_iconst (v := nI 4) hx hb d_Xt_stirred_1 (by decide +kernel) ?_
  refine lv_ishl hx hb d_Xt_stirred_2 ?_
  refine lv_topi (fun x1 _ => ?_)
  refine lv_iload_n hx hb d_Xt_stirred_3 rfl (lv_at hl 0 rfl) ?_
  refine lv_iconst (v := nI 5) hx hb d_Xt_stirred_4 (by decide +kernel) ?_
  refine lv_iushr hx hb d_Xt_stirred_5 rfl ?_
  refine lv_topi (fun x2 _ => ?_)
  refine lv_ixor hx hb d_Xt_stirred_6 ?_
  refine lv_topi (fun x3 _ => ?_)
  refine lv_iload_n hx hb d_Xt_stirred_7 rfl (lv_at hl 0 rfl) ?_
  refine lv_iadd hx hb d_Xt_stirred_8 ?_
  refine lv_topi (fun x4 _ => ?_)
  exact W.iret hx hb hr (fun t ht hW => ⟨_, trivial, rfl, ht⟩) (fun q h => nomatch h) d_Xt_stirred_9
abbrev ws_Si_zBit : List Cond := Cond.code y_Si_zBit b_Si_zBit 1 (some .int) :: aw_G
abbrev rm_Si_zBit : Room := { frames := 0, cells := 0, slots := 0, locals := 0 }
set_option maxHeartbeats 4000000 in
set_option maxRecDepth 100000 in
theorem k_Si_zBit (l : Launch) (a0 : Int32) : Met l y_Si_zBit ws_Si_zBit rm_Si_zBit (va_Pc ([.int a0] : List Value) (fun _ => True)) (aw_RI (fun r => True)) 0 0 (fun _ => False) := by
  refine Met.ofW (cc := b_Si_zBit) (maxL := 1) (ret := (some .int)) (by decide) rfl ?_
  intro p e s m args below meth c s₁ B hml hv
  obtain ⟨rfl, -⟩ := hv
  have hx := B.exec
  have hb := B.bytes
  have hr := B.returns
  have hG : ∀ w ∈ aw_G, w.before _ s = true := fun w h => atoms_spec (ws := ws_Si_zBit) B.pre w (List.mem_cons_of_mem _ h)
  have hown : s.vm.findClass "RuleCiphers$Simon" = some m.cls := findClass_of_methodNamed B.named
  have hlocks := B.notSynchronized
  have hl := lv_entry ([.int a0] : List Value) (n := 1) (Nat.le_of_ble_eq_true rfl)
  rw [lg_entry_eq]
  generalize (lg_sl ([.int a0] : List Value) ++ List.replicate (1 - (lg_sl ([.int a0] : List Value)).length) Slot.unset).toArray = ls at hl ⊢
  have hl : lv_has ls 1 [(0, .int a0)] := hl
  refine lv_ldc2 (v := 3957284701066611983) hx hb hown (hG _ gw_5_14) d_Si_zBit_0 ?_
  refine lv_bipush (v := nI 61) hx hb d_Si_zBit_3 (by decide +kernel) ?_
  refine lv_iload_n hx hb d_Si_zBit_5 rfl (lv_at hl 0 rfl) ?_
  refine lv_isub hx hb d_Si_zBit_6 ?_
  refine lv_topi (fun x1 _ => ?_)
  refine lv_lushr hx hb d_Si_zBit_7 rfl ?_
  refine lv_topl (fun y2 _ => ?_)
  refine lv_l2i hx hb d_Si_zBit_8 rfl ?_
  refine lv_topi (fun x3 _ => ?_)
  refine lv_iconst (v := nI 1) hx hb d_Si_zBit_9 (by decide +kernel) ?_
  refine lv_iand hx hb d_Si_zBit_10 ?_
  obtain ⟨k4, hk4, ek4⟩ := pk_andE x3 (m := nI 1) 1 (by decide +kernel)
  refine aw_ti ek4 ?_
  exact W.iret hx hb hr (fun t ht hW => ⟨_, trivial, rfl, ht⟩) (fun q h => nomatch h) d_Si_zBit_11
abbrev ws_Tk_atByte : List Cond := Cond.code y_Tk_atByte b_Tk_atByte 2 (some .long) :: aw_G
abbrev rm_Tk_atByte : Room := { frames := 0, cells := 0, slots := 0, locals := 0 }
set_option maxHeartbeats 4000000 in
set_option maxRecDepth 100000 in
theorem k_Tk_atByte (l : Launch) (a0 : Int32) (a1 : Int32) : Met l y_Tk_atByte ws_Tk_atByte rm_Tk_atByte (va_Pc ([.int a0, .int a1] : List Value) (fun _ => True)) (aw_RL (fun r => True)) 0 0 (fun _ => False) := by
  refine Met.ofW (cc := b_Tk_atByte) (maxL := 2) (ret := (some .long)) (by decide) rfl ?_
  intro p e s m args below meth c s₁ B hml hv
  obtain ⟨rfl, -⟩ := hv
  have hx := B.exec
  have hb := B.bytes
  have hr := B.returns
  have hG : ∀ w ∈ aw_G, w.before _ s = true := fun w h => atoms_spec (ws := ws_Tk_atByte) B.pre w (List.mem_cons_of_mem _ h)
  have hown : s.vm.findClass "RuleCiphers$Taken" = some m.cls := findClass_of_methodNamed B.named
  have hlocks := B.notSynchronized
  have hl := lv_entry ([.int a0, .int a1] : List Value) (n := 2) (Nat.le_of_ble_eq_true rfl)
  rw [lg_entry_eq]
  generalize (lg_sl ([.int a0, .int a1] : List Value) ++ List.replicate (2 - (lg_sl ([.int a0, .int a1] : List Value)).length) Slot.unset).toArray = ls at hl ⊢
  have hl : lv_has ls 2 [(0, .int a0), (1, .int a1)] := hl
  refine lv_iload_n hx hb d_Tk_atByte_0 rfl (lv_at hl 0 rfl) ?_
  refine lv_i2l hx hb d_Tk_atByte_1 rfl ?_
  refine lv_topl (fun y1 _ => ?_)
  refine lv_bipush (v := nI 56) hx hb d_Tk_atByte_2 (by decide +kernel) ?_
  refine lv_bipush (v := nI 8) hx hb d_Tk_atByte_4 (by decide +kernel) ?_
  refine lv_iload_n hx hb d_Tk_atByte_6 rfl (lv_at hl 1 rfl) ?_
  refine lv_imul hx hb d_Tk_atByte_7 ?_
  refine lv_topi (fun x2 _ => ?_)
  refine lv_isub hx hb d_Tk_atByte_8 ?_
  refine lv_topi (fun x3 _ => ?_)
  refine lv_lshl hx hb d_Tk_atByte_9 rfl ?_
  refine lv_topl (fun y4 _ => ?_)
  exact W.lret hx hb hr (fun t ht hW => ⟨_, trivial, rfl, ht⟩) (fun q h => nomatch h) d_Tk_atByte_10
abbrev ws_Tk_doubled : List Cond := Cond.code y_Tk_doubled b_Tk_doubled 2 (some .long) :: aw_G
abbrev rm_Tk_doubled : Room := { frames := 0, cells := 0, slots := 0, locals := 0 }
set_option maxHeartbeats 4000000 in
set_option maxRecDepth 100000 in
theorem k_Tk_doubled (l : Launch) (a0 : Int64) : Met l y_Tk_doubled ws_Tk_doubled rm_Tk_doubled (va_Pc ([.long a0] : List Value) (fun _ => True)) (aw_RL (fun r => True)) 0 0 (fun _ => False) := by
  refine Met.ofW (cc := b_Tk_doubled) (maxL := 2) (ret := (some .long)) (by decide) rfl ?_
  intro p e s m args below meth c s₁ B hml hv
  obtain ⟨rfl, -⟩ := hv
  have hx := B.exec
  have hb := B.bytes
  have hr := B.returns
  have hG : ∀ w ∈ aw_G, w.before _ s = true := fun w h => atoms_spec (ws := ws_Tk_doubled) B.pre w (List.mem_cons_of_mem _ h)
  have hown : s.vm.findClass "RuleCiphers$Taken" = some m.cls := findClass_of_methodNamed B.named
  have hlocks := B.notSynchronized
  have hl := lv_entry ([.long a0] : List Value) (n := 2) (Nat.le_of_ble_eq_true rfl)
  rw [lg_entry_eq]
  generalize (lg_sl ([.long a0] : List Value) ++ List.replicate (2 - (lg_sl ([.long a0] : List Value)).length) Slot.unset).toArray = ls at hl ⊢
  have hl : lv_has ls 2 [(0, .long a0)] := hl
  refine lv_lload_n hx hb d_Tk_doubled_0 rfl (lv_at hl 0 rfl) ?_
  refine lv_lconst (v := 0) hx hb d_Tk_doubled_1 (by decide +kernel) ?_
  refine W.lcmp hx hb d_Tk_doubled_2 ?_
  refine lv_topi (fun x1 _ => ?_)
  refine lv_if_ge (tgt := 16) hx hb d_Tk_doubled_3 (by decide) (fun hb2 => ?_) (fun hb2 => ?_)
  · refine lv_lload_n hx hb d_Tk_doubled_16 rfl (lv_at hl 0 rfl) ?_
    refine lv_iconst (v := nI 1) hx hb d_Tk_doubled_17 (by decide +kernel) ?_
    refine lv_lshl hx hb d_Tk_doubled_18 rfl ?_
    refine lv_topl (fun y3 _ => ?_)
    exact W.lret hx hb hr (fun t ht hW => ⟨_, trivial, rfl, ht⟩) (fun q h => nomatch h) d_Tk_doubled_19
  · refine lv_lload_n hx hb d_Tk_doubled_6 rfl (lv_at hl 0 rfl) ?_
    refine lv_iconst (v := nI 1) hx hb d_Tk_doubled_7 (by decide +kernel) ?_
    refine lv_lshl hx hb d_Tk_doubled_8 rfl ?_
    refine lv_topl (fun y4 _ => ?_)
    refine lv_ldc2 (v := 27) hx hb hown (hG _ gw_9_18) d_Tk_doubled_9 ?_
    refine lv_lxor hx hb d_Tk_doubled_12 ?_
    refine lv_topl (fun y5 _ => ?_)
    refine lv_goto (tgt := 19) hx hb d_Tk_doubled_13 (by decide) ?_
    exact W.lret hx hb hr (fun t ht hW => ⟨_, trivial, rfl, ht⟩) (fun q h => nomatch h) d_Tk_doubled_19
