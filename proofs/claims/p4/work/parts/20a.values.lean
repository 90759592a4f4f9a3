abbrev jI_shl (x y : Int32) : Int32 := x <<< (y &&& 31)
abbrev jI_shr (x y : Int32) : Int32 := x >>> (y &&& 31)
abbrev jI_ushr (x y : Int32) : Int32 := (x.toUInt32 >>> (y.toUInt32 &&& Int32.toUInt32 31)).toInt32
abbrev jL_shl (x : Int64) (y : Int32) : Int64 := x <<< (y.toInt64 &&& 63)
abbrev jL_shr (x : Int64) (y : Int32) : Int64 := x >>> (y.toInt64 &&& 63)
abbrev jL_ushr (x : Int64) (y : Int32) : Int64 := (x.toUInt64 >>> (y.toInt64.toUInt64 &&& Int64.toUInt64 63)).toInt64
theorem ag_topi {p : Program} {l : Launch} {e : Env} {R : Room} {s : State} {m : MethodId} {args : Array Value} {below : List Frame} {meth : Method} {c : Code} {H : Heap} {locs : List Loc} {cells slots : Nat} {Q : State → Prop} {pc : Nat} {ls : Array Slot} {rest : List Value} {x : Int32} (k : ∀ v : Int32, x = v → W p l e R s m args below meth c H locs cells slots Q (F0 m pc ls (.int v :: rest))) : W p l e R s m args below meth c H locs cells slots Q (F0 m pc ls (.int x :: rest)) := k x rfl
theorem ag_topl {p : Program} {l : Launch} {e : Env} {R : Room} {s : State} {m : MethodId} {args : Array Value} {below : List Frame} {meth : Method} {c : Code} {H : Heap} {locs : List Loc} {cells slots : Nat} {Q : State → Prop} {pc : Nat} {ls : Array Slot} {rest : List Value} {x : Int64} (k : ∀ v : Int64, x = v → W p l e R s m args below meth c H locs cells slots Q (F0 m pc ls (.long v :: rest))) : W p l e R s m args below meth c H locs cells slots Q (F0 m pc ls (.long x :: rest)) := k x rfl
noncomputable def v_Ru_turnLeftV (a0 : Int32) (a1 : Int32) : Int32 := ((jI_shl a0 a1) ||| (jI_ushr a0 (-a1)))
abbrev ws_Ru_turnLeftV : List Cond := Cond.code y_Ru_turnLeft b_Ru_turnLeft 2 (some .int) :: aw_G
abbrev rm_Ru_turnLeftV : Room := { frames := 0, cells := 0, slots := 0, locals := 0 }
set_option maxHeartbeats 4000000 in
set_option maxRecDepth 100000 in
theorem k_Ru_turnLeftV (l : Launch) (a0 : Int32) (a1 : Int32) : Met l y_Ru_turnLeft ws_Ru_turnLeftV rm_Ru_turnLeftV (va_Pc ([.int a0, .int a1] : List Value) (fun _ => True)) (aw_RI (fun r => r = v_Ru_turnLeftV a0 a1)) 0 0 (fun _ => False) := by
  refine Met.ofW (cc := b_Ru_turnLeft) (maxL := 2) (ret := (some .int)) (by decide) rfl ?_
  intro p e s m args below meth c s₁ B hml hv
  obtain ⟨rfl, -⟩ := hv
  have hx := B.exec
  have hb := B.bytes
  have hr := B.returns
  have hG : ∀ w ∈ aw_G, w.before _ s = true := fun w h => atoms_spec (ws := ws_Ru_turnLeftV) B.pre w (List.mem_cons_of_mem _ h)
  have hown : s.vm.findClass "RuleCiphers" = some m.cls := findClass_of_methodNamed B.named
  have hlocks := B.notSynchronized
  have hl := lv_entry ([.int a0, .int a1] : List Value) (n := 2) (Nat.le_of_ble_eq_true rfl)
  rw [lg_entry_eq]
  generalize (lg_sl ([.int a0, .int a1] : List Value) ++ List.replicate (2 - (lg_sl ([.int a0, .int a1] : List Value)).length) Slot.unset).toArray = ls at hl ⊢
  have hl : lv_has ls 2 [(0, .int a0), (1, .int a1)] := hl
  refine lv_iload_n hx hb d_Ru_turnLeft_0 rfl (lv_at hl 0 rfl) ?_
  refine lv_iload_n hx hb d_Ru_turnLeft_1 rfl (lv_at hl 1 rfl) ?_
  refine lv_ishl hx hb d_Ru_turnLeft_2 ?_
  refine ag_topi (fun x1 ex1 => ?_)
  refine lv_iload_n hx hb d_Ru_turnLeft_3 rfl (lv_at hl 0 rfl) ?_
  refine lv_iload_n hx hb d_Ru_turnLeft_4 rfl (lv_at hl 1 rfl) ?_
  refine lv_ineg hx hb d_Ru_turnLeft_5 ?_
  refine ag_topi (fun x2 ex2 => ?_)
  refine lv_iushr hx hb d_Ru_turnLeft_6 rfl ?_
  refine ag_topi (fun x3 ex3 => ?_)
  refine lv_ior hx hb d_Ru_turnLeft_7 ?_
  refine ag_topi (fun x4 ex4 => ?_)
  exact W.iret hx hb hr (fun t ht hW => ⟨_, (by subst ex4 ex3 ex2 ex1; rfl), rfl, ht⟩) (fun q h => nomatch h) d_Ru_turnLeft_8
noncomputable def v_Ru_turnRightV (a0 : Int32) (a1 : Int32) : Int32 := ((jI_ushr a0 a1) ||| (jI_shl a0 (-a1)))
abbrev ws_Ru_turnRightV : List Cond := Cond.code y_Ru_turnRight b_Ru_turnRight 2 (some .int) :: aw_G
abbrev rm_Ru_turnRightV : Room := { frames := 0, cells := 0, slots := 0, locals := 0 }
set_option maxHeartbeats 4000000 in
set_option maxRecDepth 100000 in
theorem k_Ru_turnRightV (l : Launch) (a0 : Int32) (a1 : Int32) : Met l y_Ru_turnRight ws_Ru_turnRightV rm_Ru_turnRightV (va_Pc ([.int a0, .int a1] : List Value) (fun _ => True)) (aw_RI (fun r => r = v_Ru_turnRightV a0 a1)) 0 0 (fun _ => False) := by
  refine Met.ofW (cc := b_Ru_turnRight) (maxL := 2) (ret := (some .int)) (by decide) rfl ?_
  intro p e s m args below meth c s₁ B hml hv
  obtain ⟨rfl, -⟩ := hv
  have hx := B.exec
  have hb := B.bytes
  have hr := B.returns
  have hG : ∀ w ∈ aw_G, w.before _ s = true := fun w h => atoms_spec (ws := ws_Ru_turnRightV) B.pre w (List.mem_cons_of_mem _ h)
  have hown : s.vm.findClass "RuleCiphers" = some m.cls := findClass_of_methodNamed B.named
  have hlocks := B.notSynchronized
  have hl := lv_entry ([.int a0, .int a1] : List Value) (n := 2) (Nat.le_of_ble_eq_true rfl)
  rw [lg_entry_eq]
  generalize (lg_sl ([.int a0, .int a1] : List Value) ++ List.replicate (2 - (lg_sl ([.int a0, .int a1] : List Value)).length) Slot.unset).toArray = ls at hl ⊢
  have hl : lv_has ls 2 [(0, .int a0), (1, .int a1)] := hl
  refine lv_iload_n hx hb d_Ru_turnRight_0 rfl (lv_at hl 0 rfl) ?_
  refine lv_iload_n hx hb d_Ru_turnRight_1 rfl (lv_at hl 1 rfl) ?_
  refine lv_iushr hx hb d_Ru_turnRight_2 rfl ?_
  refine ag_topi (fun x1 ex1 => ?_)
  refine lv_iload_n hx hb d_Ru_turnRight_3 rfl (lv_at hl 0 rfl) ?_
  refine lv_iload_n hx hb d_Ru_turnRight_4 rfl (lv_at hl 1 rfl) ?_
  refine lv_ineg hx hb d_Ru_turnRight_5 ?_
  refine ag_topi (fun x2 ex2 => ?_)
  refine lv_ishl hx hb d_Ru_turnRight_6 ?_
  refine ag_topi (fun x3 ex3 => ?_)
  refine lv_ior hx hb d_Ru_turnRight_7 ?_
  refine ag_topi (fun x4 ex4 => ?_)
  exact W.iret hx hb hr (fun t ht hW => ⟨_, (by subst ex4 ex3 ex2 ex1; rfl), rfl, ht⟩) (fun q h => nomatch h) d_Ru_turnRight_8
noncomputable def v_Ru_bytesReversedV (a0 : Int32) : Int32 := ((((jI_shl a0 (nI 24)) ||| (jI_shl (a0 &&& 65280) (nI 8))) ||| ((jI_ushr a0 (nI 8)) &&& 65280)) ||| (jI_ushr a0 (nI 24)))
abbrev ws_Ru_bytesReversedV : List Cond := Cond.code y_Ru_bytesReversed b_Ru_bytesReversed 1 (some .int) :: aw_G
abbrev rm_Ru_bytesReversedV : Room := { frames := 0, cells := 0, slots := 0, locals := 0 }
set_option maxHeartbeats 4000000 in
set_option maxRecDepth 100000 in
theorem k_Ru_bytesReversedV (l : Launch) (a0 : Int32) : Met l y_Ru_bytesReversed ws_Ru_bytesReversedV rm_Ru_bytesReversedV (va_Pc ([.int a0] : List Value) (fun _ => True)) (aw_RI (fun r => r = v_Ru_bytesReversedV a0)) 0 0 (fun _ => False) := by
  refine Met.ofW (cc := b_Ru_bytesReversed) (maxL := 1) (ret := (some .int)) (by decide) rfl ?_
  intro p e s m args below meth c s₁ B hml hv
  obtain ⟨rfl, -⟩ := hv
  have hx := B.exec
  have hb := B.bytes
  have hr := B.returns
  have hG : ∀ w ∈ aw_G, w.before _ s = true := fun w h => atoms_spec (ws := ws_Ru_bytesReversedV) B.pre w (List.mem_cons_of_mem _ h)
  have hown : s.vm.findClass "RuleCiphers" = some m.cls := findClass_of_methodNamed B.named
  have hlocks := B.notSynchronized
  have hl := lv_entry ([.int a0] : List Value) (n := 1) (Nat.le_of_ble_eq_true rfl)
  rw [lg_entry_eq]
  generalize (lg_sl ([.int a0] : List Value) ++ List.replicate (1 - (lg_sl ([.int a0] : List Value)).length) Slot.unset).toArray = ls at hl ⊢
  have hl : lv_has ls 1 [(0, .int a0)] := hl
  refine lv_iload_n hx hb d_Ru_bytesReversed_0 rfl (lv_at hl 0 rfl) ?_
  refine lv_bipush (v := nI 24) hx hb d_Ru_bytesReversed_1 (by decide +kernel) ?_
  refine lv_ishl hx hb d_Ru_bytesReversed_3 ?_
  refine ag_topi (fun x1 ex1 => ?_)
  refine lv_iload_n hx hb d_Ru_bytesReversed_4 rfl (lv_at hl 0 rfl) ?_
  refine lv_ldc (v := 65280) hx hb hown (hG _ gw_4_58) d_Ru_bytesReversed_5 ?_
  refine lv_iand hx hb d_Ru_bytesReversed_7 ?_
  refine ag_topi (fun x2 ex2 => ?_)
  refine lv_bipush (v := nI 8) hx hb d_Ru_bytesReversed_8 (by decide +kernel) ?_
  refine lv_ishl hx hb d_Ru_bytesReversed_10 ?_
  refine ag_topi (fun x3 ex3 => ?_)
  refine lv_ior hx hb d_Ru_bytesReversed_11 ?_
  refine ag_topi (fun x4 ex4 => ?_)
  refine lv_iload_n hx hb d_Ru_bytesReversed_12 rfl (lv_at hl 0 rfl) ?_
  refine lv_bipush (v := nI 8) hx hb d_Ru_bytesReversed_13 (by decide +kernel) ?_
  refine lv_iushr hx hb d_Ru_bytesReversed_15 rfl ?_
  refine ag_topi (fun x5 ex5 => ?_)
  refine lv_ldc (v := 65280) hx hb hown (hG _ gw_4_58) d_Ru_bytesReversed_16 ?_
  refine lv_iand hx hb d_Ru_bytesReversed_18 ?_
  refine ag_topi (fun x6 ex6 => ?_)
  refine lv_ior hx hb d_Ru_bytesReversed_19 ?_
  refine ag_topi (fun x7 ex7 => ?_)
  refine lv_iload_n hx hb d_Ru_bytesReversed_20 rfl (lv_at hl 0 rfl) ?_
  refine lv_bipush (v := nI 24) hx hb d_Ru_bytesReversed_21 (by decide +kernel) ?_
  refine lv_iushr hx hb d_Ru_bytesReversed_23 rfl ?_
  refine ag_topi (fun x8 ex8 => ?_)
  refine lv_ior hx hb d_Ru_bytesReversed_24 ?_
  refine ag_topi (fun x9 ex9 => ?_)
  exact W.iret hx hb hr (fun t ht hW => ⟨_, (by subst ex9 ex8 ex7 ex6 ex5 ex4 ex3 ex2 ex1; rfl), rfl, ht⟩) (fun q h => nomatch h) d_Ru_bytesReversed_25
noncomputable def v_Ru_firstHalfV (a0 : Int64) : Int32 := (Int64.toInt32 (jL_ushr a0 (nI 32)))
abbrev ws_Ru_firstHalfV : List Cond := Cond.code y_Ru_firstHalf b_Ru_firstHalf 2 (some .int) :: aw_G
abbrev rm_Ru_firstHalfV : Room := { frames := 0, cells := 0, slots := 0, locals := 0 }
set_option maxHeartbeats 4000000 in
set_option maxRecDepth 100000 in
theorem k_Ru_firstHalfV (l : Launch) (a0 : Int64) : Met l y_Ru_firstHalf ws_Ru_firstHalfV rm_Ru_firstHalfV (va_Pc ([.long a0] : List Value) (fun _ => True)) (aw_RI (fun r => r = v_Ru_firstHalfV a0)) 0 0 (fun _ => False) := by
  refine Met.ofW (cc := b_Ru_firstHalf) (maxL := 2) (ret := (some .int)) (by decide) rfl ?_
  intro p e s m args below meth c s₁ B hml hv
  obtain ⟨rfl, -⟩ := hv
  have hx := B.exec
  have hb := B.bytes
  have hr := B.returns
  have hG : ∀ w ∈ aw_G, w.before _ s = true := fun w h => atoms_spec (ws := ws_Ru_firstHalfV) B.pre w (List.mem_cons_of_mem _ h)
  have hown : s.vm.findClass "RuleCiphers" = some m.cls := findClass_of_methodNamed B.named
  have hlocks := B.notSynchronized
  have hl := lv_entry ([.long a0] : List Value) (n := 2) (Nat.le_of_ble_eq_true rfl)
  rw [lg_entry_eq]
  generalize (lg_sl ([.long a0] : List Value) ++ List.replicate (2 - (lg_sl ([.long a0] : List Value)).length) Slot.unset).toArray = ls at hl ⊢
  have hl : lv_has ls 2 [(0, .long a0)] := hl
  refine lv_lload_n hx hb d_Ru_firstHalf_0 rfl (lv_at hl 0 rfl) ?_
  refine lv_bipush (v := nI 32) hx hb d_Ru_firstHalf_1 (by decide +kernel) ?_
  refine lv_lushr hx hb d_Ru_firstHalf_3 rfl ?_
  refine ag_topl (fun y1 ey1 => ?_)
  refine lv_l2i hx hb d_Ru_firstHalf_4 rfl ?_
  refine ag_topi (fun x2 ex2 => ?_)
  exact W.iret hx hb hr (fun t ht hW => ⟨_, (by subst ex2 ey1; rfl), rfl, ht⟩) (fun q h => nomatch h) d_Ru_firstHalf_5
noncomputable def v_Ru_secondHalfV (a0 : Int64) : Int32 := (Int64.toInt32 a0)
abbrev ws_Ru_secondHalfV : List Cond := Cond.code y_Ru_secondHalf b_Ru_secondHalf 2 (some .int) :: aw_G
abbrev rm_Ru_secondHalfV : Room := { frames := 0, cells := 0, slots := 0, locals := 0 }
set_option maxHeartbeats 4000000 in
set_option maxRecDepth 100000 in
theorem k_Ru_secondHalfV (l : Launch) (a0 : Int64) : Met l y_Ru_secondHalf ws_Ru_secondHalfV rm_Ru_secondHalfV (va_Pc ([.long a0] : List Value) (fun _ => True)) (aw_RI (fun r => r = v_Ru_secondHalfV a0)) 0 0 (fun _ => False) := by
  refine Met.ofW (cc := b_Ru_secondHalf) (maxL := 2) (ret := (some .int)) (by decide) rfl ?_
  intro p e s m args below meth c s₁ B hml hv
  obtain ⟨rfl, -⟩ := hv
  have hx := B.exec
  have hb := B.bytes
  have hr := B.returns
  have hG : ∀ w ∈ aw_G, w.before _ s = true := fun w h => atoms_spec (ws := ws_Ru_secondHalfV) B.pre w (List.mem_cons_of_mem _ h)
  have hown : s.vm.findClass "RuleCiphers" = some m.cls := findClass_of_methodNamed B.named
  have hlocks := B.notSynchronized
  have hl := lv_entry ([.long a0] : List Value) (n := 2) (Nat.le_of_ble_eq_true rfl)
  rw [lg_entry_eq]
  generalize (lg_sl ([.long a0] : List Value) ++ List.replicate (2 - (lg_sl ([.long a0] : List Value)).length) Slot.unset).toArray = ls at hl ⊢
  have hl : lv_has ls 2 [(0, .long a0)] := hl
  refine lv_lload_n hx hb d_Ru_secondHalf_0 rfl (lv_at hl 0 rfl) ?_
  refine lv_l2i hx hb d_Ru_secondHalf_1 rfl ?_
  refine ag_topi (fun x1 ex1 => ?_)
  exact W.iret hx hb hr (fun t ht hW => ⟨_, (by subst ex1; rfl), rfl, ht⟩) (fun q h => nomatch h) d_Ru_secondHalf_2
noncomputable def v_Ru_joinedV (a0 : Int32) (a1 : Int32) : Int64 := ((jL_shl (Int32.toInt64 a0) (nI 32)) ||| ((Int32.toInt64 a1) &&& 4294967295))
abbrev ws_Ru_joinedV : List Cond := Cond.code y_Ru_joined b_Ru_joined 2 (some .long) :: aw_G
abbrev rm_Ru_joinedV : Room := { frames := 0, cells := 0, slots := 0, locals := 0 }
set_option maxHeartbeats 4000000 in
set_option maxRecDepth 100000 in
theorem k_Ru_joinedV (l : Launch) (a0 : Int32) (a1 : Int32) : Met l y_Ru_joined ws_Ru_joinedV rm_Ru_joinedV (va_Pc ([.int a0, .int a1] : List Value) (fun _ => True)) (aw_RL (fun r => r = v_Ru_joinedV a0 a1)) 0 0 (fun _ => False) := by
  refine Met.ofW (cc := b_Ru_joined) (maxL := 2) (ret := (some .long)) (by decide) rfl ?_
  intro p e s m args below meth c s₁ B hml hv
  obtain ⟨rfl, -⟩ := hv
  have hx := B.exec
  have hb := B.bytes
  have hr := B.returns
  have hG : ∀ w ∈ aw_G, w.before _ s = true := fun w h => atoms_spec (ws := ws_Ru_joinedV) B.pre w (List.mem_cons_of_mem _ h)
  have hown : s.vm.findClass "RuleCiphers" = some m.cls := findClass_of_methodNamed B.named
  have hlocks := B.notSynchronized
  have hl := lv_entry ([.int a0, .int a1] : List Value) (n := 2) (Nat.le_of_ble_eq_true rfl)
  rw [lg_entry_eq]
  generalize (lg_sl ([.int a0, .int a1] : List Value) ++ List.replicate (2 - (lg_sl ([.int a0, .int a1] : List Value)).length) Slot.unset).toArray = ls at hl ⊢
  have hl : lv_has ls 2 [(0, .int a0), (1, .int a1)] := hl
  refine lv_iload_n hx hb d_Ru_joined_0 rfl (lv_at hl 0 rfl) ?_
  refine lv_i2l hx hb d_Ru_joined_1 rfl ?_
  refine ag_topl (fun y1 ey1 => ?_)
  refine lv_bipush (v := nI 32) hx hb d_Ru_joined_2 (by decide +kernel) ?_
  refine lv_lshl hx hb d_Ru_joined_4 rfl ?_
  refine ag_topl (fun y2 ey2 => ?_)
  refine lv_iload_n hx hb d_Ru_joined_5 rfl (lv_at hl 1 rfl) ?_
  refine lv_i2l hx hb d_Ru_joined_6 rfl ?_
  refine ag_topl (fun y3 ey3 => ?_)
  refine lv_ldc2 (v := 4294967295) hx hb hown (hG _ gw_6_32) d_Ru_joined_7 ?_
  refine lv_land hx hb d_Ru_joined_10 ?_
  refine ag_topl (fun y4 ey4 => ?_)
  refine lv_lor hx hb d_Ru_joined_11 ?_
  refine ag_topl (fun y5 ey5 => ?_)
  exact W.lret hx hb hr (fun t ht hW => ⟨_, (by subst ey5 ey4 ey3 ey2 ey1; rfl), rfl, ht⟩) (fun q h => nomatch h) d_Ru_joined_12
noncomputable def v_Ru_keyQuarterV (a0 : Int64) (a1 : Int64) (a2 : Int32) : Int32 := (if (nI 2) ≤ a2 then (if (a2 - a2 / (nI 2) * (nI 2)) = 0 then v_Ru_firstHalfV a1 else v_Ru_secondHalfV a1) else (if (a2 - a2 / (nI 2) * (nI 2)) = 0 then v_Ru_firstHalfV a0 else v_Ru_secondHalfV a0))
abbrev ws_Ru_keyQuarterV : List Cond := Cond.code y_Ru_keyQuarter b_Ru_keyQuarter 7 (some .int) :: aw_G
abbrev rm_Ru_keyQuarterV : Room := { frames := 1, cells := 0, slots := 0, locals := 21 }
set_option maxHeartbeats 4000000 in
set_option maxRecDepth 100000 in
theorem k_Ru_keyQuarterV (l : Launch) (a0 : Int64) (a1 : Int64) (a2 : Int32) : Met l y_Ru_keyQuarter ws_Ru_keyQuarterV rm_Ru_keyQuarterV (va_Pc ([.long a0, .long a1, .int a2] : List Value) (fun _ => True)) (aw_RI (fun r => r = v_Ru_keyQuarterV a0 a1 a2)) 0 0 (fun _ => False) := by
  refine Met.ofW (cc := b_Ru_keyQuarter) (maxL := 7) (ret := (some .int)) (by decide) rfl ?_
  intro p e s m args below meth c s₁ B hml hv
  obtain ⟨rfl, -⟩ := hv
  have hx := B.exec
  have hb := B.bytes
  have hr := B.returns
  have hG : ∀ w ∈ aw_G, w.before _ s = true := fun w h => atoms_spec (ws := ws_Ru_keyQuarterV) B.pre w (List.mem_cons_of_mem _ h)
  have hown : s.vm.findClass "RuleCiphers" = some m.cls := findClass_of_methodNamed B.named
  have hlocks := B.notSynchronized
  have hl := lv_entry ([.long a0, .long a1, .int a2] : List Value) (n := 7) (Nat.le_of_ble_eq_true rfl)
  rw [lg_entry_eq]
  generalize (lg_sl ([.long a0, .long a1, .int a2] : List Value) ++ List.replicate (7 - (lg_sl ([.long a0, .long a1, .int a2] : List Value)).length) Slot.unset).toArray = ls at hl ⊢
  have hl : lv_has ls 7 [(0, .long a0), (2, .long a1), (4, .int a2)] := hl
  refine lv_iload hx hb d_Ru_keyQuarter_0 (lv_at hl 2 rfl) ?_
  refine lv_iconst (v := nI 2) hx hb d_Ru_keyQuarter_2 (by decide +kernel) ?_
  refine lv_icmp_ge (tgt := 10) hx hb d_Ru_keyQuarter_3 (by decide) (fun hb1 => ?_) (fun hb1 => ?_)
  · refine lv_lload_n hx hb d_Ru_keyQuarter_10 rfl (lv_at hl 1 rfl) ?_
    refine lv_lstore hx hb d_Ru_keyQuarter_11 hl (by decide) rfl (fun ls hl => ?_)
    have hl : lv_has ls 7 [(5, .long a1), (0, .long a0), (2, .long a1), (4, .int a2)] := hl
    refine lv_iload hx hb d_Ru_keyQuarter_13 (lv_at hl 3 rfl) ?_
    refine lv_iconst (v := nI 2) hx hb d_Ru_keyQuarter_15 (by decide +kernel) ?_
    refine lv_irem hx hb d_Ru_keyQuarter_16 (by decide +kernel) ?_
    refine ag_topi (fun x2 ex2 => ?_)
    refine lv_if_ne (tgt := 28) hx hb d_Ru_keyQuarter_17 (by decide) (fun hb3 => ?_) (fun hb3 => ?_)
    · refine lv_lload hx hb d_Ru_keyQuarter_28 (lv_at hl 0 rfl) ?_
      refine aw_ci ((va_runS (As := [.long a1]) (rest := []) ⟨hx, hb, hml, hown, hG⟩ (k_Ru_secondHalfV l a1) (aw_wS 1 hG gw_4_55 gw_4_53 gw_0_1 gw_4_54 rfl rfl hd_Ru_secondHalf ⟨Nat.le_of_ble_eq_true rfl, Nat.le_of_ble_eq_true rfl⟩) aw_p0 rfl rfl hl.1 rfl (lv_room (Nat.le_of_ble_eq_true rfl)) d_Ru_keyQuarter_30 ⟨Nat.le_of_ble_eq_true rfl, Nat.le_of_ble_eq_true rfl⟩).run) (fun x4 ex4 => ?_)
      have ex4 := ex4.symm
      exact W.iret hx hb hr (fun t ht hW => ⟨_, (by subst ex4 ex2; unfold v_Ru_keyQuarterV; rw [if_pos hb1, if_neg hb3]), rfl, ht⟩) (fun q h => nomatch h) d_Ru_keyQuarter_33
    · refine lv_lload hx hb d_Ru_keyQuarter_20 (lv_at hl 0 rfl) ?_
      refine aw_ci ((va_runS (As := [.long a1]) (rest := []) ⟨hx, hb, hml, hown, hG⟩ (k_Ru_firstHalfV l a1) (aw_wS 1 hG gw_4_52 gw_4_50 gw_0_1 gw_4_51 rfl rfl hd_Ru_firstHalf ⟨Nat.le_of_ble_eq_true rfl, Nat.le_of_ble_eq_true rfl⟩) aw_p0 rfl rfl hl.1 rfl (lv_room (Nat.le_of_ble_eq_true rfl)) d_Ru_keyQuarter_22 ⟨Nat.le_of_ble_eq_true rfl, Nat.le_of_ble_eq_true rfl⟩).run) (fun x5 ex5 => ?_)
      have ex5 := ex5.symm
      refine lv_goto (tgt := 33) hx hb d_Ru_keyQuarter_25 (by decide) ?_
      exact W.iret hx hb hr (fun t ht hW => ⟨_, (by subst ex5 ex2; unfold v_Ru_keyQuarterV; rw [if_pos hb1, if_pos hb3]), rfl, ht⟩) (fun q h => nomatch h) d_Ru_keyQuarter_33
  · refine lv_lload_n hx hb d_Ru_keyQuarter_6 rfl (lv_at hl 0 rfl) ?_
    refine lv_goto (tgt := 11) hx hb d_Ru_keyQuarter_7 (by decide) ?_
    refine lv_lstore hx hb d_Ru_keyQuarter_11 hl (by decide) rfl (fun ls hl => ?_)
    have hl : lv_has ls 7 [(5, .long a0), (0, .long a0), (2, .long a1), (4, .int a2)] := hl
    refine lv_iload hx hb d_Ru_keyQuarter_13 (lv_at hl 3 rfl) ?_
    refine lv_iconst (v := nI 2) hx hb d_Ru_keyQuarter_15 (by decide +kernel) ?_
    refine lv_irem hx hb d_Ru_keyQuarter_16 (by decide +kernel) ?_
    refine ag_topi (fun x6 ex6 => ?_)
    refine lv_if_ne (tgt := 28) hx hb d_Ru_keyQuarter_17 (by decide) (fun hb7 => ?_) (fun hb7 => ?_)
    · refine lv_lload hx hb d_Ru_keyQuarter_28 (lv_at hl 0 rfl) ?_
      refine aw_ci ((va_runS (As := [.long a0]) (rest := []) ⟨hx, hb, hml, hown, hG⟩ (k_Ru_secondHalfV l a0) (aw_wS 1 hG gw_4_55 gw_4_53 gw_0_1 gw_4_54 rfl rfl hd_Ru_secondHalf ⟨Nat.le_of_ble_eq_true rfl, Nat.le_of_ble_eq_true rfl⟩) aw_p0 rfl rfl hl.1 rfl (lv_room (Nat.le_of_ble_eq_true rfl)) d_Ru_keyQuarter_30 ⟨Nat.le_of_ble_eq_true rfl, Nat.le_of_ble_eq_true rfl⟩).run) (fun x8 ex8 => ?_)
      have ex8 := ex8.symm
      exact W.iret hx hb hr (fun t ht hW => ⟨_, (by subst ex8 ex6; unfold v_Ru_keyQuarterV; rw [if_neg hb1, if_neg hb7]), rfl, ht⟩) (fun q h => nomatch h) d_Ru_keyQuarter_33
    · refine lv_lload hx hb d_Ru_keyQuarter_20 (lv_at hl 0 rfl) ?_
      refine aw_ci ((va_runS (As := [.long a0]) (rest := []) ⟨hx, hb, hml, hown, hG⟩ (k_Ru_firstHalfV l a0) (aw_wS 1 hG gw_4_52 gw_4_50 gw_0_1 gw_4_51 rfl rfl hd_Ru_firstHalf ⟨Nat.le_of_ble_eq_true rfl, Nat.le_of_ble_eq_true rfl⟩) aw_p0 rfl rfl hl.1 rfl (lv_room (Nat.le_of_ble_eq_true rfl)) d_Ru_keyQuarter_22 ⟨Nat.le_of_ble_eq_true rfl, Nat.le_of_ble_eq_true rfl⟩).run) (fun x9 ex9 => ?_)
      have ex9 := ex9.symm
      refine lv_goto (tgt := 33) hx hb d_Ru_keyQuarter_25 (by decide) ?_
      exact W.iret hx hb hr (fun t ht hW => ⟨_, (by subst ex9 ex6; unfold v_Ru_keyQuarterV; rw [if_neg hb1, if_pos hb7]), rfl, ht⟩) (fun q h => nomatch h) d_Ru_keyQuarter_33
noncomputable def v_Ru_byteOfV (a0 : Int64) (a1 : Int32) : Int32 := ((Int64.toInt32 (jL_ushr a0 ((nI 56) - ((nI 8) * a1)))) &&& (nI 255))
abbrev ws_Ru_byteOfV : List Cond := Cond.code y_Ru_byteOf b_Ru_byteOf 3 (some .int) :: aw_G
abbrev rm_Ru_byteOfV : Room := { frames := 0, cells := 0, slots := 0, locals := 0 }
set_option maxHeartbeats 4000000 in
set_option maxRecDepth 100000 in
theorem k_Ru_byteOfV (l : Launch) (a0 : Int64) (a1 : Int32) : Met l y_Ru_byteOf ws_Ru_byteOfV rm_Ru_byteOfV (va_Pc ([.long a0, .int a1] : List Value) (fun _ => True)) (aw_RI (fun r => r = v_Ru_byteOfV a0 a1)) 0 0 (fun _ => False) := by
  refine Met.ofW (cc := b_Ru_byteOf) (maxL := 3) (ret := (some .int)) (by decide) rfl ?_
  intro p e s m args below meth c s₁ B hml hv
  obtain ⟨rfl, -⟩ := hv
  have hx := B.exec
  have hb := B.bytes
  have hr := B.returns
  have hG : ∀ w ∈ aw_G, w.before _ s = true := fun w h => atoms_spec (ws := ws_Ru_byteOfV) B.pre w (List.mem_cons_of_mem _ h)
  have hown : s.vm.findClass "RuleCiphers" = some m.cls := findClass_of_methodNamed B.named
  have hlocks := B.notSynchronized
  have hl := lv_entry ([.long a0, .int a1] : List Value) (n := 3) (Nat.le_of_ble_eq_true rfl)
  rw [lg_entry_eq]
  generalize (lg_sl ([.long a0, .int a1] : List Value) ++ List.replicate (3 - (lg_sl ([.long a0, .int a1] : List Value)).length) Slot.unset).toArray = ls at hl ⊢
  have hl : lv_has ls 3 [(0, .long a0), (2, .int a1)] := hl
  refine lv_lload_n hx hb d_Ru_byteOf_0 rfl (lv_at hl 0 rfl) ?_
  refine lv_bipush (v := nI 56) hx hb d_Ru_byteOf_1 (by decide +kernel) ?_
  refine lv_bipush (v := nI 8) hx hb d_Ru_byteOf_3 (by decide +kernel) ?_
  refine lv_iload_n hx hb d_Ru_byteOf_5 rfl (lv_at hl 1 rfl) ?_
  refine lv_imul hx hb d_Ru_byteOf_6 ?_
  refine ag_topi (fun x1 ex1 => ?_)
  refine lv_isub hx hb d_Ru_byteOf_7 ?_
  refine ag_topi (fun x2 ex2 => ?_)
  refine lv_lushr hx hb d_Ru_byteOf_8 rfl ?_
  refine ag_topl (fun y3 ey3 => ?_)
  refine lv_l2i hx hb d_Ru_byteOf_9 rfl ?_
  refine ag_topi (fun x4 ex4 => ?_)
  refine lv_sipush (v := nI 255) hx hb d_Ru_byteOf_10 (by decide +kernel) ?_
  refine lv_iand hx hb d_Ru_byteOf_13 ?_
  refine ag_topi (fun x5 ex5 => ?_)
  exact W.iret hx hb hr (fun t ht hW => ⟨_, (by subst ex5 ex4 ey3 ex2 ex1; rfl), rfl, ht⟩) (fun q h => nomatch h) d_Ru_byteOf_14
noncomputable def v_Id_quarterOfV (a0 : Int64) (a1 : Int32) : Int32 := ((Int64.toInt32 (jL_ushr a0 ((nI 48) - ((nI 16) * a1)))) &&& 65535)
abbrev ws_Id_quarterOfV : List Cond := Cond.code y_Id_quarterOf b_Id_quarterOf 3 (some .int) :: aw_G
abbrev rm_Id_quarterOfV : Room := { frames := 0, cells := 0, slots := 0, locals := 0 }
set_option maxHeartbeats 4000000 in
set_option maxRecDepth 100000 in
theorem k_Id_quarterOfV (l : Launch) (a0 : Int64) (a1 : Int32) : Met l y_Id_quarterOf ws_Id_quarterOfV rm_Id_quarterOfV (va_Pc ([.long a0, .int a1] : List Value) (fun _ => True)) (aw_RI (fun r => r = v_Id_quarterOfV a0 a1)) 0 0 (fun _ => False) := by
  refine Met.ofW (cc := b_Id_quarterOf) (maxL := 3) (ret := (some .int)) (by decide) rfl ?_
  intro p e s m args below meth c s₁ B hml hv
  obtain ⟨rfl, -⟩ := hv
  have hx := B.exec
  have hb := B.bytes
  have hr := B.returns
  have hG : ∀ w ∈ aw_G, w.before _ s = true := fun w h => atoms_spec (ws := ws_Id_quarterOfV) B.pre w (List.mem_cons_of_mem _ h)
  have hown : s.vm.findClass "RuleCiphers$Idea" = some m.cls := findClass_of_methodNamed B.named
  have hlocks := B.notSynchronized
  have hl := lv_entry ([.long a0, .int a1] : List Value) (n := 3) (Nat.le_of_ble_eq_true rfl)
  rw [lg_entry_eq]
  generalize (lg_sl ([.long a0, .int a1] : List Value) ++ List.replicate (3 - (lg_sl ([.long a0, .int a1] : List Value)).length) Slot.unset).toArray = ls at hl ⊢
  have hl : lv_has ls 3 [(0, .long a0), (2, .int a1)] := hl
  refine lv_lload_n hx hb d_Id_quarterOf_0 rfl (lv_at hl 0 rfl) ?_
  refine lv_bipush (v := nI 48) hx hb d_Id_quarterOf_1 (by decide +kernel) ?_
  refine lv_bipush (v := nI 16) hx hb d_Id_quarterOf_3 (by decide +kernel) ?_
  refine lv_iload_n hx hb d_Id_quarterOf_5 rfl (lv_at hl 1 rfl) ?_
  refine lv_imul hx hb d_Id_quarterOf_6 ?_
  refine ag_topi (fun x1 ex1 => ?_)
  refine lv_isub hx hb d_Id_quarterOf_7 ?_
  refine ag_topi (fun x2 ex2 => ?_)
  refine lv_lushr hx hb d_Id_quarterOf_8 rfl ?_
  refine ag_topl (fun y3 ey3 => ?_)
  refine lv_l2i hx hb d_Id_quarterOf_9 rfl ?_
  refine ag_topi (fun x4 ex4 => ?_)
  refine lv_ldc (v := 65535) hx hb hown (hG _ gw_4_36) d_Id_quarterOf_10 ?_
  refine lv_iand hx hb d_Id_quarterOf_12 ?_
  refine ag_topi (fun x5 ex5 => ?_)
  exact W.iret hx hb hr (fun t ht hW => ⟨_, (by subst ex5 ex4 ey3 ex2 ex1; rfl), rfl, ht⟩) (fun q h => nomatch h) d_Id_quarterOf_13
noncomputable def v_Id_ofQuartersV (a0 : Int64) (a1 : Int64) (a2 : Int64) (a3 : Int64) : Int64 := ((((jL_shl (a0 &&& 65535) (nI 48)) ||| (jL_shl (a1 &&& 65535) (nI 32))) ||| (jL_shl (a2 &&& 65535) (nI 16))) ||| (a3 &&& 65535))
abbrev ws_Id_ofQuartersV : List Cond := Cond.code y_Id_ofQuarters b_Id_ofQuarters 8 (some .long) :: aw_G
abbrev rm_Id_ofQuartersV : Room := { frames := 0, cells := 0, slots := 0, locals := 0 }
set_option maxHeartbeats 4000000 in
set_option maxRecDepth 100000 in
theorem k_Id_ofQuartersV (l : Launch) (a0 : Int64) (a1 : Int64) (a2 : Int64) (a3 : Int64) : Met l y_Id_ofQuarters ws_Id_ofQuartersV rm_Id_ofQuartersV (va_Pc ([.long a0, .long a1, .long a2, .long a3] : List Value) (fun _ => True)) (aw_RL (fun r => r = v_Id_ofQuartersV a0 a1 a2 a3)) 0 0 (fun _ => False) := by
  refine Met.ofW (cc := b_Id_ofQuarters) (maxL := 8) (ret := (some .long)) (by decide) rfl ?_
  intro p e s m args below meth c s₁ B hml hv
  obtain ⟨rfl, -⟩ := hv
  have hx := B.exec
  have hb := B.bytes
  have hr := B.returns
  have hG : ∀ w ∈ aw_G, w.before _ s = true := fun w h => atoms_spec (ws := ws_Id_ofQuartersV) B.pre w (List.mem_cons_of_mem _ h)
  have hown : s.vm.findClass "RuleCiphers$Idea" = some m.cls := findClass_of_methodNamed B.named
  have hlocks := B.notSynchronized
  have hl := lv_entry ([.long a0, .long a1, .long a2, .long a3] : List Value) (n := 8) (Nat.le_of_ble_eq_true rfl)
  rw [lg_entry_eq]
  generalize (lg_sl ([.long a0, .long a1, .long a2, .long a3] : List Value) ++ List.replicate (8 - (lg_sl ([.long a0, .long a1, .long a2, .long a3] : List Value)).length) Slot.unset).toArray = ls at hl ⊢
  have hl : lv_has ls 8 [(0, .long a0), (2, .long a1), (4, .long a2), (6, .long a3)] := hl
  refine lv_lload_n hx hb d_Id_ofQuarters_0 rfl (lv_at hl 0 rfl) ?_
  refine lv_ldc2 (v := 65535) hx hb hown (hG _ gw_6_20) d_Id_ofQuarters_1 ?_
  refine lv_land hx hb d_Id_ofQuarters_4 ?_
  refine ag_topl (fun y1 ey1 => ?_)
  refine lv_bipush (v := nI 48) hx hb d_Id_ofQuarters_5 (by decide +kernel) ?_
  refine lv_lshl hx hb d_Id_ofQuarters_7 rfl ?_
  refine ag_topl (fun y2 ey2 => ?_)
  refine lv_lload_n hx hb d_Id_ofQuarters_8 rfl (lv_at hl 1 rfl) ?_
  refine lv_ldc2 (v := 65535) hx hb hown (hG _ gw_6_20) d_Id_ofQuarters_9 ?_
  refine lv_land hx hb d_Id_ofQuarters_12 ?_
  refine ag_topl (fun y3 ey3 => ?_)
  refine lv_bipush (v := nI 32) hx hb d_Id_ofQuarters_13 (by decide +kernel) ?_
  refine lv_lshl hx hb d_Id_ofQuarters_15 rfl ?_
  refine ag_topl (fun y4 ey4 => ?_)
  refine lv_lor hx hb d_Id_ofQuarters_16 ?_
  refine ag_topl (fun y5 ey5 => ?_)
  refine lv_lload hx hb d_Id_ofQuarters_17 (lv_at hl 2 rfl) ?_
  refine lv_ldc2 (v := 65535) hx hb hown (hG _ gw_6_20) d_Id_ofQuarters_19 ?_
  refine lv_land hx hb d_Id_ofQuarters_22 ?_
  refine ag_topl (fun y6 ey6 => ?_)
  refine lv_bipush (v := nI 16) hx hb d_Id_ofQuarters_23 (by decide +kernel) ?_
  refine lv_lshl hx hb d_Id_ofQuarters_25 rfl ?_
  refine ag_topl (fun y7 ey7 => ?_)
  refine lv_lor hx hb d_Id_ofQuarters_26 ?_
  refine ag_topl (fun y8 ey8 => ?_)
  refine lv_lload hx hb d_Id_ofQuarters_27 (lv_at hl 3 rfl) ?_
  refine lv_ldc2 (v := 65535) hx hb hown (hG _ gw_6_20) d_Id_ofQuarters_29 ?_
  refine lv_land hx hb d_Id_ofQuarters_32 ?_
  refine ag_topl (fun y9 ey9 => ?_)
  refine lv_lor hx hb d_Id_ofQuarters_33 ?_
  refine ag_topl (fun y10 ey10 => ?_)
  exact W.lret hx hb hr (fun t ht hW => ⟨_, (by subst ey10 ey9 ey8 ey7 ey6 ey5 ey4 ey3 ey2 ey1; rfl), rfl, ht⟩) (fun q h => nomatch h) d_Id_ofQuarters_34
noncomputable def v_Id_timesV (a0 : Int32) (a1 : Int32) : Int32 := (if a0 = 0 then (if a1 = 0 then ((Int64.toInt32 (((Int32.toInt64 65536) * (Int32.toInt64 65536)) - ((Int32.toInt64 65536) * (Int32.toInt64 65536)) / 65537 * 65537)) &&& 65535) else ((Int64.toInt32 (((Int32.toInt64 65536) * (Int32.toInt64 a1)) - ((Int32.toInt64 65536) * (Int32.toInt64 a1)) / 65537 * 65537)) &&& 65535)) else (if a1 = 0 then ((Int64.toInt32 (((Int32.toInt64 a0) * (Int32.toInt64 65536)) - ((Int32.toInt64 a0) * (Int32.toInt64 65536)) / 65537 * 65537)) &&& 65535) else ((Int64.toInt32 (((Int32.toInt64 a0) * (Int32.toInt64 a1)) - ((Int32.toInt64 a0) * (Int32.toInt64 a1)) / 65537 * 65537)) &&& 65535)))
abbrev ws_Id_timesV : List Cond := Cond.code y_Id_times b_Id_times 4 (some .int) :: aw_G
abbrev rm_Id_timesV : Room := { frames := 0, cells := 0, slots := 0, locals := 0 }
set_option maxHeartbeats 4000000 in
set_option maxRecDepth 100000 in
theorem k_Id_timesV (l : Launch) (a0 : Int32) (a1 : Int32) : Met l y_Id_times ws_Id_timesV rm_Id_timesV (va_Pc ([.int a0, .int a1] : List Value) (fun _ => True)) (aw_RI (fun r => r = v_Id_timesV a0 a1)) 0 0 (fun _ => False) := by
  refine Met.ofW (cc := b_Id_times) (maxL := 4) (ret := (some .int)) (by decide) rfl ?_
  intro p e s m args below meth c s₁ B hml hv
  obtain ⟨rfl, -⟩ := hv
  have hx := B.exec
  have hb := B.bytes
  have hr := B.returns
  have hG : ∀ w ∈ aw_G, w.before _ s = true := fun w h => atoms_spec (ws := ws_Id_timesV) B.pre w (List.mem_cons_of_mem _ h)
  have hown : s.vm.findClass "RuleCiphers$Idea" = some m.cls := findClass_of_methodNamed B.named
  have hlocks := B.notSynchronized
  have hl := lv_entry ([.int a0, .int a1] : List Value) (n := 4) (Nat.le_of_ble_eq_true rfl)
  rw [lg_entry_eq]
  generalize (lg_sl ([.int a0, .int a1] : List Value) ++ List.replicate (4 - (lg_sl ([.int a0, .int a1] : List Value)).length) Slot.unset).toArray = ls at hl ⊢
  have hl : lv_has ls 4 [(0, .int a0), (1, .int a1)] := hl
  refine lv_iload_n hx hb d_Id_times_0 rfl (lv_at hl 0 rfl) ?_
  refine lv_if_ne (tgt := 9) hx hb d_Id_times_1 (by decide) (fun hb1 => ?_) (fun hb1 => ?_)
  · refine lv_iload_n hx hb d_Id_times_9 rfl (lv_at hl 0 rfl) ?_
    refine lv_i2l hx hb d_Id_times_10 rfl ?_
    refine ag_topl (fun y2 ey2 => ?_)
    refine lv_iload_n hx hb d_Id_times_11 rfl (lv_at hl 1 rfl) ?_
    refine lv_if_ne (tgt := 20) hx hb d_Id_times_12 (by decide) (fun hb3 => ?_) (fun hb3 => ?_)
    · refine lv_iload_n hx hb d_Id_times_20 rfl (lv_at hl 1 rfl) ?_
      refine lv_i2l hx hb d_Id_times_21 rfl ?_
      refine ag_topl (fun y4 ey4 => ?_)
      refine lv_lmul hx hb d_Id_times_22 ?_
      refine ag_topl (fun y5 ey5 => ?_)
      refine lv_lstore_n hx hb d_Id_times_23 rfl hl (by decide) rfl (fun ls hl => ?_)
      have hl : lv_has ls 4 [(2, .long y5), (0, .int a0), (1, .int a1)] := hl
      refine lv_lload_n hx hb d_Id_times_24 rfl (lv_at hl 0 rfl) ?_
      refine lv_ldc2 (v := 65537) hx hb hown (hG _ gw_4_44) d_Id_times_25 ?_
      refine lv_lrem hx hb d_Id_times_28 (by decide +kernel) ?_
      refine ag_topl (fun y6 ey6 => ?_)
      refine lv_l2i hx hb d_Id_times_29 rfl ?_
      refine ag_topi (fun x7 ex7 => ?_)
      refine lv_ldc (v := 65535) hx hb hown (hG _ gw_4_36) d_Id_times_30 ?_
      refine lv_iand hx hb d_Id_times_32 ?_
      refine ag_topi (fun x8 ex8 => ?_)
      exact W.iret hx hb hr (fun t ht hW => ⟨_, (by subst ex8 ex7 ey6 ey5 ey4 ey2; unfold v_Id_timesV; rw [if_neg hb1, if_neg hb3]), rfl, ht⟩) (fun q h => nomatch h) d_Id_times_33
    · refine lv_ldc (v := 65536) hx hb hown (hG _ gw_4_43) d_Id_times_15 ?_
      refine lv_goto (tgt := 21) hx hb d_Id_times_17 (by decide) ?_
      refine lv_i2l hx hb d_Id_times_21 rfl ?_
      refine ag_topl (fun y9 ey9 => ?_)
      refine lv_lmul hx hb d_Id_times_22 ?_
      refine ag_topl (fun y10 ey10 => ?_)
      refine lv_lstore_n hx hb d_Id_times_23 rfl hl (by decide) rfl (fun ls hl => ?_)
      have hl : lv_has ls 4 [(2, .long y10), (0, .int a0), (1, .int a1)] := hl
      refine lv_lload_n hx hb d_Id_times_24 rfl (lv_at hl 0 rfl) ?_
      refine lv_ldc2 (v := 65537) hx hb hown (hG _ gw_4_44) d_Id_times_25 ?_
      refine lv_lrem hx hb d_Id_times_28 (by decide +kernel) ?_
      refine ag_topl (fun y11 ey11 => ?_)
      refine lv_l2i hx hb d_Id_times_29 rfl ?_
      refine ag_topi (fun x12 ex12 => ?_)
      refine lv_ldc (v := 65535) hx hb hown (hG _ gw_4_36) d_Id_times_30 ?_
      refine lv_iand hx hb d_Id_times_32 ?_
      refine ag_topi (fun x13 ex13 => ?_)
      exact W.iret hx hb hr (fun t ht hW => ⟨_, (by subst ex13 ex12 ey11 ey10 ey9 ey2; unfold v_Id_timesV; rw [if_neg hb1, if_pos hb3]), rfl, ht⟩) (fun q h => nomatch h) d_Id_times_33
  · refine lv_ldc (v := 65536) hx hb hown (hG _ gw_4_43) d_Id_times_4 ?_
    refine lv_goto (tgt := 10) hx hb d_Id_times_6 (by decide) ?_
    refine lv_i2l hx hb d_Id_times_10 rfl ?_
    refine ag_topl (fun y14 ey14 => ?_)
    refine lv_iload_n hx hb d_Id_times_11 rfl (lv_at hl 1 rfl) ?_
    refine lv_if_ne (tgt := 20) hx hb d_Id_times_12 (by decide) (fun hb15 => ?_) (fun hb15 => ?_)
    · refine lv_iload_n hx hb d_Id_times_20 rfl (lv_at hl 1 rfl) ?_
      refine lv_i2l hx hb d_Id_times_21 rfl ?_
      refine ag_topl (fun y16 ey16 => ?_)
      refine lv_lmul hx hb d_Id_times_22 ?_
      refine ag_topl (fun y17 ey17 => ?_)
      refine lv_lstore_n hx hb d_Id_times_23 rfl hl (by decide) rfl (fun ls hl => ?_)
      have hl : lv_has ls 4 [(2, .long y17), (0, .int a0), (1, .int a1)] := hl
      refine lv_lload_n hx hb d_Id_times_24 rfl (lv_at hl 0 rfl) ?_
      refine lv_ldc2 (v := 65537) hx hb hown (hG _ gw_4_44) d_Id_times_25 ?_
      refine lv_lrem hx hb d_Id_times_28 (by decide +kernel) ?_
      refine ag_topl (fun y18 ey18 => ?_)
      refine lv_l2i hx hb d_Id_times_29 rfl ?_
      refine ag_topi (fun x19 ex19 => ?_)
      refine lv_ldc (v := 65535) hx hb hown (hG _ gw_4_36) d_Id_times_30 ?_
      refine lv_iand hx hb d_Id_times_32 ?_
      refine ag_topi (fun x20 ex20 => ?_)
      exact W.iret hx hb hr (fun t ht hW => ⟨_, (by subst ex20 ex19 ey18 ey17 ey16 ey14; unfold v_Id_timesV; rw [if_pos hb1, if_neg hb15]), rfl, ht⟩) (fun q h => nomatch h) d_Id_times_33
    · refine lv_ldc (v := 65536) hx hb hown (hG _ gw_4_43) d_Id_times_15 ?_
      refine lv_goto (tgt := 21) hx hb d_Id_times_17 (by decide) ?_
      refine lv_i2l hx hb d_Id_times_21 rfl ?_
      refine ag_topl (fun y21 ey21 => ?_)
      refine lv_lmul hx hb d_Id_times_22 ?_
      refine ag_topl (fun y22 ey22 => ?_)
      refine lv_lstore_n hx hb d_Id_times_23 rfl hl (by decide) rfl (fun ls hl => ?_)
      have hl : lv_has ls 4 [(2, .long y22), (0, .int a0), (1, .int a1)] := hl
      refine lv_lload_n hx hb d_Id_times_24 rfl (lv_at hl 0 rfl) ?_
      refine lv_ldc2 (v := 65537) hx hb hown (hG _ gw_4_44) d_Id_times_25 ?_
      refine lv_lrem hx hb d_Id_times_28 (by decide +kernel) ?_
      refine ag_topl (fun y23 ey23 => ?_)
      refine lv_l2i hx hb d_Id_times_29 rfl ?_
      refine ag_topi (fun x24 ex24 => ?_)
      refine lv_ldc (v := 65535) hx hb hown (hG _ gw_4_36) d_Id_times_30 ?_
      refine lv_iand hx hb d_Id_times_32 ?_
      refine ag_topi (fun x25 ex25 => ?_)
      exact W.iret hx hb hr (fun t ht hW => ⟨_, (by subst ex25 ex24 ey23 ey22 ey21 ey14; unfold v_Id_timesV; rw [if_pos hb1, if_pos hb15]), rfl, ht⟩) (fun q h => nomatch h) d_Id_times_33
noncomputable def v_Id_middleSwappedV (a0 : Int64) : Int64 := v_Id_ofQuartersV (Int32.toInt64 (v_Id_quarterOfV a0 (nI 0))) (Int32.toInt64 (v_Id_quarterOfV a0 (nI 2))) (Int32.toInt64 (v_Id_quarterOfV a0 (nI 1))) (Int32.toInt64 (v_Id_quarterOfV a0 (nI 3)))
abbrev ws_Id_middleSwappedV : List Cond := Cond.code y_Id_middleSwapped b_Id_middleSwapped 2 (some .long) :: aw_G
abbrev rm_Id_middleSwappedV : Room := { frames := 1, cells := 0, slots := 0, locals := 27 }
set_option maxHeartbeats 4000000 in
set_option maxRecDepth 100000 in
theorem k_Id_middleSwappedV (l : Launch) (a0 : Int64) : Met l y_Id_middleSwapped ws_Id_middleSwappedV rm_Id_middleSwappedV (va_Pc ([.long a0] : List Value) (fun _ => True)) (aw_RL (fun r => r = v_Id_middleSwappedV a0)) 0 0 (fun _ => False) := by
  refine Met.ofW (cc := b_Id_middleSwapped) (maxL := 2) (ret := (some .long)) (by decide) rfl ?_
  intro p e s m args below meth c s₁ B hml hv
  obtain ⟨rfl, -⟩ := hv
  have hx := B.exec
  have hb := B.bytes
  have hr := B.returns
  have hG : ∀ w ∈ aw_G, w.before _ s = true := fun w h => atoms_spec (ws := ws_Id_middleSwappedV) B.pre w (List.mem_cons_of_mem _ h)
  have hown : s.vm.findClass "RuleCiphers$Idea" = some m.cls := findClass_of_methodNamed B.named
  have hlocks := B.notSynchronized
  have hl := lv_entry ([.long a0] : List Value) (n := 2) (Nat.le_of_ble_eq_true rfl)
  rw [lg_entry_eq]
  generalize (lg_sl ([.long a0] : List Value) ++ List.replicate (2 - (lg_sl ([.long a0] : List Value)).length) Slot.unset).toArray = ls at hl ⊢
  have hl : lv_has ls 2 [(0, .long a0)] := hl
  refine lv_lload_n hx hb d_Id_middleSwapped_0 rfl (lv_at hl 0 rfl) ?_
  refine lv_iconst (v := nI 0) hx hb d_Id_middleSwapped_1 (by decide +kernel) ?_
  refine aw_ci ((va_runS (As := [.long a0, .int (nI 0)]) (rest := []) ⟨hx, hb, hml, hown, hG⟩ (k_Id_quarterOfV l a0 (nI 0)) (aw_wS 2 hG gw_4_35 gw_4_33 gw_0_8 gw_4_34 rfl rfl hd_Id_quarterOf ⟨Nat.le_of_ble_eq_true rfl, Nat.le_of_ble_eq_true rfl⟩) aw_p0 rfl rfl hl.1 rfl (lv_room (Nat.le_of_ble_eq_true rfl)) d_Id_middleSwapped_2 ⟨Nat.le_of_ble_eq_true rfl, Nat.le_of_ble_eq_true rfl⟩).run) (fun x1 ex1 => ?_)
  have ex1 := ex1.symm
  refine lv_i2l hx hb d_Id_middleSwapped_5 rfl ?_
  refine ag_topl (fun y2 ey2 => ?_)
  refine lv_lload_n hx hb d_Id_middleSwapped_6 rfl (lv_at hl 0 rfl) ?_
  refine lv_iconst (v := nI 2) hx hb d_Id_middleSwapped_7 (by decide +kernel) ?_
  refine aw_ci ((va_runS (As := [.long a0, .int (nI 2)]) (rest := [.long y2]) ⟨hx, hb, hml, hown, hG⟩ (k_Id_quarterOfV l a0 (nI 2)) (aw_wS 2 hG gw_4_35 gw_4_33 gw_0_8 gw_4_34 rfl rfl hd_Id_quarterOf ⟨Nat.le_of_ble_eq_true rfl, Nat.le_of_ble_eq_true rfl⟩) aw_p0 rfl rfl hl.1 rfl (lv_room (Nat.le_of_ble_eq_true rfl)) d_Id_middleSwapped_8 ⟨Nat.le_of_ble_eq_true rfl, Nat.le_of_ble_eq_true rfl⟩).run) (fun x3 ex3 => ?_)
  have ex3 := ex3.symm
  refine lv_i2l hx hb d_Id_middleSwapped_11 rfl ?_
  refine ag_topl (fun y4 ey4 => ?_)
  refine lv_lload_n hx hb d_Id_middleSwapped_12 rfl (lv_at hl 0 rfl) ?_
  refine lv_iconst (v := nI 1) hx hb d_Id_middleSwapped_13 (by decide +kernel) ?_
  refine aw_ci ((va_runS (As := [.long a0, .int (nI 1)]) (rest := [.long y4, .long y2]) ⟨hx, hb, hml, hown, hG⟩ (k_Id_quarterOfV l a0 (nI 1)) (aw_wS 2 hG gw_4_35 gw_4_33 gw_0_8 gw_4_34 rfl rfl hd_Id_quarterOf ⟨Nat.le_of_ble_eq_true rfl, Nat.le_of_ble_eq_true rfl⟩) aw_p0 rfl rfl hl.1 rfl (lv_room (Nat.le_of_ble_eq_true rfl)) d_Id_middleSwapped_14 ⟨Nat.le_of_ble_eq_true rfl, Nat.le_of_ble_eq_true rfl⟩).run) (fun x5 ex5 => ?_)
  have ex5 := ex5.symm
  refine lv_i2l hx hb d_Id_middleSwapped_17 rfl ?_
  refine ag_topl (fun y6 ey6 => ?_)
  refine lv_lload_n hx hb d_Id_middleSwapped_18 rfl (lv_at hl 0 rfl) ?_
  refine lv_iconst (v := nI 3) hx hb d_Id_middleSwapped_19 (by decide +kernel) ?_
  refine aw_ci ((va_runS (As := [.long a0, .int (nI 3)]) (rest := [.long y6, .long y4, .long y2]) ⟨hx, hb, hml, hown, hG⟩ (k_Id_quarterOfV l a0 (nI 3)) (aw_wS 2 hG gw_4_35 gw_4_33 gw_0_8 gw_4_34 rfl rfl hd_Id_quarterOf ⟨Nat.le_of_ble_eq_true rfl, Nat.le_of_ble_eq_true rfl⟩) aw_p0 rfl rfl hl.1 rfl (lv_room (Nat.le_of_ble_eq_true rfl)) d_Id_middleSwapped_20 ⟨Nat.le_of_ble_eq_true rfl, Nat.le_of_ble_eq_true rfl⟩).run) (fun x7 ex7 => ?_)
  have ex7 := ex7.symm
  refine lv_i2l hx hb d_Id_middleSwapped_23 rfl ?_
  refine ag_topl (fun y8 ey8 => ?_)
  refine aw_cl ((va_runS (As := [.long y2, .long y4, .long y6, .long y8]) (rest := []) ⟨hx, hb, hml, hown, hG⟩ (k_Id_ofQuartersV l y2 y4 y6 y8) (aw_wS 4 hG gw_6_19 gw_6_17 gw_0_8 gw_6_18 rfl rfl hd_Id_ofQuarters ⟨Nat.le_of_ble_eq_true rfl, Nat.le_of_ble_eq_true rfl⟩) aw_p0 rfl rfl hl.1 rfl (lv_room (Nat.le_of_ble_eq_true rfl)) d_Id_middleSwapped_24 ⟨Nat.le_of_ble_eq_true rfl, Nat.le_of_ble_eq_true rfl⟩).run) (fun y9 ey9 => ?_)
  have ey9 := ey9.symm
  exact W.lret hx hb hr (fun t ht hW => ⟨_, (by subst ey9 ey8 ex7 ey6 ex5 ey4 ex3 ey2 ex1; rfl), rfl, ht⟩) (fun q h => nomatch h) d_Id_middleSwapped_27
noncomputable def v_Id_inverseV_L4 (a0 : Int32) (t : Nat) : Int32 := Nat.rec (motive := fun _ => Int32) (a0) (fun t s => v_Id_timesV (v_Id_timesV (s) (s)) a0) t
noncomputable def v_Id_inverseV (a0 : Int32) : Int32 := (v_Id_inverseV_L4 a0 15)
abbrev ws_Id_inverseV : List Cond := Cond.code y_Id_inverse b_Id_inverse 3 (some .int) :: aw_G
abbrev rm_Id_inverseV : Room := { frames := 1, cells := 0, slots := 0, locals := 23 }
set_option maxHeartbeats 4000000 in
set_option maxRecDepth 100000 in
theorem k_Id_inverseV (l : Launch) (a0 : Int32) : Met l y_Id_inverse ws_Id_inverseV rm_Id_inverseV (va_Pc ([.int a0] : List Value) (fun _ => True)) (aw_RI (fun r => r = v_Id_inverseV a0)) 0 0 (fun _ => False) := by
  refine Met.ofW (cc := b_Id_inverse) (maxL := 3) (ret := (some .int)) (by decide) rfl ?_
  intro p e s m args below meth c s₁ B hml hv
  obtain ⟨rfl, -⟩ := hv
  have hx := B.exec
  have hb := B.bytes
  have hr := B.returns
  have hG : ∀ w ∈ aw_G, w.before _ s = true := fun w h => atoms_spec (ws := ws_Id_inverseV) B.pre w (List.mem_cons_of_mem _ h)
  have hown : s.vm.findClass "RuleCiphers$Idea" = some m.cls := findClass_of_methodNamed B.named
  have hlocks := B.notSynchronized
  have hl := lv_entry ([.int a0] : List Value) (n := 3) (Nat.le_of_ble_eq_true rfl)
  rw [lg_entry_eq]
  generalize (lg_sl ([.int a0] : List Value) ++ List.replicate (3 - (lg_sl ([.int a0] : List Value)).length) Slot.unset).toArray = ls at hl ⊢
  have hl : lv_has ls 3 [(0, .int a0)] := hl
  refine lv_iload_n hx hb d_Id_inverse_0 rfl (lv_at hl 0 rfl) ?_
  refine lv_istore_n hx hb d_Id_inverse_1 rfl hl (by decide) rfl (fun ls hl => ?_)
  have hl : lv_has ls 3 [(1, .int a0), (0, .int a0)] := hl
  refine lv_iconst (v := nI 1) hx hb d_Id_inverse_2 (by decide +kernel) ?_
  refine lv_istore_n hx hb d_Id_inverse_3 rfl hl (by decide) rfl (fun ls hl => ?_)
  have hl : lv_has ls 3 [(2, .int (nI 1)), (1, .int a0), (0, .int a0)] := hl
  have L4 : ∀ (d t : Nat) (ls : Array Slot), t + d = 15 → lv_has ls 3 [(0, .int a0), (1, .int ((v_Id_inverseV_L4 a0 t))), (2, .int (nI (1 + t)))] → W p l e (headSpec ws_Id_inverseV rm_Id_inverseV).room s m ([.int a0] : List Value).toArray below meth c s.heap [] 0 0 (MQ below (aw_RI (fun r => r = v_Id_inverseV a0)) ([.int a0] : List Value).toArray s 0 0 (fun _ => False)) (F0 m 4 ls []) := by
    clear hl
    intro d
    induction d with
    | zero =>
      intro t ls ht0 hl
      have ht1 : t = 15 := by omega
      subst ht1
      refine lv_iload_n hx hb d_Id_inverse_4 rfl (lv_at hl 2 rfl) ?_
      refine lv_bipush (v := nI 16) hx hb d_Id_inverse_5 (by decide +kernel) ?_
      refine lv_icmp_ge (tgt := 26) hx hb d_Id_inverse_7 (by decide) (fun _ => ?_) (fun h => absurd (show nI 16 ≤ nI (1 + 15) from (nI_leI (by omega) (by omega)).mpr (by omega)) h)
      refine lv_iload_n hx hb d_Id_inverse_26 rfl (lv_at hl 1 rfl) ?_
      exact W.iret hx hb hr (fun t ht hW => ⟨_, rfl, rfl, ht⟩) (fun q h => nomatch h) d_Id_inverse_27
    | succ d ih =>
      intro t ls ht0 hl
      refine lv_iload_n hx hb d_Id_inverse_4 rfl (lv_at hl 2 rfl) ?_
      refine lv_bipush (v := nI 16) hx hb d_Id_inverse_5 (by decide +kernel) ?_
      refine lv_icmp_ge (tgt := 26) hx hb d_Id_inverse_7 (by decide) (fun h => absurd h (show ¬ nI 16 ≤ nI (1 + t) from fun h9 => absurd ((nI_leI (by omega) (by omega)).mp h9) (by omega))) (fun _ => ?_)
      refine lv_iload_n hx hb d_Id_inverse_10 rfl (lv_at hl 1 rfl) ?_
      refine lv_iload_n hx hb d_Id_inverse_11 rfl (lv_at hl 1 rfl) ?_
      refine aw_ci ((va_runS (As := [.int ((v_Id_inverseV_L4 a0 t)), .int ((v_Id_inverseV_L4 a0 t))]) (rest := []) ⟨hx, hb, hml, hown, hG⟩ (k_Id_timesV l ((v_Id_inverseV_L4 a0 t)) ((v_Id_inverseV_L4 a0 t))) (aw_wS 2 hG gw_4_42 gw_4_40 gw_0_8 gw_4_41 rfl rfl hd_Id_times ⟨Nat.le_of_ble_eq_true rfl, Nat.le_of_ble_eq_true rfl⟩) aw_p0 rfl rfl hl.1 rfl (lv_room (Nat.le_of_ble_eq_true rfl)) d_Id_inverse_12 ⟨Nat.le_of_ble_eq_true rfl, Nat.le_of_ble_eq_true rfl⟩).run) (fun x1 ex1 => ?_)
      have ex1 := ex1.symm
      refine lv_iload_n hx hb d_Id_inverse_15 rfl (lv_at hl 0 rfl) ?_
      refine aw_ci ((va_runS (As := [.int x1, .int a0]) (rest := []) ⟨hx, hb, hml, hown, hG⟩ (k_Id_timesV l x1 a0) (aw_wS 2 hG gw_4_42 gw_4_40 gw_0_8 gw_4_41 rfl rfl hd_Id_times ⟨Nat.le_of_ble_eq_true rfl, Nat.le_of_ble_eq_true rfl⟩) aw_p0 rfl rfl hl.1 rfl (lv_room (Nat.le_of_ble_eq_true rfl)) d_Id_inverse_16 ⟨Nat.le_of_ble_eq_true rfl, Nat.le_of_ble_eq_true rfl⟩).run) (fun x2 ex2 => ?_)
      have ex2 := ex2.symm
      refine lv_istore_n hx hb d_Id_inverse_19 rfl hl (by decide) rfl (fun ls hl => ?_)
      have hl : lv_has ls 3 [(1, .int x2), (0, .int a0), (2, .int (nI (1 + t)))] := hl
      refine lv_iinc (k := 2) (v := nI (1 + t + 1)) hx hb d_Id_inverse_20 hl rfl (aw_inc (1 + t) 1 1 (by decide +kernel)) (by decide) rfl (fun ls hl => ?_)
      have hl : lv_has ls 3 [(2, .int (nI (1 + t + 1))), (1, .int x2), (0, .int a0)] := hl
      refine lv_goto (tgt := 4) hx hb d_Id_inverse_23 (by decide) ?_
      have hl := lv_sub hl (l' := [(0, .int a0), (1, .int x2), (2, .int (nI (1 + t + 1)))]) [2, 1, 0] rfl
      have g0 : x2 = (v_Id_inverseV_L4 a0 (t + 1)) := by subst ex2 ex1; rfl
      rw [g0] at hl
      exact ih (t + 1) ls (by omega) (by first | exact hl | simpa [Nat.add_assoc, Nat.mul_add, Nat.add_comm] using hl)
  have hl := lv_sub hl (l' := [(0, .int a0), (1, .int a0), (2, .int (nI 1))]) [2, 1, 0] rfl
  have g0 : a0 = (v_Id_inverseV_L4 a0 0) := by rfl
  rw [g0] at hl
  exact L4 15 0 ls (by omega) (by first | exact hl | simpa using hl)
noncomputable def v_Xt_stirredV (a0 : Int32) : Int32 := (((jI_shl a0 (nI 4)) ^^^ (jI_ushr a0 (nI 5))) + a0)
abbrev ws_Xt_stirredV : List Cond := Cond.code y_Xt_stirred b_Xt_stirred 1 (some .int) :: aw_G
abbrev rm_Xt_stirredV : Room := { frames := 0, cells := 0, slots := 0, locals := 0 }
set_option maxHeartbeats 4000000 in
set_option maxRecDepth 100000 in
theorem k_Xt_stirredV (l : Launch) (a0 : Int32) : Met l y_Xt_stirred ws_Xt_stirredV rm_Xt_stirredV (va_Pc ([.int a0] : List Value) (fun _ => True)) (aw_RI (fun r => r = v_Xt_stirredV a0)) 0 0 (fun _ => False) := by
  refine Met.ofW (cc := b_Xt_stirred) (maxL := 1) (ret := (some .int)) (by decide) rfl ?_
  intro p e s m args below meth c s₁ B hml hv
  obtain ⟨rfl, -⟩ := hv
  have hx := B.exec
  have hb := B.bytes
  have hr := B.returns
  have hG : ∀ w ∈ aw_G, w.before _ s = true := fun w h => atoms_spec (ws := ws_Xt_stirredV) B.pre w (List.mem_cons_of_mem _ h)
  have hown : s.vm.findClass "RuleCiphers$Xtea" = some m.cls := findClass_of_methodNamed B.named
  have hlocks := B.notSynchronized
  have hl := lv_entry ([.int a0] : List Value) (n := 1) (Nat.le_of_ble_eq_true rfl)
  rw [lg_entry_eq]
  generalize (lg_sl ([.int a0] : List Value) ++ List.replicate (1 - (lg_sl ([.int a0] : List Value)).length) Slot.unset).toArray = ls at hl ⊢
  have hl : lv_has ls 1 [(0, .int a0)] := hl
  refine lv_iload_n hx hb d_Xt_stirred_0 rfl (lv_at hl 0 rfl) ?_
  refine lv_iconst (v := nI 4) hx hb d_Xt_stirred_1 (by decide +kernel) ?_
  refine lv_ishl hx hb d_Xt_stirred_2 ?_
  refine ag_topi (fun x1 ex1 => ?_)
  refine lv_iload_n hx hb d_Xt_stirred_3 rfl (lv_at hl 0 rfl) ?_
  refine lv_iconst (v := nI 5) hx hb d_Xt_stirred_4 (by decide +kernel) ?_
  refine lv_iushr hx hb d_Xt_stirred_5 rfl ?_
  refine ag_topi (fun x2 ex2 => ?_)
  refine lv_ixor hx hb d_Xt_stirred_6 ?_
  refine ag_topi (fun x3 ex3 => ?_)
  refine lv_iload_n hx hb d_Xt_stirred_7 rfl (lv_at hl 0 rfl) ?_
  refine lv_iadd hx hb d_Xt_stirred_8 ?_
  refine ag_topi (fun x4 ex4 => ?_)
  exact W.iret hx hb hr (fun t ht hW => ⟨_, (by subst ex4 ex3 ex2 ex1; rfl), rfl, ht⟩) (fun q h => nomatch h) d_Xt_stirred_9
noncomputable def v_Si_zBitV (a0 : Int32) : Int32 := ((Int64.toInt32 (jL_ushr 3957284701066611983 ((nI 61) - a0))) &&& (nI 1))
abbrev ws_Si_zBitV : List Cond := Cond.code y_Si_zBit b_Si_zBit 1 (some .int) :: aw_G
abbrev rm_Si_zBitV : Room := { frames := 0, cells := 0, slots := 0, locals := 0 }
set_option maxHeartbeats 4000000 in
set_option maxRecDepth 100000 in
theorem k_Si_zBitV (l : Launch) (a0 : Int32) : Met l y_Si_zBit ws_Si_zBitV rm_Si_zBitV (va_Pc ([.int a0] : List Value) (fun _ => True)) (aw_RI (fun r => r = v_Si_zBitV a0)) 0 0 (fun _ => False) := by
  refine Met.ofW (cc := b_Si_zBit) (maxL := 1) (ret := (some .int)) (by decide) rfl ?_
  intro p e s m args below meth c s₁ B hml hv
  obtain ⟨rfl, -⟩ := hv
  have hx := B.exec
  have hb := B.bytes
  have hr := B.returns
  have hG : ∀ w ∈ aw_G, w.before _ s = true := fun w h => atoms_spec (ws := ws_Si_zBitV) B.pre w (List.mem_cons_of_mem _ h)
  have hown : s.vm.findClass "RuleCiphers$Simon" = some m.cls := findClass_of_methodNamed B.named
  have hlocks := B.notSynchronized
  have hl := lv_entry ([.int a0] : List Value) (n := 1) (Nat.le_of_ble_eq_true rfl)
  rw [lg_entry_eq]
  generalize (lg_sl ([.int a0] : List Value) ++ List.replicate (1 - (lg_sl ([.int a0] : List Value)).length) Slot.unset).toArray = ls at hl ⊢
  have hl : lv_has ls 1 [(0, .int a0)] := hl
  refine lv_ldc2 (v := 3957284701066611983) hx hb hown (hG _ gw_5_14) d_Si_zBit_0 ?_
  refine lv_bipush (v := nI 61) hx hb d_Si_zBit_3 (by decide +kernel) ?_
  refine lv_iload_n hx hb d_Si_zBit_5 rfl (lv_at hl 0 rfl) ?_
  refine lv_isub hx hb d_Si_zBit_6 ?_
  refine ag_topi (fun x1 ex1 => ?_)
  refine lv_lushr hx hb d_Si_zBit_7 rfl ?_
  refine ag_topl (fun y2 ey2 => ?_)
  refine lv_l2i hx hb d_Si_zBit_8 rfl ?_
  refine ag_topi (fun x3 ex3 => ?_)
  refine lv_iconst (v := nI 1) hx hb d_Si_zBit_9 (by decide +kernel) ?_
  refine lv_iand hx hb d_Si_zBit_10 ?_
  refine ag_topi (fun x4 ex4 => ?_)
  exact W.iret hx hb hr (fun t ht hW => ⟨_, (by subst ex4 ex3 ey2 ex1; rfl), rfl, ht⟩) (fun q h => nomatch h) d_Si_zBit_11
noncomputable def v_Tk_atByteV (a0 : Int32) (a1 : Int32) : Int64 := (jL_shl (Int32.toInt64 a0) ((nI 56) - ((nI 8) * a1)))
abbrev ws_Tk_atByteV : List Cond := Cond.code y_Tk_atByte b_Tk_atByte 2 (some .long) :: aw_G
abbrev rm_Tk_atByteV : Room := { frames := 0, cells := 0, slots := 0, locals := 0 }
set_option maxHeartbeats 4000000 in
set_option maxRecDepth 100000 in
theorem k_Tk_atByteV (l : Launch) (a0 : Int32) (a1 : Int32) : Met l y_Tk_atByte ws_Tk_atByteV rm_Tk_atByteV (va_Pc ([.int a0, .int a1] : List Value) (fun _ => True)) (aw_RL (fun r => r = v_Tk_atByteV a0 a1)) 0 0 (fun _ => False) := by
  refine Met.ofW (cc := b_Tk_atByte) (maxL := 2) (ret := (some .long)) (by decide) rfl ?_
  intro p e s m args below meth c s₁ B hml hv
  obtain ⟨rfl, -⟩ := hv
  have hx := B.exec
  have hb := B.bytes
  have hr := B.returns
  have hG : ∀ w ∈ aw_G, w.before _ s = true := fun w h => atoms_spec (ws := ws_Tk_atByteV) B.pre w (List.mem_cons_of_mem _ h)
  have hown : s.vm.findClass "RuleCiphers$Taken" = some m.cls := findClass_of_methodNamed B.named
  have hlocks := B.notSynchronized
  have hl := lv_entry ([.int a0, .int a1] : List Value) (n := 2) (Nat.le_of_ble_eq_true rfl)
  rw [lg_entry_eq]
  generalize (lg_sl ([.int a0, .int a1] : List Value) ++ List.replicate (2 - (lg_sl ([.int a0, .int a1] : List Value)).length) Slot.unset).toArray = ls at hl ⊢
  have hl : lv_has ls 2 [(0, .int a0), (1, .int a1)] := hl
  refine lv_iload_n hx hb d_Tk_atByte_0 rfl (lv_at hl 0 rfl) ?_
  refine lv_i2l hx hb d_Tk_atByte_1 rfl ?_
  refine ag_topl (fun y1 ey1 => ?_)
  refine lv_bipush (v := nI 56) hx hb d_Tk_atByte_2 (by decide +kernel) ?_
  refine lv_bipush (v := nI 8) hx hb d_Tk_atByte_4 (by decide +kernel) ?_
  refine lv_iload_n hx hb d_Tk_atByte_6 rfl (lv_at hl 1 rfl) ?_
  refine lv_imul hx hb d_Tk_atByte_7 ?_
  refine ag_topi (fun x2 ex2 => ?_)
  refine lv_isub hx hb d_Tk_atByte_8 ?_
  refine ag_topi (fun x3 ex3 => ?_)
  refine lv_lshl hx hb d_Tk_atByte_9 rfl ?_
  refine ag_topl (fun y4 ey4 => ?_)
  exact W.lret hx hb hr (fun t ht hW => ⟨_, (by subst ey4 ex3 ex2 ey1; rfl), rfl, ht⟩) (fun q h => nomatch h) d_Tk_atByte_10
noncomputable def v_Tk_doubledV (a0 : Int64) : Int64 := (if 0 ≤ (lg_cmp a0 0) then (jL_shl a0 (nI 1)) else ((jL_shl a0 (nI 1)) ^^^ 27))
abbrev ws_Tk_doubledV : List Cond := Cond.code y_Tk_doubled b_Tk_doubled 2 (some .long) :: aw_G
abbrev rm_Tk_doubledV : Room := { frames := 0, cells := 0, slots := 0, locals := 0 }
set_option maxHeartbeats 4000000 in
set_option maxRecDepth 100000 in
theorem k_Tk_doubledV (l : Launch) (a0 : Int64) : Met l y_Tk_doubled ws_Tk_doubledV rm_Tk_doubledV (va_Pc ([.long a0] : List Value) (fun _ => True)) (aw_RL (fun r => r = v_Tk_doubledV a0)) 0 0 (fun _ => False) := by
  refine Met.ofW (cc := b_Tk_doubled) (maxL := 2) (ret := (some .long)) (by decide) rfl ?_
  intro p e s m args below meth c s₁ B hml hv
  obtain ⟨rfl, -⟩ := hv
  have hx := B.exec
  have hb := B.bytes
  have hr := B.returns
  have hG : ∀ w ∈ aw_G, w.before _ s = true := fun w h => atoms_spec (ws := ws_Tk_doubledV) B.pre w (List.mem_cons_of_mem _ h)
  have hown : s.vm.findClass "RuleCiphers$Taken" = some m.cls := findClass_of_methodNamed B.named
  have hlocks := B.notSynchronized
  have hl := lv_entry ([.long a0] : List Value) (n := 2) (Nat.le_of_ble_eq_true rfl)
  rw [lg_entry_eq]
  generalize (lg_sl ([.long a0] : List Value) ++ List.replicate (2 - (lg_sl ([.long a0] : List Value)).length) Slot.unset).toArray = ls at hl ⊢
  have hl : lv_has ls 2 [(0, .long a0)] := hl
  refine lv_lload_n hx hb d_Tk_doubled_0 rfl (lv_at hl 0 rfl) ?_
  refine lv_lconst (v := 0) hx hb d_Tk_doubled_1 (by decide +kernel) ?_
  refine W.lcmp hx hb d_Tk_doubled_2 ?_
  refine ag_topi (fun x1 ex1 => ?_)
  refine lv_if_ge (tgt := 16) hx hb d_Tk_doubled_3 (by decide) (fun hb2 => ?_) (fun hb2 => ?_)
  · refine lv_lload_n hx hb d_Tk_doubled_16 rfl (lv_at hl 0 rfl) ?_
    refine lv_iconst (v := nI 1) hx hb d_Tk_doubled_17 (by decide +kernel) ?_
    refine lv_lshl hx hb d_Tk_doubled_18 rfl ?_
    refine ag_topl (fun y3 ey3 => ?_)
    exact W.lret hx hb hr (fun t ht hW => ⟨_, (by subst ey3 ex1; unfold v_Tk_doubledV; rw [if_pos hb2]), rfl, ht⟩) (fun q h => nomatch h) d_Tk_doubled_19
  · refine lv_lload_n hx hb d_Tk_doubled_6 rfl (lv_at hl 0 rfl) ?_
    refine lv_iconst (v := nI 1) hx hb d_Tk_doubled_7 (by decide +kernel) ?_
    refine lv_lshl hx hb d_Tk_doubled_8 rfl ?_
    refine ag_topl (fun y4 ey4 => ?_)
    refine lv_ldc2 (v := 27) hx hb hown (hG _ gw_9_18) d_Tk_doubled_9 ?_
    refine lv_lxor hx hb d_Tk_doubled_12 ?_
    refine ag_topl (fun y5 ey5 => ?_)
    refine lv_goto (tgt := 19) hx hb d_Tk_doubled_13 (by decide) ?_
    exact W.lret hx hb hr (fun t ht hW => ⟨_, (by subst ey5 ey4 ex1; unfold v_Tk_doubledV; rw [if_neg hb2]), rfl, ht⟩) (fun q h => nomatch h) d_Tk_doubled_19
noncomputable def v_Mo_turnV (a0 : Int32) (a1 : Int32) : Int32 := (if (a1 &&& (nI 31)) = 0 then a0 else ((jI_shl a0 (a1 &&& (nI 31))) ||| (jI_ushr a0 ((nI 32) - (a1 &&& (nI 31))))))
abbrev ws_Mo_turnV : List Cond := Cond.code y_Mo_turn b_Mo_turn 3 (some .int) :: aw_G
abbrev rm_Mo_turnV : Room := { frames := 0, cells := 0, slots := 0, locals := 0 }
set_option maxHeartbeats 4000000 in
set_option maxRecDepth 100000 in
theorem k_Mo_turnV (l : Launch) (a0 : Int32) (a1 : Int32) : Met l y_Mo_turn ws_Mo_turnV rm_Mo_turnV (va_Pc ([.int a0, .int a1] : List Value) (fun _ => True)) (aw_RI (fun r => r = v_Mo_turnV a0 a1)) 0 0 (fun _ => False) := by
  refine Met.ofW (cc := b_Mo_turn) (maxL := 3) (ret := (some .int)) (by decide) rfl ?_
  intro p e s m args below meth c s₁ B hml hv
  obtain ⟨rfl, -⟩ := hv
  have hx := B.exec
  have hb := B.bytes
  have hr := B.returns
  have hG : ∀ w ∈ aw_G, w.before _ s = true := fun w h => atoms_spec (ws := ws_Mo_turnV) B.pre w (List.mem_cons_of_mem _ h)
  have hown : s.vm.findClass "RuleCiphersModel" = some m.cls := findClass_of_methodNamed B.named
  have hlocks := B.notSynchronized
  have hl := lv_entry ([.int a0, .int a1] : List Value) (n := 3) (Nat.le_of_ble_eq_true rfl)
  rw [lg_entry_eq]
  generalize (lg_sl ([.int a0, .int a1] : List Value) ++ List.replicate (3 - (lg_sl ([.int a0, .int a1] : List Value)).length) Slot.unset).toArray = ls at hl ⊢
  have hl : lv_has ls 3 [(0, .int a0), (1, .int a1)] := hl
  refine lv_iload_n hx hb d_Mo_turn_0 rfl (lv_at hl 1 rfl) ?_
  refine lv_bipush (v := nI 31) hx hb d_Mo_turn_1 (by decide +kernel) ?_
  refine lv_iand hx hb d_Mo_turn_3 ?_
  refine ag_topi (fun x1 ex1 => ?_)
  refine lv_istore_n hx hb d_Mo_turn_4 rfl hl (by decide) rfl (fun ls hl => ?_)
  have hl : lv_has ls 3 [(2, .int x1), (0, .int a0), (1, .int a1)] := hl
  refine lv_iload_n hx hb d_Mo_turn_5 rfl (lv_at hl 0 rfl) ?_
  refine lv_if_ne (tgt := 13) hx hb d_Mo_turn_6 (by decide) (fun hb2 => ?_) (fun hb2 => ?_)
  · refine lv_iload_n hx hb d_Mo_turn_13 rfl (lv_at hl 1 rfl) ?_
    refine lv_iload_n hx hb d_Mo_turn_14 rfl (lv_at hl 0 rfl) ?_
    refine lv_ishl hx hb d_Mo_turn_15 ?_
    refine ag_topi (fun x3 ex3 => ?_)
    refine lv_iload_n hx hb d_Mo_turn_16 rfl (lv_at hl 1 rfl) ?_
    refine lv_bipush (v := nI 32) hx hb d_Mo_turn_17 (by decide +kernel) ?_
    refine lv_iload_n hx hb d_Mo_turn_19 rfl (lv_at hl 0 rfl) ?_
    refine lv_isub hx hb d_Mo_turn_20 ?_
    refine ag_topi (fun x4 ex4 => ?_)
    refine lv_iushr hx hb d_Mo_turn_21 rfl ?_
    refine ag_topi (fun x5 ex5 => ?_)
    refine lv_ior hx hb d_Mo_turn_22 ?_
    refine ag_topi (fun x6 ex6 => ?_)
    exact W.iret hx hb hr (fun t ht hW => ⟨_, (by subst ex6 ex5 ex4 ex3 ex1; unfold v_Mo_turnV; rw [if_neg hb2]), rfl, ht⟩) (fun q h => nomatch h) d_Mo_turn_23
  · refine lv_iload_n hx hb d_Mo_turn_9 rfl (lv_at hl 1 rfl) ?_
    refine lv_goto (tgt := 23) hx hb d_Mo_turn_10 (by decide) ?_
    exact W.iret hx hb hr (fun t ht hW => ⟨_, (by subst ex1; unfold v_Mo_turnV; rw [if_pos hb2]), rfl, ht⟩) (fun q h => nomatch h) d_Mo_turn_23
noncomputable def v_Mo_backV (a0 : Int32) (a1 : Int32) : Int32 := v_Mo_turnV a0 ((nI 32) - (a1 &&& (nI 31)))
abbrev ws_Mo_backV : List Cond := Cond.code y_Mo_back b_Mo_back 2 (some .int) :: aw_G
abbrev rm_Mo_backV : Room := { frames := 1, cells := 0, slots := 0, locals := 22 }
set_option maxHeartbeats 4000000 in
set_option maxRecDepth 100000 in
theorem k_Mo_backV (l : Launch) (a0 : Int32) (a1 : Int32) : Met l y_Mo_back ws_Mo_backV rm_Mo_backV (va_Pc ([.int a0, .int a1] : List Value) (fun _ => True)) (aw_RI (fun r => r = v_Mo_backV a0 a1)) 0 0 (fun _ => False) := by
  refine Met.ofW (cc := b_Mo_back) (maxL := 2) (ret := (some .int)) (by decide) rfl ?_
  intro p e s m args below meth c s₁ B hml hv
  obtain ⟨rfl, -⟩ := hv
  have hx := B.exec
  have hb := B.bytes
  have hr := B.returns
  have hG : ∀ w ∈ aw_G, w.before _ s = true := fun w h => atoms_spec (ws := ws_Mo_backV) B.pre w (List.mem_cons_of_mem _ h)
  have hown : s.vm.findClass "RuleCiphersModel" = some m.cls := findClass_of_methodNamed B.named
  have hlocks := B.notSynchronized
  have hl := lv_entry ([.int a0, .int a1] : List Value) (n := 2) (Nat.le_of_ble_eq_true rfl)
  rw [lg_entry_eq]
  generalize (lg_sl ([.int a0, .int a1] : List Value) ++ List.replicate (2 - (lg_sl ([.int a0, .int a1] : List Value)).length) Slot.unset).toArray = ls at hl ⊢
  have hl : lv_has ls 2 [(0, .int a0), (1, .int a1)] := hl
  refine lv_iload_n hx hb d_Mo_back_0 rfl (lv_at hl 0 rfl) ?_
  refine lv_bipush (v := nI 32) hx hb d_Mo_back_1 (by decide +kernel) ?_
  refine lv_iload_n hx hb d_Mo_back_3 rfl (lv_at hl 1 rfl) ?_
  refine lv_bipush (v := nI 31) hx hb d_Mo_back_4 (by decide +kernel) ?_
  refine lv_iand hx hb d_Mo_back_6 ?_
  refine ag_topi (fun x1 ex1 => ?_)
  refine lv_isub hx hb d_Mo_back_7 ?_
  refine ag_topi (fun x2 ex2 => ?_)
  refine aw_ci ((va_runS (As := [.int a0, .int x2]) (rest := []) ⟨hx, hb, hml, hown, hG⟩ (k_Mo_turnV l a0 x2) (aw_wS 2 hG gw_11_24 gw_11_22 gw_0_10 gw_11_23 rfl rfl hd_Mo_turn ⟨Nat.le_of_ble_eq_true rfl, Nat.le_of_ble_eq_true rfl⟩) aw_p0 rfl rfl hl.1 rfl (lv_room (Nat.le_of_ble_eq_true rfl)) d_Mo_back_8 ⟨Nat.le_of_ble_eq_true rfl, Nat.le_of_ble_eq_true rfl⟩).run) (fun x3 ex3 => ?_)
  have ex3 := ex3.symm
  exact W.iret hx hb hr (fun t ht hW => ⟨_, (by subst ex3 ex2 ex1; rfl), rfl, ht⟩) (fun q h => nomatch h) d_Mo_back_11
noncomputable def v_Mo_swappedV (a0 : Int32) : Int32 := ((((jI_shl a0 (nI 24)) ||| (jI_shl (a0 &&& 65280) (nI 8))) ||| ((jI_ushr a0 (nI 8)) &&& 65280)) ||| (jI_ushr a0 (nI 24)))
abbrev ws_Mo_swappedV : List Cond := Cond.code y_Mo_swapped b_Mo_swapped 1 (some .int) :: aw_G
abbrev rm_Mo_swappedV : Room := { frames := 0, cells := 0, slots := 0, locals := 0 }
set_option maxHeartbeats 4000000 in
set_option maxRecDepth 100000 in
theorem k_Mo_swappedV (l : Launch) (a0 : Int32) : Met l y_Mo_swapped ws_Mo_swappedV rm_Mo_swappedV (va_Pc ([.int a0] : List Value) (fun _ => True)) (aw_RI (fun r => r = v_Mo_swappedV a0)) 0 0 (fun _ => False) := by
  refine Met.ofW (cc := b_Mo_swapped) (maxL := 1) (ret := (some .int)) (by decide) rfl ?_
  intro p e s m args below meth c s₁ B hml hv
  obtain ⟨rfl, -⟩ := hv
  have hx := B.exec
  have hb := B.bytes
  have hr := B.returns
  have hG : ∀ w ∈ aw_G, w.before _ s = true := fun w h => atoms_spec (ws := ws_Mo_swappedV) B.pre w (List.mem_cons_of_mem _ h)
  have hown : s.vm.findClass "RuleCiphersModel" = some m.cls := findClass_of_methodNamed B.named
  have hlocks := B.notSynchronized
  have hl := lv_entry ([.int a0] : List Value) (n := 1) (Nat.le_of_ble_eq_true rfl)
  rw [lg_entry_eq]
  generalize (lg_sl ([.int a0] : List Value) ++ List.replicate (1 - (lg_sl ([.int a0] : List Value)).length) Slot.unset).toArray = ls at hl ⊢
  have hl : lv_has ls 1 [(0, .int a0)] := hl
  refine lv_iload_n hx hb d_Mo_swapped_0 rfl (lv_at hl 0 rfl) ?_
  refine lv_bipush (v := nI 24) hx hb d_Mo_swapped_1 (by decide +kernel) ?_
  refine lv_ishl hx hb d_Mo_swapped_3 ?_
  refine ag_topi (fun x1 ex1 => ?_)
  refine lv_iload_n hx hb d_Mo_swapped_4 rfl (lv_at hl 0 rfl) ?_
  refine lv_ldc (v := 65280) hx hb hown (hG _ gw_11_21) d_Mo_swapped_5 ?_
  refine lv_iand hx hb d_Mo_swapped_7 ?_
  refine ag_topi (fun x2 ex2 => ?_)
  refine lv_bipush (v := nI 8) hx hb d_Mo_swapped_8 (by decide +kernel) ?_
  refine lv_ishl hx hb d_Mo_swapped_10 ?_
  refine ag_topi (fun x3 ex3 => ?_)
  refine lv_ior hx hb d_Mo_swapped_11 ?_
  refine ag_topi (fun x4 ex4 => ?_)
  refine lv_iload_n hx hb d_Mo_swapped_12 rfl (lv_at hl 0 rfl) ?_
  refine lv_bipush (v := nI 8) hx hb d_Mo_swapped_13 (by decide +kernel) ?_
  refine lv_iushr hx hb d_Mo_swapped_15 rfl ?_
  refine ag_topi (fun x5 ex5 => ?_)
  refine lv_ldc (v := 65280) hx hb hown (hG _ gw_11_21) d_Mo_swapped_16 ?_
  refine lv_iand hx hb d_Mo_swapped_18 ?_
  refine ag_topi (fun x6 ex6 => ?_)
  refine lv_ior hx hb d_Mo_swapped_19 ?_
  refine ag_topi (fun x7 ex7 => ?_)
  refine lv_iload_n hx hb d_Mo_swapped_20 rfl (lv_at hl 0 rfl) ?_
  refine lv_bipush (v := nI 24) hx hb d_Mo_swapped_21 (by decide +kernel) ?_
  refine lv_iushr hx hb d_Mo_swapped_23 rfl ?_
  refine ag_topi (fun x8 ex8 => ?_)
  refine lv_ior hx hb d_Mo_swapped_24 ?_
  refine ag_topi (fun x9 ex9 => ?_)
  exact W.iret hx hb hr (fun t ht hW => ⟨_, (by subst ex9 ex8 ex7 ex6 ex5 ex4 ex3 ex2 ex1; rfl), rfl, ht⟩) (fun q h => nomatch h) d_Mo_swapped_25
noncomputable def v_Mo_joinedV (a0 : Int32) (a1 : Int32) : Int64 := ((jL_shl (Int32.toInt64 a0) (nI 32)) ||| ((Int32.toInt64 a1) &&& 4294967295))
abbrev ws_Mo_joinedV : List Cond := Cond.code y_Mo_joined b_Mo_joined 2 (some .long) :: aw_G
abbrev rm_Mo_joinedV : Room := { frames := 0, cells := 0, slots := 0, locals := 0 }
set_option maxHeartbeats 4000000 in
set_option maxRecDepth 100000 in
theorem k_Mo_joinedV (l : Launch) (a0 : Int32) (a1 : Int32) : Met l y_Mo_joined ws_Mo_joinedV rm_Mo_joinedV (va_Pc ([.int a0, .int a1] : List Value) (fun _ => True)) (aw_RL (fun r => r = v_Mo_joinedV a0 a1)) 0 0 (fun _ => False) := by
  refine Met.ofW (cc := b_Mo_joined) (maxL := 2) (ret := (some .long)) (by decide) rfl ?_
  intro p e s m args below meth c s₁ B hml hv
  obtain ⟨rfl, -⟩ := hv
  have hx := B.exec
  have hb := B.bytes
  have hr := B.returns
  have hG : ∀ w ∈ aw_G, w.before _ s = true := fun w h => atoms_spec (ws := ws_Mo_joinedV) B.pre w (List.mem_cons_of_mem _ h)
  have hown : s.vm.findClass "RuleCiphersModel" = some m.cls := findClass_of_methodNamed B.named
  have hlocks := B.notSynchronized
  have hl := lv_entry ([.int a0, .int a1] : List Value) (n := 2) (Nat.le_of_ble_eq_true rfl)
  rw [lg_entry_eq]
  generalize (lg_sl ([.int a0, .int a1] : List Value) ++ List.replicate (2 - (lg_sl ([.int a0, .int a1] : List Value)).length) Slot.unset).toArray = ls at hl ⊢
  have hl : lv_has ls 2 [(0, .int a0), (1, .int a1)] := hl
  refine lv_iload_n hx hb d_Mo_joined_0 rfl (lv_at hl 0 rfl) ?_
  refine lv_i2l hx hb d_Mo_joined_1 rfl ?_
  refine ag_topl (fun y1 ey1 => ?_)
  refine lv_bipush (v := nI 32) hx hb d_Mo_joined_2 (by decide +kernel) ?_
  refine lv_lshl hx hb d_Mo_joined_4 rfl ?_
  refine ag_topl (fun y2 ey2 => ?_)
  refine lv_iload_n hx hb d_Mo_joined_5 rfl (lv_at hl 1 rfl) ?_
  refine lv_i2l hx hb d_Mo_joined_6 rfl ?_
  refine ag_topl (fun y3 ey3 => ?_)
  refine lv_ldc2 (v := 4294967295) hx hb hown (hG _ gw_11_44) d_Mo_joined_7 ?_
  refine lv_land hx hb d_Mo_joined_10 ?_
  refine ag_topl (fun y4 ey4 => ?_)
  refine lv_lor hx hb d_Mo_joined_11 ?_
  refine ag_topl (fun y5 ey5 => ?_)
  exact W.lret hx hb hr (fun t ht hW => ⟨_, (by subst ey5 ey4 ey3 ey2 ey1; rfl), rfl, ht⟩) (fun q h => nomatch h) d_Mo_joined_12
noncomputable def v_Mo_upperV (a0 : Int64) : Int32 := (Int64.toInt32 (jL_ushr a0 (nI 32)))
abbrev ws_Mo_upperV : List Cond := Cond.code y_Mo_upper b_Mo_upper 2 (some .int) :: aw_G
abbrev rm_Mo_upperV : Room := { frames := 0, cells := 0, slots := 0, locals := 0 }
set_option maxHeartbeats 4000000 in
set_option maxRecDepth 100000 in
theorem k_Mo_upperV (l : Launch) (a0 : Int64) : Met l y_Mo_upper ws_Mo_upperV rm_Mo_upperV (va_Pc ([.long a0] : List Value) (fun _ => True)) (aw_RI (fun r => r = v_Mo_upperV a0)) 0 0 (fun _ => False) := by
  refine Met.ofW (cc := b_Mo_upper) (maxL := 2) (ret := (some .int)) (by decide) rfl ?_
  intro p e s m args below meth c s₁ B hml hv
  obtain ⟨rfl, -⟩ := hv
  have hx := B.exec
  have hb := B.bytes
  have hr := B.returns
  have hG : ∀ w ∈ aw_G, w.before _ s = true := fun w h => atoms_spec (ws := ws_Mo_upperV) B.pre w (List.mem_cons_of_mem _ h)
  have hown : s.vm.findClass "RuleCiphersModel" = some m.cls := findClass_of_methodNamed B.named
  have hlocks := B.notSynchronized
  have hl := lv_entry ([.long a0] : List Value) (n := 2) (Nat.le_of_ble_eq_true rfl)
  rw [lg_entry_eq]
  generalize (lg_sl ([.long a0] : List Value) ++ List.replicate (2 - (lg_sl ([.long a0] : List Value)).length) Slot.unset).toArray = ls at hl ⊢
  have hl : lv_has ls 2 [(0, .long a0)] := hl
  refine lv_lload_n hx hb d_Mo_upper_0 rfl (lv_at hl 0 rfl) ?_
  refine lv_bipush (v := nI 32) hx hb d_Mo_upper_1 (by decide +kernel) ?_
  refine lv_lushr hx hb d_Mo_upper_3 rfl ?_
  refine ag_topl (fun y1 ey1 => ?_)
  refine lv_l2i hx hb d_Mo_upper_4 rfl ?_
  refine ag_topi (fun x2 ex2 => ?_)
  exact W.iret hx hb hr (fun t ht hW => ⟨_, (by subst ex2 ey1; rfl), rfl, ht⟩) (fun q h => nomatch h) d_Mo_upper_5
noncomputable def v_Mo_timesV (a0 : Int32) (a1 : Int32) : Int32 := (if a0 = 0 then (if a1 = 0 then ((Int64.toInt32 ((65536 * 65536) - (65536 * 65536) / 65537 * 65537)) &&& 65535) else ((Int64.toInt32 ((65536 * (Int32.toInt64 a1)) - (65536 * (Int32.toInt64 a1)) / 65537 * 65537)) &&& 65535)) else (if a1 = 0 then ((Int64.toInt32 (((Int32.toInt64 a0) * 65536) - ((Int32.toInt64 a0) * 65536) / 65537 * 65537)) &&& 65535) else ((Int64.toInt32 (((Int32.toInt64 a0) * (Int32.toInt64 a1)) - ((Int32.toInt64 a0) * (Int32.toInt64 a1)) / 65537 * 65537)) &&& 65535)))
abbrev ws_Mo_timesV : List Cond := Cond.code y_Mo_times b_Mo_times 6 (some .int) :: aw_G
abbrev rm_Mo_timesV : Room := { frames := 0, cells := 0, slots := 0, locals := 0 }
set_option maxHeartbeats 4000000 in
set_option maxRecDepth 100000 in
theorem k_Mo_timesV (l : Launch) (a0 : Int32) (a1 : Int32) : Met l y_Mo_times ws_Mo_timesV rm_Mo_timesV (va_Pc ([.int a0, .int a1] : List Value) (fun _ => True)) (aw_RI (fun r => r = v_Mo_timesV a0 a1)) 0 0 (fun _ => False) := by
  refine Met.ofW (cc := b_Mo_times) (maxL := 6) (ret := (some .int)) (by decide) rfl ?_
  intro p e s m args below meth c s₁ B hml hv
  obtain ⟨rfl, -⟩ := hv
  have hx := B.exec
  have hb := B.bytes
  have hr := B.returns
  have hG : ∀ w ∈ aw_G, w.before _ s = true := fun w h => atoms_spec (ws := ws_Mo_timesV) B.pre w (List.mem_cons_of_mem _ h)
  have hown : s.vm.findClass "RuleCiphersModel" = some m.cls := findClass_of_methodNamed B.named
  have hlocks := B.notSynchronized
  have hl := lv_entry ([.int a0, .int a1] : List Value) (n := 6) (Nat.le_of_ble_eq_true rfl)
  rw [lg_entry_eq]
  generalize (lg_sl ([.int a0, .int a1] : List Value) ++ List.replicate (6 - (lg_sl ([.int a0, .int a1] : List Value)).length) Slot.unset).toArray = ls at hl ⊢
  have hl : lv_has ls 6 [(0, .int a0), (1, .int a1)] := hl
  refine lv_iload_n hx hb d_Mo_times_0 rfl (lv_at hl 0 rfl) ?_
  refine lv_if_ne (tgt := 10) hx hb d_Mo_times_1 (by decide) (fun hb1 => ?_) (fun hb1 => ?_)
  · refine lv_iload_n hx hb d_Mo_times_10 rfl (lv_at hl 0 rfl) ?_
    refine lv_i2l hx hb d_Mo_times_11 rfl ?_
    refine ag_topl (fun y2 ey2 => ?_)
    refine lv_lstore_n hx hb d_Mo_times_12 rfl hl (by decide) rfl (fun ls hl => ?_)
    have hl : lv_has ls 6 [(2, .long y2), (0, .int a0), (1, .int a1)] := hl
    refine lv_iload_n hx hb d_Mo_times_13 rfl (lv_at hl 2 rfl) ?_
    refine lv_if_ne (tgt := 23) hx hb d_Mo_times_14 (by decide) (fun hb3 => ?_) (fun hb3 => ?_)
    · refine lv_iload_n hx hb d_Mo_times_23 rfl (lv_at hl 2 rfl) ?_
      refine lv_i2l hx hb d_Mo_times_24 rfl ?_
      refine ag_topl (fun y4 ey4 => ?_)
      refine lv_lstore hx hb d_Mo_times_25 hl (by decide) rfl (fun ls hl => ?_)
      have hl : lv_has ls 6 [(4, .long y4), (2, .long y2), (0, .int a0), (1, .int a1)] := hl
      refine lv_lload_n hx hb d_Mo_times_27 rfl (lv_at hl 1 rfl) ?_
      refine lv_lload hx hb d_Mo_times_28 (lv_at hl 0 rfl) ?_
      refine lv_lmul hx hb d_Mo_times_30 ?_
      refine ag_topl (fun y5 ey5 => ?_)
      refine lv_ldc2 (v := 65537) hx hb hown (hG _ gw_11_58) d_Mo_times_31 ?_
      refine lv_lrem hx hb d_Mo_times_34 (by decide +kernel) ?_
      refine ag_topl (fun y6 ey6 => ?_)
      refine lv_l2i hx hb d_Mo_times_35 rfl ?_
      refine ag_topi (fun x7 ex7 => ?_)
      refine lv_ldc (v := 65535) hx hb hown (hG _ gw_11_36) d_Mo_times_36 ?_
      refine lv_iand hx hb d_Mo_times_38 ?_
      refine ag_topi (fun x8 ex8 => ?_)
      exact W.iret hx hb hr (fun t ht hW => ⟨_, (by subst ex8 ex7 ey6 ey5 ey4 ey2; unfold v_Mo_timesV; rw [if_neg hb1, if_neg hb3]), rfl, ht⟩) (fun q h => nomatch h) d_Mo_times_39
    · refine lv_ldc2 (v := 65536) hx hb hown (hG _ gw_11_57) d_Mo_times_17 ?_
      refine lv_goto (tgt := 25) hx hb d_Mo_times_20 (by decide) ?_
      refine lv_lstore hx hb d_Mo_times_25 hl (by decide) rfl (fun ls hl => ?_)
      have hl : lv_has ls 6 [(4, .long 65536), (2, .long y2), (0, .int a0), (1, .int a1)] := hl
      refine lv_lload_n hx hb d_Mo_times_27 rfl (lv_at hl 1 rfl) ?_
      refine lv_lload hx hb d_Mo_times_28 (lv_at hl 0 rfl) ?_
      refine lv_lmul hx hb d_Mo_times_30 ?_
      refine ag_topl (fun y9 ey9 => ?_)
      refine lv_ldc2 (v := 65537) hx hb hown (hG _ gw_11_58) d_Mo_times_31 ?_
      refine lv_lrem hx hb d_Mo_times_34 (by decide +kernel) ?_
      refine ag_topl (fun y10 ey10 => ?_)
      refine lv_l2i hx hb d_Mo_times_35 rfl ?_
      refine ag_topi (fun x11 ex11 => ?_)
      refine lv_ldc (v := 65535) hx hb hown (hG _ gw_11_36) d_Mo_times_36 ?_
      refine lv_iand hx hb d_Mo_times_38 ?_
      refine ag_topi (fun x12 ex12 => ?_)
      exact W.iret hx hb hr (fun t ht hW => ⟨_, (by subst ex12 ex11 ey10 ey9 ey2; unfold v_Mo_timesV; rw [if_neg hb1, if_pos hb3]), rfl, ht⟩) (fun q h => nomatch h) d_Mo_times_39
  · refine lv_ldc2 (v := 65536) hx hb hown (hG _ gw_11_57) d_Mo_times_4 ?_
    refine lv_goto (tgt := 12) hx hb d_Mo_times_7 (by decide) ?_
    refine lv_lstore_n hx hb d_Mo_times_12 rfl hl (by decide) rfl (fun ls hl => ?_)
    have hl : lv_has ls 6 [(2, .long 65536), (0, .int a0), (1, .int a1)] := hl
    refine lv_iload_n hx hb d_Mo_times_13 rfl (lv_at hl 2 rfl) ?_
    refine lv_if_ne (tgt := 23) hx hb d_Mo_times_14 (by decide) (fun hb13 => ?_) (fun hb13 => ?_)
    · refine lv_iload_n hx hb d_Mo_times_23 rfl (lv_at hl 2 rfl) ?_
      refine lv_i2l hx hb d_Mo_times_24 rfl ?_
      refine ag_topl (fun y14 ey14 => ?_)
      refine lv_lstore hx hb d_Mo_times_25 hl (by decide) rfl (fun ls hl => ?_)
      have hl : lv_has ls 6 [(4, .long y14), (2, .long 65536), (0, .int a0), (1, .int a1)] := hl
      refine lv_lload_n hx hb d_Mo_times_27 rfl (lv_at hl 1 rfl) ?_
      refine lv_lload hx hb d_Mo_times_28 (lv_at hl 0 rfl) ?_
      refine lv_lmul hx hb d_Mo_times_30 ?_
      refine ag_topl (fun y15 ey15 => ?_)
      refine lv_ldc2 (v := 65537) hx hb hown (hG _ gw_11_58) d_Mo_times_31 ?_
      refine lv_lrem hx hb d_Mo_times_34 (by decide +kernel) ?_
      refine ag_topl (fun y16 ey16 => ?_)
      refine lv_l2i hx hb d_Mo_times_35 rfl ?_
      refine ag_topi (fun x17 ex17 => ?_)
      refine lv_ldc (v := 65535) hx hb hown (hG _ gw_11_36) d_Mo_times_36 ?_
      refine lv_iand hx hb d_Mo_times_38 ?_
      refine ag_topi (fun x18 ex18 => ?_)
      exact W.iret hx hb hr (fun t ht hW => ⟨_, (by subst ex18 ex17 ey16 ey15 ey14; unfold v_Mo_timesV; rw [if_pos hb1, if_neg hb13]), rfl, ht⟩) (fun q h => nomatch h) d_Mo_times_39
    · refine lv_ldc2 (v := 65536) hx hb hown (hG _ gw_11_57) d_Mo_times_17 ?_
      refine lv_goto (tgt := 25) hx hb d_Mo_times_20 (by decide) ?_
      refine lv_lstore hx hb d_Mo_times_25 hl (by decide) rfl (fun ls hl => ?_)
      have hl : lv_has ls 6 [(4, .long 65536), (2, .long 65536), (0, .int a0), (1, .int a1)] := hl
      refine lv_lload_n hx hb d_Mo_times_27 rfl (lv_at hl 1 rfl) ?_
      refine lv_lload hx hb d_Mo_times_28 (lv_at hl 0 rfl) ?_
      refine lv_lmul hx hb d_Mo_times_30 ?_
      refine ag_topl (fun y19 ey19 => ?_)
      refine lv_ldc2 (v := 65537) hx hb hown (hG _ gw_11_58) d_Mo_times_31 ?_
      refine lv_lrem hx hb d_Mo_times_34 (by decide +kernel) ?_
      refine ag_topl (fun y20 ey20 => ?_)
      refine lv_l2i hx hb d_Mo_times_35 rfl ?_
      refine ag_topi (fun x21 ex21 => ?_)
      refine lv_ldc (v := 65535) hx hb hown (hG _ gw_11_36) d_Mo_times_36 ?_
      refine lv_iand hx hb d_Mo_times_38 ?_
      refine ag_topi (fun x22 ex22 => ?_)
      exact W.iret hx hb hr (fun t ht hW => ⟨_, (by subst ex22 ex21 ey20 ey19; unfold v_Mo_timesV; rw [if_pos hb1, if_pos hb13]), rfl, ht⟩) (fun q h => nomatch h) d_Mo_times_39
noncomputable def v_Mo_inverseV_L4 (a0 : Int32) (t : Nat) : Int32 := Nat.rec (motive := fun _ => Int32) (nI 1) (fun t s => v_Mo_timesV (v_Mo_timesV (s) (s)) a0) t
noncomputable def v_Mo_inverseV (a0 : Int32) : Int32 := (v_Mo_inverseV_L4 a0 16)
abbrev ws_Mo_inverseV : List Cond := Cond.code y_Mo_inverse b_Mo_inverse 3 (some .int) :: aw_G
abbrev rm_Mo_inverseV : Room := { frames := 1, cells := 0, slots := 0, locals := 25 }
set_option maxHeartbeats 4000000 in
set_option maxRecDepth 100000 in
theorem k_Mo_inverseV (l : Launch) (a0 : Int32) : Met l y_Mo_inverse ws_Mo_inverseV rm_Mo_inverseV (va_Pc ([.int a0] : List Value) (fun _ => True)) (aw_RI (fun r => r = v_Mo_inverseV a0)) 0 0 (fun _ => False) := by
  refine Met.ofW (cc := b_Mo_inverse) (maxL := 3) (ret := (some .int)) (by decide) rfl ?_
  intro p e s m args below meth c s₁ B hml hv
  obtain ⟨rfl, -⟩ := hv
  have hx := B.exec
  have hb := B.bytes
  have hr := B.returns
  have hG : ∀ w ∈ aw_G, w.before _ s = true := fun w h => atoms_spec (ws := ws_Mo_inverseV) B.pre w (List.mem_cons_of_mem _ h)
  have hown : s.vm.findClass "RuleCiphersModel" = some m.cls := findClass_of_methodNamed B.named
  have hlocks := B.notSynchronized
  have hl := lv_entry ([.int a0] : List Value) (n := 3) (Nat.le_of_ble_eq_true rfl)
  rw [lg_entry_eq]
  generalize (lg_sl ([.int a0] : List Value) ++ List.replicate (3 - (lg_sl ([.int a0] : List Value)).length) Slot.unset).toArray = ls at hl ⊢
  have hl : lv_has ls 3 [(0, .int a0)] := hl
  refine lv_iconst (v := nI 1) hx hb d_Mo_inverse_0 (by decide +kernel) ?_
  refine lv_istore_n hx hb d_Mo_inverse_1 rfl hl (by decide) rfl (fun ls hl => ?_)
  have hl : lv_has ls 3 [(1, .int (nI 1)), (0, .int a0)] := hl
  refine lv_iconst (v := nI 0) hx hb d_Mo_inverse_2 (by decide +kernel) ?_
  refine lv_istore_n hx hb d_Mo_inverse_3 rfl hl (by decide) rfl (fun ls hl => ?_)
  have hl : lv_has ls 3 [(2, .int (nI 0)), (1, .int (nI 1)), (0, .int a0)] := hl
  have L4 : ∀ (d t : Nat) (ls : Array Slot), t + d = 16 → lv_has ls 3 [(0, .int a0), (1, .int ((v_Mo_inverseV_L4 a0 t))), (2, .int (nI t))] → W p l e (headSpec ws_Mo_inverseV rm_Mo_inverseV).room s m ([.int a0] : List Value).toArray below meth c s.heap [] 0 0 (MQ below (aw_RI (fun r => r = v_Mo_inverseV a0)) ([.int a0] : List Value).toArray s 0 0 (fun _ => False)) (F0 m 4 ls []) := by
    clear hl
    intro d
    induction d with
    | zero =>
      intro t ls ht0 hl
      have ht1 : t = 16 := by omega
      subst ht1
      refine lv_iload_n hx hb d_Mo_inverse_4 rfl (lv_at hl 2 rfl) ?_
      refine lv_bipush (v := nI 16) hx hb d_Mo_inverse_5 (by decide +kernel) ?_
      refine lv_icmp_ge (tgt := 26) hx hb d_Mo_inverse_7 (by decide) (fun _ => ?_) (fun h => absurd (show nI 16 ≤ nI 16 from (nI_leI (by omega) (by omega)).mpr (by omega)) h)
      refine lv_iload_n hx hb d_Mo_inverse_26 rfl (lv_at hl 1 rfl) ?_
      exact W.iret hx hb hr (fun t ht hW => ⟨_, rfl, rfl, ht⟩) (fun q h => nomatch h) d_Mo_inverse_27
    | succ d ih =>
      intro t ls ht0 hl
      refine lv_iload_n hx hb d_Mo_inverse_4 rfl (lv_at hl 2 rfl) ?_
      refine lv_bipush (v := nI 16) hx hb d_Mo_inverse_5 (by decide +kernel) ?_
      refine lv_icmp_ge (tgt := 26) hx hb d_Mo_inverse_7 (by decide) (fun h => absurd h (show ¬ nI 16 ≤ nI t from fun h9 => absurd ((nI_leI (by omega) (by omega)).mp h9) (by omega))) (fun _ => ?_)
      refine lv_iload_n hx hb d_Mo_inverse_10 rfl (lv_at hl 1 rfl) ?_
      refine lv_iload_n hx hb d_Mo_inverse_11 rfl (lv_at hl 1 rfl) ?_
      refine aw_ci ((va_runS (As := [.int ((v_Mo_inverseV_L4 a0 t)), .int ((v_Mo_inverseV_L4 a0 t))]) (rest := []) ⟨hx, hb, hml, hown, hG⟩ (k_Mo_timesV l ((v_Mo_inverseV_L4 a0 t)) ((v_Mo_inverseV_L4 a0 t))) (aw_wS 2 hG gw_11_56 gw_11_54 gw_0_10 gw_11_55 rfl rfl hd_Mo_times ⟨Nat.le_of_ble_eq_true rfl, Nat.le_of_ble_eq_true rfl⟩) aw_p0 rfl rfl hl.1 rfl (lv_room (Nat.le_of_ble_eq_true rfl)) d_Mo_inverse_12 ⟨Nat.le_of_ble_eq_true rfl, Nat.le_of_ble_eq_true rfl⟩).run) (fun x1 ex1 => ?_)
      have ex1 := ex1.symm
      refine lv_iload_n hx hb d_Mo_inverse_15 rfl (lv_at hl 0 rfl) ?_
      refine aw_ci ((va_runS (As := [.int x1, .int a0]) (rest := []) ⟨hx, hb, hml, hown, hG⟩ (k_Mo_timesV l x1 a0) (aw_wS 2 hG gw_11_56 gw_11_54 gw_0_10 gw_11_55 rfl rfl hd_Mo_times ⟨Nat.le_of_ble_eq_true rfl, Nat.le_of_ble_eq_true rfl⟩) aw_p0 rfl rfl hl.1 rfl (lv_room (Nat.le_of_ble_eq_true rfl)) d_Mo_inverse_16 ⟨Nat.le_of_ble_eq_true rfl, Nat.le_of_ble_eq_true rfl⟩).run) (fun x2 ex2 => ?_)
      have ex2 := ex2.symm
      refine lv_istore_n hx hb d_Mo_inverse_19 rfl hl (by decide) rfl (fun ls hl => ?_)
      have hl : lv_has ls 3 [(1, .int x2), (0, .int a0), (2, .int (nI t))] := hl
      refine lv_iinc (k := 2) (v := nI (t + 1)) hx hb d_Mo_inverse_20 hl rfl (aw_inc t 1 1 (by decide +kernel)) (by decide) rfl (fun ls hl => ?_)
      have hl : lv_has ls 3 [(2, .int (nI (t + 1))), (1, .int x2), (0, .int a0)] := hl
      refine lv_goto (tgt := 4) hx hb d_Mo_inverse_23 (by decide) ?_
      have hl := lv_sub hl (l' := [(0, .int a0), (1, .int x2), (2, .int (nI (t + 1)))]) [2, 1, 0] rfl
      have g0 : x2 = (v_Mo_inverseV_L4 a0 (t + 1)) := by subst ex2 ex1; rfl
      rw [g0] at hl
      exact ih (t + 1) ls (by omega) (by first | exact hl | simpa [Nat.add_assoc, Nat.mul_add, Nat.add_comm] using hl)
  have hl := lv_sub hl (l' := [(0, .int a0), (1, .int (nI 1)), (2, .int (nI 0))]) [2, 1, 0] rfl
  have g0 : nI 1 = (v_Mo_inverseV_L4 a0 0) := by rfl
  rw [g0] at hl
  exact L4 16 0 ls (by omega) (by first | exact hl | simpa using hl)
noncomputable def v_Mo_partV (a0 : Int64) (a1 : Int32) : Int32 := ((Int64.toInt32 (jL_ushr a0 ((nI 48) - ((nI 16) * a1)))) &&& 65535)
abbrev ws_Mo_partV : List Cond := Cond.code y_Mo_part b_Mo_part 3 (some .int) :: aw_G
abbrev rm_Mo_partV : Room := { frames := 0, cells := 0, slots := 0, locals := 0 }
set_option maxHeartbeats 4000000 in
set_option maxRecDepth 100000 in
theorem k_Mo_partV (l : Launch) (a0 : Int64) (a1 : Int32) : Met l y_Mo_part ws_Mo_partV rm_Mo_partV (va_Pc ([.long a0, .int a1] : List Value) (fun _ => True)) (aw_RI (fun r => r = v_Mo_partV a0 a1)) 0 0 (fun _ => False) := by
  refine Met.ofW (cc := b_Mo_part) (maxL := 3) (ret := (some .int)) (by decide) rfl ?_
  intro p e s m args below meth c s₁ B hml hv
  obtain ⟨rfl, -⟩ := hv
  have hx := B.exec
  have hb := B.bytes
  have hr := B.returns
  have hG : ∀ w ∈ aw_G, w.before _ s = true := fun w h => atoms_spec (ws := ws_Mo_partV) B.pre w (List.mem_cons_of_mem _ h)
  have hown : s.vm.findClass "RuleCiphersModel" = some m.cls := findClass_of_methodNamed B.named
  have hlocks := B.notSynchronized
  have hl := lv_entry ([.long a0, .int a1] : List Value) (n := 3) (Nat.le_of_ble_eq_true rfl)
  rw [lg_entry_eq]
  generalize (lg_sl ([.long a0, .int a1] : List Value) ++ List.replicate (3 - (lg_sl ([.long a0, .int a1] : List Value)).length) Slot.unset).toArray = ls at hl ⊢
  have hl : lv_has ls 3 [(0, .long a0), (2, .int a1)] := hl
  refine lv_lload_n hx hb d_Mo_part_0 rfl (lv_at hl 0 rfl) ?_
  refine lv_bipush (v := nI 48) hx hb d_Mo_part_1 (by decide +kernel) ?_
  refine lv_bipush (v := nI 16) hx hb d_Mo_part_3 (by decide +kernel) ?_
  refine lv_iload_n hx hb d_Mo_part_5 rfl (lv_at hl 1 rfl) ?_
  refine lv_imul hx hb d_Mo_part_6 ?_
  refine ag_topi (fun x1 ex1 => ?_)
  refine lv_isub hx hb d_Mo_part_7 ?_
  refine ag_topi (fun x2 ex2 => ?_)
  refine lv_lushr hx hb d_Mo_part_8 rfl ?_
  refine ag_topl (fun y3 ey3 => ?_)
  refine lv_l2i hx hb d_Mo_part_9 rfl ?_
  refine ag_topi (fun x4 ex4 => ?_)
  refine lv_ldc (v := 65535) hx hb hown (hG _ gw_11_36) d_Mo_part_10 ?_
  refine lv_iand hx hb d_Mo_part_12 ?_
  refine ag_topi (fun x5 ex5 => ?_)
  exact W.iret hx hb hr (fun t ht hW => ⟨_, (by subst ex5 ex4 ey3 ex2 ex1; rfl), rfl, ht⟩) (fun q h => nomatch h) d_Mo_part_13
noncomputable def v_Mo_fourV (a0 : Int32) (a1 : Int32) (a2 : Int32) (a3 : Int32) : Int64 := ((((jL_shl (Int32.toInt64 (a0 &&& 65535)) (nI 48)) ||| (jL_shl (Int32.toInt64 (a1 &&& 65535)) (nI 32))) ||| (jL_shl (Int32.toInt64 (a2 &&& 65535)) (nI 16))) ||| (Int32.toInt64 (a3 &&& 65535)))
abbrev ws_Mo_fourV : List Cond := Cond.code y_Mo_four b_Mo_four 4 (some .long) :: aw_G
abbrev rm_Mo_fourV : Room := { frames := 0, cells := 0, slots := 0, locals := 0 }
set_option maxHeartbeats 4000000 in
set_option maxRecDepth 100000 in
theorem k_Mo_fourV (l : Launch) (a0 : Int32) (a1 : Int32) (a2 : Int32) (a3 : Int32) : Met l y_Mo_four ws_Mo_fourV rm_Mo_fourV (va_Pc ([.int a0, .int a1, .int a2, .int a3] : List Value) (fun _ => True)) (aw_RL (fun r => r = v_Mo_fourV a0 a1 a2 a3)) 0 0 (fun _ => False) := by
  refine Met.ofW (cc := b_Mo_four) (maxL := 4) (ret := (some .long)) (by decide) rfl ?_
  intro p e s m args below meth c s₁ B hml hv
  obtain ⟨rfl, -⟩ := hv
  have hx := B.exec
  have hb := B.bytes
  have hr := B.returns
  have hG : ∀ w ∈ aw_G, w.before _ s = true := fun w h => atoms_spec (ws := ws_Mo_fourV) B.pre w (List.mem_cons_of_mem _ h)
  have hown : s.vm.findClass "RuleCiphersModel" = some m.cls := findClass_of_methodNamed B.named
  have hlocks := B.notSynchronized
  have hl := lv_entry ([.int a0, .int a1, .int a2, .int a3] : List Value) (n := 4) (Nat.le_of_ble_eq_true rfl)
  rw [lg_entry_eq]
  generalize (lg_sl ([.int a0, .int a1, .int a2, .int a3] : List Value) ++ List.replicate (4 - (lg_sl ([.int a0, .int a1, .int a2, .int a3] : List Value)).length) Slot.unset).toArray = ls at hl ⊢
  have hl : lv_has ls 4 [(0, .int a0), (1, .int a1), (2, .int a2), (3, .int a3)] := hl
  refine lv_iload_n hx hb d_Mo_four_0 rfl (lv_at hl 0 rfl) ?_
  refine lv_ldc (v := 65535) hx hb hown (hG _ gw_11_36) d_Mo_four_1 ?_
  refine lv_iand hx hb d_Mo_four_3 ?_
  refine ag_topi (fun x1 ex1 => ?_)
  refine lv_i2l hx hb d_Mo_four_4 rfl ?_
  refine ag_topl (fun y2 ey2 => ?_)
  refine lv_bipush (v := nI 48) hx hb d_Mo_four_5 (by decide +kernel) ?_
  refine lv_lshl hx hb d_Mo_four_7 rfl ?_
  refine ag_topl (fun y3 ey3 => ?_)
  refine lv_iload_n hx hb d_Mo_four_8 rfl (lv_at hl 1 rfl) ?_
  refine lv_ldc (v := 65535) hx hb hown (hG _ gw_11_36) d_Mo_four_9 ?_
  refine lv_iand hx hb d_Mo_four_11 ?_
  refine ag_topi (fun x4 ex4 => ?_)
  refine lv_i2l hx hb d_Mo_four_12 rfl ?_
  refine ag_topl (fun y5 ey5 => ?_)
  refine lv_bipush (v := nI 32) hx hb d_Mo_four_13 (by decide +kernel) ?_
  refine lv_lshl hx hb d_Mo_four_15 rfl ?_
  refine ag_topl (fun y6 ey6 => ?_)
  refine lv_lor hx hb d_Mo_four_16 ?_
  refine ag_topl (fun y7 ey7 => ?_)
  refine lv_iload_n hx hb d_Mo_four_17 rfl (lv_at hl 2 rfl) ?_
  refine lv_ldc (v := 65535) hx hb hown (hG _ gw_11_36) d_Mo_four_18 ?_
  refine lv_iand hx hb d_Mo_four_20 ?_
  refine ag_topi (fun x8 ex8 => ?_)
  refine lv_i2l hx hb d_Mo_four_21 rfl ?_
  refine ag_topl (fun y9 ey9 => ?_)
  refine lv_bipush (v := nI 16) hx hb d_Mo_four_22 (by decide +kernel) ?_
  refine lv_lshl hx hb d_Mo_four_24 rfl ?_
  refine ag_topl (fun y10 ey10 => ?_)
  refine lv_lor hx hb d_Mo_four_25 ?_
  refine ag_topl (fun y11 ey11 => ?_)
  refine lv_iload_n hx hb d_Mo_four_26 rfl (lv_at hl 3 rfl) ?_
  refine lv_ldc (v := 65535) hx hb hown (hG _ gw_11_36) d_Mo_four_27 ?_
  refine lv_iand hx hb d_Mo_four_29 ?_
  refine ag_topi (fun x12 ex12 => ?_)
  refine lv_i2l hx hb d_Mo_four_30 rfl ?_
  refine ag_topl (fun y13 ey13 => ?_)
  refine lv_lor hx hb d_Mo_four_31 ?_
  refine ag_topl (fun y14 ey14 => ?_)
  exact W.lret hx hb hr (fun t ht hW => ⟨_, (by subst ey14 ey13 ex12 ey11 ey10 ey9 ex8 ey7 ey6 ey5 ex4 ey3 ey2 ex1; rfl), rfl, ht⟩) (fun q h => nomatch h) d_Mo_four_32
noncomputable def v_Mo_sumV (a0 : Int32) (a1 : Int32) : Int32 := ((a0 + a1) &&& 65535)
abbrev ws_Mo_sumV : List Cond := Cond.code y_Mo_sum b_Mo_sum 2 (some .int) :: aw_G
abbrev rm_Mo_sumV : Room := { frames := 0, cells := 0, slots := 0, locals := 0 }
set_option maxHeartbeats 4000000 in
set_option maxRecDepth 100000 in
theorem k_Mo_sumV (l : Launch) (a0 : Int32) (a1 : Int32) : Met l y_Mo_sum ws_Mo_sumV rm_Mo_sumV (va_Pc ([.int a0, .int a1] : List Value) (fun _ => True)) (aw_RI (fun r => r = v_Mo_sumV a0 a1)) 0 0 (fun _ => False) := by
  refine Met.ofW (cc := b_Mo_sum) (maxL := 2) (ret := (some .int)) (by decide) rfl ?_
  intro p e s m args below meth c s₁ B hml hv
  obtain ⟨rfl, -⟩ := hv
  have hx := B.exec
  have hb := B.bytes
  have hr := B.returns
  have hG : ∀ w ∈ aw_G, w.before _ s = true := fun w h => atoms_spec (ws := ws_Mo_sumV) B.pre w (List.mem_cons_of_mem _ h)
  have hown : s.vm.findClass "RuleCiphersModel" = some m.cls := findClass_of_methodNamed B.named
  have hlocks := B.notSynchronized
  have hl := lv_entry ([.int a0, .int a1] : List Value) (n := 2) (Nat.le_of_ble_eq_true rfl)
  rw [lg_entry_eq]
  generalize (lg_sl ([.int a0, .int a1] : List Value) ++ List.replicate (2 - (lg_sl ([.int a0, .int a1] : List Value)).length) Slot.unset).toArray = ls at hl ⊢
  have hl : lv_has ls 2 [(0, .int a0), (1, .int a1)] := hl
  refine lv_iload_n hx hb d_Mo_sum_0 rfl (lv_at hl 0 rfl) ?_
  refine lv_iload_n hx hb d_Mo_sum_1 rfl (lv_at hl 1 rfl) ?_
  refine lv_iadd hx hb d_Mo_sum_2 ?_
  refine ag_topi (fun x1 ex1 => ?_)
  refine lv_ldc (v := 65535) hx hb hown (hG _ gw_11_36) d_Mo_sum_3 ?_
  refine lv_iand hx hb d_Mo_sum_5 ?_
  refine ag_topi (fun x2 ex2 => ?_)
  exact W.iret hx hb hr (fun t ht hW => ⟨_, (by subst ex2 ex1; rfl), rfl, ht⟩) (fun q h => nomatch h) d_Mo_sum_6
noncomputable def v_Mo_twiceV (a0 : Int64) : Int64 := (if 0 ≤ (lg_cmp a0 0) then (2 * a0) else ((2 * a0) ^^^ 27))
abbrev ws_Mo_twiceV : List Cond := Cond.code y_Mo_twice b_Mo_twice 2 (some .long) :: aw_G
abbrev rm_Mo_twiceV : Room := { frames := 0, cells := 0, slots := 0, locals := 0 }
set_option maxHeartbeats 4000000 in
set_option maxRecDepth 100000 in
theorem k_Mo_twiceV (l : Launch) (a0 : Int64) : Met l y_Mo_twice ws_Mo_twiceV rm_Mo_twiceV (va_Pc ([.long a0] : List Value) (fun _ => True)) (aw_RL (fun r => r = v_Mo_twiceV a0)) 0 0 (fun _ => False) := by
  refine Met.ofW (cc := b_Mo_twice) (maxL := 2) (ret := (some .long)) (by decide) rfl ?_
  intro p e s m args below meth c s₁ B hml hv
  obtain ⟨rfl, -⟩ := hv
  have hx := B.exec
  have hb := B.bytes
  have hr := B.returns
  have hG : ∀ w ∈ aw_G, w.before _ s = true := fun w h => atoms_spec (ws := ws_Mo_twiceV) B.pre w (List.mem_cons_of_mem _ h)
  have hown : s.vm.findClass "RuleCiphersModel" = some m.cls := findClass_of_methodNamed B.named
  have hlocks := B.notSynchronized
  have hl := lv_entry ([.long a0] : List Value) (n := 2) (Nat.le_of_ble_eq_true rfl)
  rw [lg_entry_eq]
  generalize (lg_sl ([.long a0] : List Value) ++ List.replicate (2 - (lg_sl ([.long a0] : List Value)).length) Slot.unset).toArray = ls at hl ⊢
  have hl : lv_has ls 2 [(0, .long a0)] := hl
  refine lv_lload_n hx hb d_Mo_twice_0 rfl (lv_at hl 0 rfl) ?_
  refine lv_lconst (v := 0) hx hb d_Mo_twice_1 (by decide +kernel) ?_
  refine W.lcmp hx hb d_Mo_twice_2 ?_
  refine ag_topi (fun x1 ex1 => ?_)
  refine lv_if_ge (tgt := 18) hx hb d_Mo_twice_3 (by decide) (fun hb2 => ?_) (fun hb2 => ?_)
  · refine lv_ldc2 (v := 2) hx hb hown (hG _ gw_13_0) d_Mo_twice_18 ?_
    refine lv_lload_n hx hb d_Mo_twice_21 rfl (lv_at hl 0 rfl) ?_
    refine lv_lmul hx hb d_Mo_twice_22 ?_
    refine ag_topl (fun y3 ey3 => ?_)
    exact W.lret hx hb hr (fun t ht hW => ⟨_, (by subst ey3 ex1; unfold v_Mo_twiceV; rw [if_pos hb2]), rfl, ht⟩) (fun q h => nomatch h) d_Mo_twice_23
  · refine lv_ldc2 (v := 2) hx hb hown (hG _ gw_13_0) d_Mo_twice_6 ?_
    refine lv_lload_n hx hb d_Mo_twice_9 rfl (lv_at hl 0 rfl) ?_
    refine lv_lmul hx hb d_Mo_twice_10 ?_
    refine ag_topl (fun y4 ey4 => ?_)
    refine lv_ldc2 (v := 27) hx hb hown (hG _ gw_13_1) d_Mo_twice_11 ?_
    refine lv_lxor hx hb d_Mo_twice_14 ?_
    refine ag_topl (fun y5 ey5 => ?_)
    refine lv_goto (tgt := 23) hx hb d_Mo_twice_15 (by decide) ?_
    exact W.lret hx hb hr (fun t ht hW => ⟨_, (by subst ey5 ey4 ex1; unfold v_Mo_twiceV; rw [if_neg hb2]), rfl, ht⟩) (fun q h => nomatch h) d_Mo_twice_23
noncomputable def v_Mo_bitV (a0 : Int32) : Int32 := (if (nI 31) ≤ a0 then ((jI_shr 304729359 ((nI 61) - a0)) &&& (nI 1)) else ((jI_shr 1842754288 ((nI 30) - a0)) &&& (nI 1)))
abbrev ws_Mo_bitV : List Cond := Cond.code y_Mo_bit b_Mo_bit 1 (some .int) :: aw_G
abbrev rm_Mo_bitV : Room := { frames := 0, cells := 0, slots := 0, locals := 0 }
set_option maxHeartbeats 4000000 in
set_option maxRecDepth 100000 in
theorem k_Mo_bitV (l : Launch) (a0 : Int32) : Met l y_Mo_bit ws_Mo_bitV rm_Mo_bitV (va_Pc ([.int a0] : List Value) (fun _ => True)) (aw_RI (fun r => r = v_Mo_bitV a0)) 0 0 (fun _ => False) := by
  refine Met.ofW (cc := b_Mo_bit) (maxL := 1) (ret := (some .int)) (by decide) rfl ?_
  intro p e s m args below meth c s₁ B hml hv
  obtain ⟨rfl, -⟩ := hv
  have hx := B.exec
  have hb := B.bytes
  have hr := B.returns
  have hG : ∀ w ∈ aw_G, w.before _ s = true := fun w h => atoms_spec (ws := ws_Mo_bitV) B.pre w (List.mem_cons_of_mem _ h)
  have hown : s.vm.findClass "RuleCiphersModel" = some m.cls := findClass_of_methodNamed B.named
  have hlocks := B.notSynchronized
  have hl := lv_entry ([.int a0] : List Value) (n := 1) (Nat.le_of_ble_eq_true rfl)
  rw [lg_entry_eq]
  generalize (lg_sl ([.int a0] : List Value) ++ List.replicate (1 - (lg_sl ([.int a0] : List Value)).length) Slot.unset).toArray = ls at hl ⊢
  have hl : lv_has ls 1 [(0, .int a0)] := hl
  refine lv_iload_n hx hb d_Mo_bit_0 rfl (lv_at hl 0 rfl) ?_
  refine lv_bipush (v := nI 31) hx hb d_Mo_bit_1 (by decide +kernel) ?_
  refine lv_icmp_ge (tgt := 18) hx hb d_Mo_bit_3 (by decide) (fun hb1 => ?_) (fun hb1 => ?_)
  · refine lv_ldc (v := 304729359) hx hb hown (hG _ gw_11_32) d_Mo_bit_18 ?_
    refine lv_bipush (v := nI 61) hx hb d_Mo_bit_20 (by decide +kernel) ?_
    refine lv_iload_n hx hb d_Mo_bit_22 rfl (lv_at hl 0 rfl) ?_
    refine lv_isub hx hb d_Mo_bit_23 ?_
    refine ag_topi (fun x2 ex2 => ?_)
    refine lv_ishr hx hb d_Mo_bit_24 ?_
    refine ag_topi (fun x3 ex3 => ?_)
    refine lv_iconst (v := nI 1) hx hb d_Mo_bit_25 (by decide +kernel) ?_
    refine lv_iand hx hb d_Mo_bit_26 ?_
    refine ag_topi (fun x4 ex4 => ?_)
    exact W.iret hx hb hr (fun t ht hW => ⟨_, (by subst ex4 ex3 ex2; unfold v_Mo_bitV; rw [if_pos hb1]), rfl, ht⟩) (fun q h => nomatch h) d_Mo_bit_27
  · refine lv_ldc (v := 1842754288) hx hb hown (hG _ gw_11_31) d_Mo_bit_6 ?_
    refine lv_bipush (v := nI 30) hx hb d_Mo_bit_8 (by decide +kernel) ?_
    refine lv_iload_n hx hb d_Mo_bit_10 rfl (lv_at hl 0 rfl) ?_
    refine lv_isub hx hb d_Mo_bit_11 ?_
    refine ag_topi (fun x5 ex5 => ?_)
    refine lv_ishr hx hb d_Mo_bit_12 ?_
    refine ag_topi (fun x6 ex6 => ?_)
    refine lv_iconst (v := nI 1) hx hb d_Mo_bit_13 (by decide +kernel) ?_
    refine lv_iand hx hb d_Mo_bit_14 ?_
    refine ag_topi (fun x7 ex7 => ?_)
    refine lv_goto (tgt := 27) hx hb d_Mo_bit_15 (by decide) ?_
    exact W.iret hx hb hr (fun t ht hW => ⟨_, (by subst ex7 ex6 ex5; unfold v_Mo_bitV; rw [if_neg hb1]), rfl, ht⟩) (fun q h => nomatch h) d_Mo_bit_27
