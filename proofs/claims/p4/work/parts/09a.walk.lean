abbrev ws_Ci_initRc : List Cond := Cond.code y_Ci_init b_Ci_init 2 none :: aw_G
abbrev rm_Ci_initRc : Room := { frames := 1, cells := 1, slots := 26, locals := 24 }
set_option maxHeartbeats 4000000 in
set_option maxRecDepth 100000 in
theorem k_Ci_initRc (l : Launch) (D : va_G) (g : Nat → ClassId) (N0 : Nat) (L0 : va_W) (q0 : Nat) : Met l y_Ci_init ws_Ci_initRc rm_Ci_initRc (va_Pc ([.ref q0, .int (nI 26)] : List Value) (aw_K D g N0 (L0 ++ [(q0, .inr (3, [.null, .null]))]))) (va_Qv (fun (_ : Unit) => True) (fun (_ : Unit) t => ∃ q1 : Nat, va_P D aw_C (L0 ++ [(q0, .inr (3, [.ref q1, .null])), (q1, .inl (g 0, 26, .inl (fun _ => 0)))]) t.heap ∧ va_D (aw_Z N0) (L0 ++ [(q0, .inr (3, [.ref q1, .null])), (q1, .inl (g 0, 26, .inl (fun _ => 0)))])) (aw_Z N0)) 1 26 (aw_Z N0) := by
  refine Met.ofW (cc := b_Ci_init) (maxL := 2) (ret := none) (by decide) rfl ?_
  intro p e s m args below meth c s₁ B hml hv
  obtain ⟨rfl, ⟨hP, hD⟩, hE, hC, hN0⟩ := hv
  have hx := B.exec
  have hb := B.bytes
  have hr := B.returns
  have hG : ∀ w ∈ aw_G, w.before _ s = true := fun w h => atoms_spec (ws := ws_Ci_initRc) B.pre w (List.mem_cons_of_mem _ h)
  have hown : s.vm.findClass "RuleCiphers$Cipher" = some m.cls := findClass_of_methodNamed B.named
  have hlocks := B.notSynchronized
  have hin : meth.name = "<init>" := (name_of_methodNamed B.named B.method).1
  have hK := hE.1
  have hN := hE.2.1
  have hS : va_S (aw_Z N0) s.heap s.heap [] := va_S.rf
  have hA : ∀ q, s.heap.size ≤ q → aw_Z N0 q := fun q h => Nat.le_trans hN0 h
  have hl := lv_entry ([.ref q0, .int (nI 26)] : List Value) (n := 2) (Nat.le_of_ble_eq_true rfl)
  rw [lg_entry_eq]
  generalize (lg_sl ([.ref q0, .int (nI 26)] : List Value) ++ List.replicate (2 - (lg_sl ([.ref q0, .int (nI 26)] : List Value)).length) Slot.unset).toArray = ls at hl ⊢
  have hl : lv_has ls 2 [(0, .ref q0), (1, .int (nI 26))] := hl
  refine lv_aload_n hx hb d_Ci_init_0 rfl (lv_at hl 0 rfl) ?_
  refine W.objInit hx hb hown (hG _ gw_0_39) (hG _ gw_0_23) (hG _ gw_0_24) rfl (by rw [hml]; exact hl.1) rfl d_Ci_init_1 (Nat.le_of_ble_eq_true rfl) (Nat.le_of_ble_eq_true rfl) ?_
  refine W.eq (g2 := F0 m 4 ls []) rfl ?_
  refine lv_aload_n hx hb d_Ci_init_4 rfl (lv_at hl 0 rfl) ?_
  refine lv_iload_n hx hb d_Ci_init_5 rfl (lv_at hl 1 rfl) ?_
  refine aw_kI hx hb (hG _ gw_0_57) hE hP hD hS hA (N := 26) (by decide) (Nat.le_of_ble_eq_true rfl) (Nat.le_of_ble_eq_true rfl) d_Ci_init_6 (fun q1 H hP hD hS => ?_)
  have hP : va_P D aw_C (L0 ++ [(q0, .inr (3, [.null, .null])), (q1, .inl (g 0, 26, .inl ((fun _ => 0))))]) H := hP
  have hD : va_D (aw_Z N0) (L0 ++ [(q0, .inr (3, [.null, .null])), (q1, .inl (g 0, 26, .inl ((fun _ => 0))))]) := hD
  refine aw_kF (v := .ref q1) (ty := (.array .int)) (C := R_Rc) (TT := T_Rc) (N := 2) hx hb hG in_Rc t_Rc t_Rc_ok n_Rc hown hK hP hD hS 0 rfl rfl 0 (by decide) (hG _ gw_0_41) (fun _ h => h) rfl hin rfl (by decide +kernel) rfl rfl (Nat.le_of_ble_eq_true rfl) d_Ci_init_8 (fun H locs hP hD hS => ?_)
  have hP : va_P D aw_C (L0 ++ [(q0, .inr (3, [.ref q1, .null])), (q1, .inl (g 0, 26, .inl ((fun _ => 0))))]) H := hP
  have hD : va_D (aw_Z N0) (L0 ++ [(q0, .inr (3, [.ref q1, .null])), (q1, .inl (g 0, 26, .inl ((fun _ => 0))))]) := hD
  exact W.vret hx hb hr (fun t ht hW => ⟨⟨(), rfl, trivial, ⟨q1, by rw [ht]; exact hP, hD⟩⟩, hS.F ht⟩) hS.2.2 d_Ci_init_11
abbrev ws_Ci_initXt : List Cond := Cond.code y_Ci_init b_Ci_init 2 none :: aw_G
abbrev rm_Ci_initXt : Room := { frames := 1, cells := 1, slots := 4, locals := 24 }
set_option maxHeartbeats 4000000 in
set_option maxRecDepth 100000 in
theorem k_Ci_initXt (l : Launch) (D : va_G) (g : Nat → ClassId) (N0 : Nat) (L0 : va_W) (q0 : Nat) : Met l y_Ci_init ws_Ci_initXt rm_Ci_initXt (va_Pc ([.ref q0, .int (nI 4)] : List Value) (aw_K D g N0 (L0 ++ [(q0, .inr (4, [.null]))]))) (va_Qv (fun (_ : Unit) => True) (fun (_ : Unit) t => ∃ q1 : Nat, va_P D aw_C (L0 ++ [(q0, .inr (4, [.ref q1])), (q1, .inl (g 0, 4, .inl (fun _ => 0)))]) t.heap ∧ va_D (aw_Z N0) (L0 ++ [(q0, .inr (4, [.ref q1])), (q1, .inl (g 0, 4, .inl (fun _ => 0)))])) (aw_Z N0)) 1 4 (aw_Z N0) := by
  refine Met.ofW (cc := b_Ci_init) (maxL := 2) (ret := none) (by decide) rfl ?_
  intro p e s m args below meth c s₁ B hml hv
  obtain ⟨rfl, ⟨hP, hD⟩, hE, hC, hN0⟩ := hv
  have hx := B.exec
  have hb := B.bytes
  have hr := B.returns
  have hG : ∀ w ∈ aw_G, w.before _ s = true := fun w h => atoms_spec (ws := ws_Ci_initXt) B.pre w (List.mem_cons_of_mem _ h)
  have hown : s.vm.findClass "RuleCiphers$Cipher" = some m.cls := findClass_of_methodNamed B.named
  have hlocks := B.notSynchronized
  have hin : meth.name = "<init>" := (name_of_methodNamed B.named B.method).1
  have hK := hE.1
  have hN := hE.2.1
  have hS : va_S (aw_Z N0) s.heap s.heap [] := va_S.rf
  have hA : ∀ q, s.heap.size ≤ q → aw_Z N0 q := fun q h => Nat.le_trans hN0 h
  have hl := lv_entry ([.ref q0, .int (nI 4)] : List Value) (n := 2) (Nat.le_of_ble_eq_true rfl)
  rw [lg_entry_eq]
  generalize (lg_sl ([.ref q0, .int (nI 4)] : List Value) ++ List.replicate (2 - (lg_sl ([.ref q0, .int (nI 4)] : List Value)).length) Slot.unset).toArray = ls at hl ⊢
  have hl : lv_has ls 2 [(0, .ref q0), (1, .int (nI 4))] := hl
  refine lv_aload_n hx hb d_Ci_init_0 rfl (lv_at hl 0 rfl) ?_
  refine W.objInit hx hb hown (hG _ gw_0_39) (hG _ gw_0_23) (hG _ gw_0_24) rfl (by rw [hml]; exact hl.1) rfl d_Ci_init_1 (Nat.le_of_ble_eq_true rfl) (Nat.le_of_ble_eq_true rfl) ?_
  refine W.eq (g2 := F0 m 4 ls []) rfl ?_
  refine lv_aload_n hx hb d_Ci_init_4 rfl (lv_at hl 0 rfl) ?_
  refine lv_iload_n hx hb d_Ci_init_5 rfl (lv_at hl 1 rfl) ?_
  refine aw_kI hx hb (hG _ gw_0_57) hE hP hD hS hA (N := 4) (by decide) (Nat.le_of_ble_eq_true rfl) (Nat.le_of_ble_eq_true rfl) d_Ci_init_6 (fun q1 H hP hD hS => ?_)
  have hP : va_P D aw_C (L0 ++ [(q0, .inr (4, [.null])), (q1, .inl (g 0, 4, .inl ((fun _ => 0))))]) H := hP
  have hD : va_D (aw_Z N0) (L0 ++ [(q0, .inr (4, [.null])), (q1, .inl (g 0, 4, .inl ((fun _ => 0))))]) := hD
  refine aw_kF (v := .ref q1) (ty := (.array .int)) (C := R_Xt) (TT := T_Xt) (N := 1) hx hb hG in_Xt t_Xt t_Xt_ok n_Xt hown hK hP hD hS 0 rfl rfl 0 (by decide) (hG _ gw_0_41) (fun _ h => h) rfl hin rfl (by decide +kernel) rfl rfl (Nat.le_of_ble_eq_true rfl) d_Ci_init_8 (fun H locs hP hD hS => ?_)
  have hP : va_P D aw_C (L0 ++ [(q0, .inr (4, [.ref q1])), (q1, .inl (g 0, 4, .inl ((fun _ => 0))))]) H := hP
  have hD : va_D (aw_Z N0) (L0 ++ [(q0, .inr (4, [.ref q1])), (q1, .inl (g 0, 4, .inl ((fun _ => 0))))]) := hD
  exact W.vret hx hb hr (fun t ht hW => ⟨⟨(), rfl, trivial, ⟨q1, by rw [ht]; exact hP, hD⟩⟩, hS.F ht⟩) hS.2.2 d_Ci_init_11
abbrev ws_Ci_initSp : List Cond := Cond.code y_Ci_init b_Ci_init 2 none :: aw_G
abbrev rm_Ci_initSp : Room := { frames := 1, cells := 1, slots := 27, locals := 24 }
set_option maxHeartbeats 4000000 in
set_option maxRecDepth 100000 in
theorem k_Ci_initSp (l : Launch) (D : va_G) (g : Nat → ClassId) (N0 : Nat) (L0 : va_W) (q0 : Nat) : Met l y_Ci_init ws_Ci_initSp rm_Ci_initSp (va_Pc ([.ref q0, .int (nI 27)] : List Value) (aw_K D g N0 (L0 ++ [(q0, .inr (5, [.null, .null]))]))) (va_Qv (fun (_ : Unit) => True) (fun (_ : Unit) t => ∃ q1 : Nat, va_P D aw_C (L0 ++ [(q0, .inr (5, [.ref q1, .null])), (q1, .inl (g 0, 27, .inl (fun _ => 0)))]) t.heap ∧ va_D (aw_Z N0) (L0 ++ [(q0, .inr (5, [.ref q1, .null])), (q1, .inl (g 0, 27, .inl (fun _ => 0)))])) (aw_Z N0)) 1 27 (aw_Z N0) := by
  refine Met.ofW (cc := b_Ci_init) (maxL := 2) (ret := none) (by decide) rfl ?_
  intro p e s m args below meth c s₁ B hml hv
  obtain ⟨rfl, ⟨hP, hD⟩, hE, hC, hN0⟩ := hv
  have hx := B.exec
  have hb := B.bytes
  have hr := B.returns
  have hG : ∀ w ∈ aw_G, w.before _ s = true := fun w h => atoms_spec (ws := ws_Ci_initSp) B.pre w (List.mem_cons_of_mem _ h)
  have hown : s.vm.findClass "RuleCiphers$Cipher" = some m.cls := findClass_of_methodNamed B.named
  have hlocks := B.notSynchronized
  have hin : meth.name = "<init>" := (name_of_methodNamed B.named B.method).1
  have hK := hE.1
  have hN := hE.2.1
  have hS : va_S (aw_Z N0) s.heap s.heap [] := va_S.rf
  have hA : ∀ q, s.heap.size ≤ q → aw_Z N0 q := fun q h => Nat.le_trans hN0 h
  have hl := lv_entry ([.ref q0, .int (nI 27)] : List Value) (n := 2) (Nat.le_of_ble_eq_true rfl)
  rw [lg_entry_eq]
  generalize (lg_sl ([.ref q0, .int (nI 27)] : List Value) ++ List.replicate (2 - (lg_sl ([.ref q0, .int (nI 27)] : List Value)).length) Slot.unset).toArray = ls at hl ⊢
  have hl : lv_has ls 2 [(0, .ref q0), (1, .int (nI 27))] := hl
  refine lv_aload_n hx hb d_Ci_init_0 rfl (lv_at hl 0 rfl) ?_
  refine W.objInit hx hb hown (hG _ gw_0_39) (hG _ gw_0_23) (hG _ gw_0_24) rfl (by rw [hml]; exact hl.1) rfl d_Ci_init_1 (Nat.le_of_ble_eq_true rfl) (Nat.le_of_ble_eq_true rfl) ?_
  refine W.eq (g2 := F0 m 4 ls []) rfl ?_
  refine lv_aload_n hx hb d_Ci_init_4 rfl (lv_at hl 0 rfl) ?_
  refine lv_iload_n hx hb d_Ci_init_5 rfl (lv_at hl 1 rfl) ?_
  refine aw_kI hx hb (hG _ gw_0_57) hE hP hD hS hA (N := 27) (by decide) (Nat.le_of_ble_eq_true rfl) (Nat.le_of_ble_eq_true rfl) d_Ci_init_6 (fun q1 H hP hD hS => ?_)
  have hP : va_P D aw_C (L0 ++ [(q0, .inr (5, [.null, .null])), (q1, .inl (g 0, 27, .inl ((fun _ => 0))))]) H := hP
  have hD : va_D (aw_Z N0) (L0 ++ [(q0, .inr (5, [.null, .null])), (q1, .inl (g 0, 27, .inl ((fun _ => 0))))]) := hD
  refine aw_kF (v := .ref q1) (ty := (.array .int)) (C := R_Sp) (TT := T_Sp) (N := 2) hx hb hG in_Sp t_Sp t_Sp_ok n_Sp hown hK hP hD hS 0 rfl rfl 0 (by decide) (hG _ gw_0_41) (fun _ h => h) rfl hin rfl (by decide +kernel) rfl rfl (Nat.le_of_ble_eq_true rfl) d_Ci_init_8 (fun H locs hP hD hS => ?_)
  have hP : va_P D aw_C (L0 ++ [(q0, .inr (5, [.ref q1, .null])), (q1, .inl (g 0, 27, .inl ((fun _ => 0))))]) H := hP
  have hD : va_D (aw_Z N0) (L0 ++ [(q0, .inr (5, [.ref q1, .null])), (q1, .inl (g 0, 27, .inl ((fun _ => 0))))]) := hD
  exact W.vret hx hb hr (fun t ht hW => ⟨⟨(), rfl, trivial, ⟨q1, by rw [ht]; exact hP, hD⟩⟩, hS.F ht⟩) hS.2.2 d_Ci_init_11
abbrev ws_Ci_initSi : List Cond := Cond.code y_Ci_init b_Ci_init 2 none :: aw_G
abbrev rm_Ci_initSi : Room := { frames := 1, cells := 1, slots := 44, locals := 24 }
set_option maxHeartbeats 4000000 in
set_option maxRecDepth 100000 in
theorem k_Ci_initSi (l : Launch) (D : va_G) (g : Nat → ClassId) (N0 : Nat) (L0 : va_W) (q0 : Nat) : Met l y_Ci_init ws_Ci_initSi rm_Ci_initSi (va_Pc ([.ref q0, .int (nI 44)] : List Value) (aw_K D g N0 (L0 ++ [(q0, .inr (6, [.null]))]))) (va_Qv (fun (_ : Unit) => True) (fun (_ : Unit) t => ∃ q1 : Nat, va_P D aw_C (L0 ++ [(q0, .inr (6, [.ref q1])), (q1, .inl (g 0, 44, .inl (fun _ => 0)))]) t.heap ∧ va_D (aw_Z N0) (L0 ++ [(q0, .inr (6, [.ref q1])), (q1, .inl (g 0, 44, .inl (fun _ => 0)))])) (aw_Z N0)) 1 44 (aw_Z N0) := by
  refine Met.ofW (cc := b_Ci_init) (maxL := 2) (ret := none) (by decide) rfl ?_
  intro p e s m args below meth c s₁ B hml hv
  obtain ⟨rfl, ⟨hP, hD⟩, hE, hC, hN0⟩ := hv
  have hx := B.exec
  have hb := B.bytes
  have hr := B.returns
  have hG : ∀ w ∈ aw_G, w.before _ s = true := fun w h => atoms_spec (ws := ws_Ci_initSi) B.pre w (List.mem_cons_of_mem _ h)
  have hown : s.vm.findClass "RuleCiphers$Cipher" = some m.cls := findClass_of_methodNamed B.named
  have hlocks := B.notSynchronized
  have hin : meth.name = "<init>" := (name_of_methodNamed B.named B.method).1
  have hK := hE.1
  have hN := hE.2.1
  have hS : va_S (aw_Z N0) s.heap s.heap [] := va_S.rf
  have hA : ∀ q, s.heap.size ≤ q → aw_Z N0 q := fun q h => Nat.le_trans hN0 h
  have hl := lv_entry ([.ref q0, .int (nI 44)] : List Value) (n := 2) (Nat.le_of_ble_eq_true rfl)
  rw [lg_entry_eq]
  generalize (lg_sl ([.ref q0, .int (nI 44)] : List Value) ++ List.replicate (2 - (lg_sl ([.ref q0, .int (nI 44)] : List Value)).length) Slot.unset).toArray = ls at hl ⊢
  have hl : lv_has ls 2 [(0, .ref q0), (1, .int (nI 44))] := hl
  refine lv_aload_n hx hb d_Ci_init_0 rfl (lv_at hl 0 rfl) ?_
  refine W.objInit hx hb hown (hG _ gw_0_39) (hG _ gw_0_23) (hG _ gw_0_24) rfl (by rw [hml]; exact hl.1) rfl d_Ci_init_1 (Nat.le_of_ble_eq_true rfl) (Nat.le_of_ble_eq_true rfl) ?_
  refine W.eq (g2 := F0 m 4 ls []) rfl ?_
  refine lv_aload_n hx hb d_Ci_init_4 rfl (lv_at hl 0 rfl) ?_
  refine lv_iload_n hx hb d_Ci_init_5 rfl (lv_at hl 1 rfl) ?_
  refine aw_kI hx hb (hG _ gw_0_57) hE hP hD hS hA (N := 44) (by decide) (Nat.le_of_ble_eq_true rfl) (Nat.le_of_ble_eq_true rfl) d_Ci_init_6 (fun q1 H hP hD hS => ?_)
  have hP : va_P D aw_C (L0 ++ [(q0, .inr (6, [.null])), (q1, .inl (g 0, 44, .inl ((fun _ => 0))))]) H := hP
  have hD : va_D (aw_Z N0) (L0 ++ [(q0, .inr (6, [.null])), (q1, .inl (g 0, 44, .inl ((fun _ => 0))))]) := hD
  refine aw_kF (v := .ref q1) (ty := (.array .int)) (C := R_Si) (TT := T_Si) (N := 1) hx hb hG in_Si t_Si t_Si_ok n_Si hown hK hP hD hS 0 rfl rfl 0 (by decide) (hG _ gw_0_41) (fun _ h => h) rfl hin rfl (by decide +kernel) rfl rfl (Nat.le_of_ble_eq_true rfl) d_Ci_init_8 (fun H locs hP hD hS => ?_)
  have hP : va_P D aw_C (L0 ++ [(q0, .inr (6, [.ref q1])), (q1, .inl (g 0, 44, .inl ((fun _ => 0))))]) H := hP
  have hD : va_D (aw_Z N0) (L0 ++ [(q0, .inr (6, [.ref q1])), (q1, .inl (g 0, 44, .inl ((fun _ => 0))))]) := hD
  exact W.vret hx hb hr (fun t ht hW => ⟨⟨(), rfl, trivial, ⟨q1, by rw [ht]; exact hP, hD⟩⟩, hS.F ht⟩) hS.2.2 d_Ci_init_11
abbrev ws_Ci_initId : List Cond := Cond.code y_Ci_init b_Ci_init 2 none :: aw_G
abbrev rm_Ci_initId : Room := { frames := 1, cells := 1, slots := 52, locals := 24 }
set_option maxHeartbeats 4000000 in
set_option maxRecDepth 100000 in
theorem k_Ci_initId (l : Launch) (D : va_G) (g : Nat → ClassId) (N0 : Nat) (L0 : va_W) (q0 : Nat) : Met l y_Ci_init ws_Ci_initId rm_Ci_initId (va_Pc ([.ref q0, .int (nI 52)] : List Value) (aw_K D g N0 (L0 ++ [(q0, .inr (7, [.null, .null]))]))) (va_Qv (fun (_ : Unit) => True) (fun (_ : Unit) t => ∃ q1 : Nat, va_P D aw_C (L0 ++ [(q0, .inr (7, [.ref q1, .null])), (q1, .inl (g 0, 52, .inl (fun _ => 0)))]) t.heap ∧ va_D (aw_Z N0) (L0 ++ [(q0, .inr (7, [.ref q1, .null])), (q1, .inl (g 0, 52, .inl (fun _ => 0)))])) (aw_Z N0)) 1 52 (aw_Z N0) := by
  refine Met.ofW (cc := b_Ci_init) (maxL := 2) (ret := none) (by decide) rfl ?_
  intro p e s m args below meth c s₁ B hml hv
  obtain ⟨rfl, ⟨hP, hD⟩, hE, hC, hN0⟩ := hv
  have hx := B.exec
  have hb := B.bytes
  have hr := B.returns
  have hG : ∀ w ∈ aw_G, w.before _ s = true := fun w h => atoms_spec (ws := ws_Ci_initId) B.pre w (List.mem_cons_of_mem _ h)
  have hown : s.vm.findClass "RuleCiphers$Cipher" = some m.cls := findClass_of_methodNamed B.named
  have hlocks := B.notSynchronized
  have hin : meth.name = "<init>" := (name_of_methodNamed B.named B.method).1
  have hK := hE.1
  have hN := hE.2.1
  have hS : va_S (aw_Z N0) s.heap s.heap [] := va_S.rf
  have hA : ∀ q, s.heap.size ≤ q → aw_Z N0 q := fun q h => Nat.le_trans hN0 h
  have hl := lv_entry ([.ref q0, .int (nI 52)] : List Value) (n := 2) (Nat.le_of_ble_eq_true rfl)
  rw [lg_entry_eq]
  generalize (lg_sl ([.ref q0, .int (nI 52)] : List Value) ++ List.replicate (2 - (lg_sl ([.ref q0, .int (nI 52)] : List Value)).length) Slot.unset).toArray = ls at hl ⊢
  have hl : lv_has ls 2 [(0, .ref q0), (1, .int (nI 52))] := hl
  refine lv_aload_n hx hb d_Ci_init_0 rfl (lv_at hl 0 rfl) ?_
  refine W.objInit hx hb hown (hG _ gw_0_39) (hG _ gw_0_23) (hG _ gw_0_24) rfl (by rw [hml]; exact hl.1) rfl d_Ci_init_1 (Nat.le_of_ble_eq_true rfl) (Nat.le_of_ble_eq_true rfl) ?_
  refine W.eq (g2 := F0 m 4 ls []) rfl ?_
  refine lv_aload_n hx hb d_Ci_init_4 rfl (lv_at hl 0 rfl) ?_
  refine lv_iload_n hx hb d_Ci_init_5 rfl (lv_at hl 1 rfl) ?_
  refine aw_kI hx hb (hG _ gw_0_57) hE hP hD hS hA (N := 52) (by decide) (Nat.le_of_ble_eq_true rfl) (Nat.le_of_ble_eq_true rfl) d_Ci_init_6 (fun q1 H hP hD hS => ?_)
  have hP : va_P D aw_C (L0 ++ [(q0, .inr (7, [.null, .null])), (q1, .inl (g 0, 52, .inl ((fun _ => 0))))]) H := hP
  have hD : va_D (aw_Z N0) (L0 ++ [(q0, .inr (7, [.null, .null])), (q1, .inl (g 0, 52, .inl ((fun _ => 0))))]) := hD
  refine aw_kF (v := .ref q1) (ty := (.array .int)) (C := R_Id) (TT := T_Id) (N := 2) hx hb hG in_Id t_Id t_Id_ok n_Id hown hK hP hD hS 0 rfl rfl 0 (by decide) (hG _ gw_0_41) (fun _ h => h) rfl hin rfl (by decide +kernel) rfl rfl (Nat.le_of_ble_eq_true rfl) d_Ci_init_8 (fun H locs hP hD hS => ?_)
  have hP : va_P D aw_C (L0 ++ [(q0, .inr (7, [.ref q1, .null])), (q1, .inl (g 0, 52, .inl ((fun _ => 0))))]) H := hP
  have hD : va_D (aw_Z N0) (L0 ++ [(q0, .inr (7, [.ref q1, .null])), (q1, .inl (g 0, 52, .inl ((fun _ => 0))))]) := hD
  exact W.vret hx hb hr (fun t ht hW => ⟨⟨(), rfl, trivial, ⟨q1, by rw [ht]; exact hP, hD⟩⟩, hS.F ht⟩) hS.2.2 d_Ci_init_11
abbrev ws_Rc_init : List Cond := Cond.code y_Rc_init b_Rc_init 1 none :: aw_G
abbrev rm_Rc_init : Room := { frames := 2, cells := 2, slots := 30, locals := 45 }
set_option maxHeartbeats 4000000 in
set_option maxRecDepth 100000 in
theorem k_Rc_init (l : Launch) (D : va_G) (g : Nat → ClassId) (N0 : Nat) (L0 : va_W) (q0 : Nat) : Met l y_Rc_init ws_Rc_init rm_Rc_init (va_Pc ([.ref q0] : List Value) (aw_K D g N0 (L0 ++ [(q0, .inr (3, [.null, .null]))]))) (va_Qv (fun (_ : Unit) => True) (fun (_ : Unit) t => ∃ q1 : Nat, ∃ q2 : Nat, va_P D aw_C (L0 ++ [(q0, .inr (3, [.ref q1, .ref q2])), (q1, .inl (g 0, 26, .inl (fun _ => 0))), (q2, .inl (g 0, 4, .inl (fun _ => 0)))]) t.heap ∧ va_D (aw_Z N0) (L0 ++ [(q0, .inr (3, [.ref q1, .ref q2])), (q1, .inl (g 0, 26, .inl (fun _ => 0))), (q2, .inl (g 0, 4, .inl (fun _ => 0)))])) (aw_Z N0)) 2 30 (aw_Z N0) := by
  refine Met.ofW (cc := b_Rc_init) (maxL := 1) (ret := none) (by decide) rfl ?_
  intro p e s m args below meth c s₁ B hml hv
  obtain ⟨rfl, ⟨hP, hD⟩, hE, hC, hN0⟩ := hv
  have hx := B.exec
  have hb := B.bytes
  have hr := B.returns
  have hG : ∀ w ∈ aw_G, w.before _ s = true := fun w h => atoms_spec (ws := ws_Rc_init) B.pre w (List.mem_cons_of_mem _ h)
  have hown : s.vm.findClass "RuleCiphers$Rc5" = some m.cls := findClass_of_methodNamed B.named
  have hlocks := B.notSynchronized
  have hin : meth.name = "<init>" := (name_of_methodNamed B.named B.method).1
  have hK := hE.1
  have hN := hE.2.1
  have hS : va_S (aw_Z N0) s.heap s.heap [] := va_S.rf
  have hA : ∀ q, s.heap.size ≤ q → aw_Z N0 q := fun q h => Nat.le_trans hN0 h
  have hl := lv_entry ([.ref q0] : List Value) (n := 1) (Nat.le_of_ble_eq_true rfl)
  rw [lg_entry_eq]
  generalize (lg_sl ([.ref q0] : List Value) ++ List.replicate (1 - (lg_sl ([.ref q0] : List Value)).length) Slot.unset).toArray = ls at hl ⊢
  have hl : lv_has ls 1 [(0, .ref q0)] := hl
  refine lv_aload_n hx hb d_Rc_init_0 rfl (lv_at hl 0 rfl) ?_
  refine lv_bipush (v := nI 26) hx hb d_Rc_init_1 (by decide +kernel) ?_
  refine va_callv (va_runI (As := [.int (nI 26)]) (rest := []) ⟨hx, hb, hml, hown, hG⟩ (k_Ci_initRc l D g N0 L0 q0) (aw_wI 1 hG gw_0_38 gw_0_36 gw_0_3 gw_0_37 rfl rfl rfl hd_Ci_init ⟨Nat.le_of_ble_eq_true rfl, Nat.le_of_ble_eq_true rfl⟩) (aw_qK hP hD hE hC hN0 hS) rfl rfl hl.1 rfl (lv_room (Nat.le_of_ble_eq_true rfl)) d_Rc_init_3 ⟨Nat.le_of_ble_eq_true rfl, Nat.le_of_ble_eq_true rfl⟩) hS (fun _ _ h => h) (fun _ h => h) (fun u t H locs ht _ _ hB _ _ hS => ?_)
  obtain ⟨q1, hP, hD⟩ := hB
  rw [ht] at hP
  clear ht
  have hP : va_P D aw_C (L0 ++ [(q0, .inr (3, [.ref q1, .null])), (q1, .inl (g 0, 26, .inl ((fun _ => 0))))]) H := hP
  have hD : va_D (aw_Z N0) (L0 ++ [(q0, .inr (3, [.ref q1, .null])), (q1, .inl (g 0, 26, .inl ((fun _ => 0))))]) := hD
  refine lv_aload_n hx hb d_Rc_init_6 rfl (lv_at hl 0 rfl) ?_
  refine lv_iconst (v := nI 4) hx hb d_Rc_init_7 (by decide +kernel) ?_
  refine aw_kI hx hb (hG _ gw_0_57) hE hP hD hS hA (N := 4) (by decide) (Nat.le_of_ble_eq_true rfl) (Nat.le_of_ble_eq_true rfl) d_Rc_init_8 (fun q2 H hP hD hS => ?_)
  have hP : va_P D aw_C (L0 ++ [(q0, .inr (3, [.ref q1, .null])), (q1, .inl (g 0, 26, .inl ((fun _ => 0)))), (q2, .inl (g 0, 4, .inl ((fun _ => 0))))]) H := hP
  have hD : va_D (aw_Z N0) (L0 ++ [(q0, .inr (3, [.ref q1, .null])), (q1, .inl (g 0, 26, .inl ((fun _ => 0)))), (q2, .inl (g 0, 4, .inl ((fun _ => 0))))]) := hD
  refine aw_kF (v := .ref q2) (ty := (.array .int)) (C := R_Rc) (TT := T_Rc) (N := 2) hx hb hG in_Rc t_Rc t_Rc_ok n_Rc hown hK hP hD hS 0 rfl rfl 1 (by decide) (hG _ gw_0_40) (fun _ h => h) rfl hin rfl (by decide +kernel) rfl rfl (Nat.le_of_ble_eq_true rfl) d_Rc_init_10 (fun H locs hP hD hS => ?_)
  have hP : va_P D aw_C (L0 ++ [(q0, .inr (3, [.ref q1, .ref q2])), (q1, .inl (g 0, 26, .inl ((fun _ => 0)))), (q2, .inl (g 0, 4, .inl ((fun _ => 0))))]) H := hP
  have hD : va_D (aw_Z N0) (L0 ++ [(q0, .inr (3, [.ref q1, .ref q2])), (q1, .inl (g 0, 26, .inl ((fun _ => 0)))), (q2, .inl (g 0, 4, .inl ((fun _ => 0))))]) := hD
  exact W.vret hx hb hr (fun t ht hW => ⟨⟨(), rfl, trivial, ⟨q1, q2, by rw [ht]; exact hP, hD⟩⟩, hS.F ht⟩) hS.2.2 d_Rc_init_13
abbrev ws_Xt_init : List Cond := Cond.code y_Xt_init b_Xt_init 1 none :: aw_G
abbrev rm_Xt_init : Room := { frames := 2, cells := 1, slots := 4, locals := 45 }
set_option maxHeartbeats 4000000 in
set_option maxRecDepth 100000 in
theorem k_Xt_init (l : Launch) (D : va_G) (g : Nat → ClassId) (N0 : Nat) (L0 : va_W) (q0 : Nat) : Met l y_Xt_init ws_Xt_init rm_Xt_init (va_Pc ([.ref q0] : List Value) (aw_K D g N0 (L0 ++ [(q0, .inr (4, [.null]))]))) (va_Qv (fun (_ : Unit) => True) (fun (_ : Unit) t => ∃ q1 : Nat, va_P D aw_C (L0 ++ [(q0, .inr (4, [.ref q1])), (q1, .inl (g 0, 4, .inl (fun _ => 0)))]) t.heap ∧ va_D (aw_Z N0) (L0 ++ [(q0, .inr (4, [.ref q1])), (q1, .inl (g 0, 4, .inl (fun _ => 0)))])) (aw_Z N0)) 1 4 (aw_Z N0) := by
  refine Met.ofW (cc := b_Xt_init) (maxL := 1) (ret := none) (by decide) rfl ?_
  intro p e s m args below meth c s₁ B hml hv
  obtain ⟨rfl, ⟨hP, hD⟩, hE, hC, hN0⟩ := hv
  have hx := B.exec
  have hb := B.bytes
  have hr := B.returns
  have hG : ∀ w ∈ aw_G, w.before _ s = true := fun w h => atoms_spec (ws := ws_Xt_init) B.pre w (List.mem_cons_of_mem _ h)
  have hown : s.vm.findClass "RuleCiphers$Xtea" = some m.cls := findClass_of_methodNamed B.named
  have hlocks := B.notSynchronized
  have hin : meth.name = "<init>" := (name_of_methodNamed B.named B.method).1
  have hK := hE.1
  have hN := hE.2.1
  have hS : va_S (aw_Z N0) s.heap s.heap [] := va_S.rf
  have hA : ∀ q, s.heap.size ≤ q → aw_Z N0 q := fun q h => Nat.le_trans hN0 h
  have hl := lv_entry ([.ref q0] : List Value) (n := 1) (Nat.le_of_ble_eq_true rfl)
  rw [lg_entry_eq]
  generalize (lg_sl ([.ref q0] : List Value) ++ List.replicate (1 - (lg_sl ([.ref q0] : List Value)).length) Slot.unset).toArray = ls at hl ⊢
  have hl : lv_has ls 1 [(0, .ref q0)] := hl
  refine lv_aload_n hx hb d_Xt_init_0 rfl (lv_at hl 0 rfl) ?_
  refine lv_iconst (v := nI 4) hx hb d_Xt_init_1 (by decide +kernel) ?_
  refine va_callv (va_runI (As := [.int (nI 4)]) (rest := []) ⟨hx, hb, hml, hown, hG⟩ (k_Ci_initXt l D g N0 L0 q0) (aw_wI 1 hG gw_0_38 gw_1_3 gw_0_3 gw_0_37 rfl rfl rfl hd_Ci_init ⟨Nat.le_of_ble_eq_true rfl, Nat.le_of_ble_eq_true rfl⟩) (aw_qK hP hD hE hC hN0 hS) rfl rfl hl.1 rfl (lv_room (Nat.le_of_ble_eq_true rfl)) d_Xt_init_2 ⟨Nat.le_of_ble_eq_true rfl, Nat.le_of_ble_eq_true rfl⟩) hS (fun _ _ h => h) (fun _ h => h) (fun u t H locs ht _ _ hB _ _ hS => ?_)
  obtain ⟨q1, hP, hD⟩ := hB
  rw [ht] at hP
  clear ht
  have hP : va_P D aw_C (L0 ++ [(q0, .inr (4, [.ref q1])), (q1, .inl (g 0, 4, .inl ((fun _ => 0))))]) H := hP
  have hD : va_D (aw_Z N0) (L0 ++ [(q0, .inr (4, [.ref q1])), (q1, .inl (g 0, 4, .inl ((fun _ => 0))))]) := hD
  exact W.vret hx hb hr (fun t ht hW => ⟨⟨(), rfl, trivial, ⟨q1, by rw [ht]; exact hP, hD⟩⟩, hS.F ht⟩) hS.2.2 d_Xt_init_5
abbrev ws_Sp_init : List Cond := Cond.code y_Sp_init b_Sp_init 1 none :: aw_G
abbrev rm_Sp_init : Room := { frames := 2, cells := 2, slots := 30, locals := 45 }
set_option maxHeartbeats 4000000 in
set_option maxRecDepth 100000 in
theorem k_Sp_init (l : Launch) (D : va_G) (g : Nat → ClassId) (N0 : Nat) (L0 : va_W) (q0 : Nat) : Met l y_Sp_init ws_Sp_init rm_Sp_init (va_Pc ([.ref q0] : List Value) (aw_K D g N0 (L0 ++ [(q0, .inr (5, [.null, .null]))]))) (va_Qv (fun (_ : Unit) => True) (fun (_ : Unit) t => ∃ q1 : Nat, ∃ q2 : Nat, va_P D aw_C (L0 ++ [(q0, .inr (5, [.ref q1, .ref q2])), (q1, .inl (g 0, 27, .inl (fun _ => 0))), (q2, .inl (g 0, 3, .inl (fun _ => 0)))]) t.heap ∧ va_D (aw_Z N0) (L0 ++ [(q0, .inr (5, [.ref q1, .ref q2])), (q1, .inl (g 0, 27, .inl (fun _ => 0))), (q2, .inl (g 0, 3, .inl (fun _ => 0)))])) (aw_Z N0)) 2 30 (aw_Z N0) := by
  refine Met.ofW (cc := b_Sp_init) (maxL := 1) (ret := none) (by decide) rfl ?_
  intro p e s m args below meth c s₁ B hml hv
  obtain ⟨rfl, ⟨hP, hD⟩, hE, hC, hN0⟩ := hv
  have hx := B.exec
  have hb := B.bytes
  have hr := B.returns
  have hG : ∀ w ∈ aw_G, w.before _ s = true := fun w h => atoms_spec (ws := ws_Sp_init) B.pre w (List.mem_cons_of_mem _ h)
  have hown : s.vm.findClass "RuleCiphers$Speck" = some m.cls := findClass_of_methodNamed B.named
  have hlocks := B.notSynchronized
  have hin : meth.name = "<init>" := (name_of_methodNamed B.named B.method).1
  have hK := hE.1
  have hN := hE.2.1
  have hS : va_S (aw_Z N0) s.heap s.heap [] := va_S.rf
  have hA : ∀ q, s.heap.size ≤ q → aw_Z N0 q := fun q h => Nat.le_trans hN0 h
  have hl := lv_entry ([.ref q0] : List Value) (n := 1) (Nat.le_of_ble_eq_true rfl)
  rw [lg_entry_eq]
  generalize (lg_sl ([.ref q0] : List Value) ++ List.replicate (1 - (lg_sl ([.ref q0] : List Value)).length) Slot.unset).toArray = ls at hl ⊢
  have hl : lv_has ls 1 [(0, .ref q0)] := hl
  refine lv_aload_n hx hb d_Sp_init_0 rfl (lv_at hl 0 rfl) ?_
  refine lv_bipush (v := nI 27) hx hb d_Sp_init_1 (by decide +kernel) ?_
  refine va_callv (va_runI (As := [.int (nI 27)]) (rest := []) ⟨hx, hb, hml, hown, hG⟩ (k_Ci_initSp l D g N0 L0 q0) (aw_wI 1 hG gw_0_38 gw_1_11 gw_0_3 gw_0_37 rfl rfl rfl hd_Ci_init ⟨Nat.le_of_ble_eq_true rfl, Nat.le_of_ble_eq_true rfl⟩) (aw_qK hP hD hE hC hN0 hS) rfl rfl hl.1 rfl (lv_room (Nat.le_of_ble_eq_true rfl)) d_Sp_init_3 ⟨Nat.le_of_ble_eq_true rfl, Nat.le_of_ble_eq_true rfl⟩) hS (fun _ _ h => h) (fun _ h => h) (fun u t H locs ht _ _ hB _ _ hS => ?_)
  obtain ⟨q1, hP, hD⟩ := hB
  rw [ht] at hP
  clear ht
  have hP : va_P D aw_C (L0 ++ [(q0, .inr (5, [.ref q1, .null])), (q1, .inl (g 0, 27, .inl ((fun _ => 0))))]) H := hP
  have hD : va_D (aw_Z N0) (L0 ++ [(q0, .inr (5, [.ref q1, .null])), (q1, .inl (g 0, 27, .inl ((fun _ => 0))))]) := hD
  refine lv_aload_n hx hb d_Sp_init_6 rfl (lv_at hl 0 rfl) ?_
  refine lv_iconst (v := nI 3) hx hb d_Sp_init_7 (by decide +kernel) ?_
  refine aw_kI hx hb (hG _ gw_0_57) hE hP hD hS hA (N := 3) (by decide) (Nat.le_of_ble_eq_true rfl) (Nat.le_of_ble_eq_true rfl) d_Sp_init_8 (fun q2 H hP hD hS => ?_)
  have hP : va_P D aw_C (L0 ++ [(q0, .inr (5, [.ref q1, .null])), (q1, .inl (g 0, 27, .inl ((fun _ => 0)))), (q2, .inl (g 0, 3, .inl ((fun _ => 0))))]) H := hP
  have hD : va_D (aw_Z N0) (L0 ++ [(q0, .inr (5, [.ref q1, .null])), (q1, .inl (g 0, 27, .inl ((fun _ => 0)))), (q2, .inl (g 0, 3, .inl ((fun _ => 0))))]) := hD
  refine aw_kF (v := .ref q2) (ty := (.array .int)) (C := R_Sp) (TT := T_Sp) (N := 2) hx hb hG in_Sp t_Sp t_Sp_ok n_Sp hown hK hP hD hS 0 rfl rfl 1 (by decide) (hG _ gw_1_12) (fun _ h => h) rfl hin rfl (by decide +kernel) rfl rfl (Nat.le_of_ble_eq_true rfl) d_Sp_init_10 (fun H locs hP hD hS => ?_)
  have hP : va_P D aw_C (L0 ++ [(q0, .inr (5, [.ref q1, .ref q2])), (q1, .inl (g 0, 27, .inl ((fun _ => 0)))), (q2, .inl (g 0, 3, .inl ((fun _ => 0))))]) H := hP
  have hD : va_D (aw_Z N0) (L0 ++ [(q0, .inr (5, [.ref q1, .ref q2])), (q1, .inl (g 0, 27, .inl ((fun _ => 0)))), (q2, .inl (g 0, 3, .inl ((fun _ => 0))))]) := hD
  exact W.vret hx hb hr (fun t ht hW => ⟨⟨(), rfl, trivial, ⟨q1, q2, by rw [ht]; exact hP, hD⟩⟩, hS.F ht⟩) hS.2.2 d_Sp_init_13
abbrev ws_Si_init : List Cond := Cond.code y_Si_init b_Si_init 1 none :: aw_G
abbrev rm_Si_init : Room := { frames := 2, cells := 1, slots := 44, locals := 45 }
set_option maxHeartbeats 4000000 in
set_option maxRecDepth 100000 in
theorem k_Si_init (l : Launch) (D : va_G) (g : Nat → ClassId) (N0 : Nat) (L0 : va_W) (q0 : Nat) : Met l y_Si_init ws_Si_init rm_Si_init (va_Pc ([.ref q0] : List Value) (aw_K D g N0 (L0 ++ [(q0, .inr (6, [.null]))]))) (va_Qv (fun (_ : Unit) => True) (fun (_ : Unit) t => ∃ q1 : Nat, va_P D aw_C (L0 ++ [(q0, .inr (6, [.ref q1])), (q1, .inl (g 0, 44, .inl (fun _ => 0)))]) t.heap ∧ va_D (aw_Z N0) (L0 ++ [(q0, .inr (6, [.ref q1])), (q1, .inl (g 0, 44, .inl (fun _ => 0)))])) (aw_Z N0)) 1 44 (aw_Z N0) := by
  refine Met.ofW (cc := b_Si_init) (maxL := 1) (ret := none) (by decide) rfl ?_
  intro p e s m args below meth c s₁ B hml hv
  obtain ⟨rfl, ⟨hP, hD⟩, hE, hC, hN0⟩ := hv
  have hx := B.exec
  have hb := B.bytes
  have hr := B.returns
  have hG : ∀ w ∈ aw_G, w.before _ s = true := fun w h => atoms_spec (ws := ws_Si_init) B.pre w (List.mem_cons_of_mem _ h)
  have hown : s.vm.findClass "RuleCiphers$Simon" = some m.cls := findClass_of_methodNamed B.named
  have hlocks := B.notSynchronized
  have hin : meth.name = "<init>" := (name_of_methodNamed B.named B.method).1
  have hK := hE.1
  have hN := hE.2.1
  have hS : va_S (aw_Z N0) s.heap s.heap [] := va_S.rf
  have hA : ∀ q, s.heap.size ≤ q → aw_Z N0 q := fun q h => Nat.le_trans hN0 h
  have hl := lv_entry ([.ref q0] : List Value) (n := 1) (Nat.le_of_ble_eq_true rfl)
  rw [lg_entry_eq]
  generalize (lg_sl ([.ref q0] : List Value) ++ List.replicate (1 - (lg_sl ([.ref q0] : List Value)).length) Slot.unset).toArray = ls at hl ⊢
  have hl : lv_has ls 1 [(0, .ref q0)] := hl
  refine lv_aload_n hx hb d_Si_init_0 rfl (lv_at hl 0 rfl) ?_
  refine lv_bipush (v := nI 44) hx hb d_Si_init_1 (by decide +kernel) ?_
  refine va_callv (va_runI (As := [.int (nI 44)]) (rest := []) ⟨hx, hb, hml, hown, hG⟩ (k_Ci_initSi l D g N0 L0 q0) (aw_wI 1 hG gw_0_38 gw_1_22 gw_0_3 gw_0_37 rfl rfl rfl hd_Ci_init ⟨Nat.le_of_ble_eq_true rfl, Nat.le_of_ble_eq_true rfl⟩) (aw_qK hP hD hE hC hN0 hS) rfl rfl hl.1 rfl (lv_room (Nat.le_of_ble_eq_true rfl)) d_Si_init_3 ⟨Nat.le_of_ble_eq_true rfl, Nat.le_of_ble_eq_true rfl⟩) hS (fun _ _ h => h) (fun _ h => h) (fun u t H locs ht _ _ hB _ _ hS => ?_)
  obtain ⟨q1, hP, hD⟩ := hB
  rw [ht] at hP
  clear ht
  have hP : va_P D aw_C (L0 ++ [(q0, .inr (6, [.ref q1])), (q1, .inl (g 0, 44, .inl ((fun _ => 0))))]) H := hP
  have hD : va_D (aw_Z N0) (L0 ++ [(q0, .inr (6, [.ref q1])), (q1, .inl (g 0, 44, .inl ((fun _ => 0))))]) := hD
  exact W.vret hx hb hr (fun t ht hW => ⟨⟨(), rfl, trivial, ⟨q1, by rw [ht]; exact hP, hD⟩⟩, hS.F ht⟩) hS.2.2 d_Si_init_6
abbrev ws_Id_init : List Cond := Cond.code y_Id_init b_Id_init 1 none :: aw_G
abbrev rm_Id_init : Room := { frames := 2, cells := 2, slots := 104, locals := 45 }
set_option maxHeartbeats 4000000 in
set_option maxRecDepth 100000 in
theorem k_Id_init (l : Launch) (D : va_G) (g : Nat → ClassId) (N0 : Nat) (L0 : va_W) (q0 : Nat) : Met l y_Id_init ws_Id_init rm_Id_init (va_Pc ([.ref q0] : List Value) (aw_K D g N0 (L0 ++ [(q0, .inr (7, [.null, .null]))]))) (va_Qv (fun (_ : Unit) => True) (fun (_ : Unit) t => ∃ q1 : Nat, ∃ q2 : Nat, va_P D aw_C (L0 ++ [(q0, .inr (7, [.ref q1, .ref q2])), (q1, .inl (g 0, 52, .inl (fun _ => 0))), (q2, .inl (g 0, 52, .inl (fun _ => 0)))]) t.heap ∧ va_D (aw_Z N0) (L0 ++ [(q0, .inr (7, [.ref q1, .ref q2])), (q1, .inl (g 0, 52, .inl (fun _ => 0))), (q2, .inl (g 0, 52, .inl (fun _ => 0)))])) (aw_Z N0)) 2 104 (aw_Z N0) := by
  refine Met.ofW (cc := b_Id_init) (maxL := 1) (ret := none) (by decide) rfl ?_
  intro p e s m args below meth c s₁ B hml hv
  obtain ⟨rfl, ⟨hP, hD⟩, hE, hC, hN0⟩ := hv
  have hx := B.exec
  have hb := B.bytes
  have hr := B.returns
  have hG : ∀ w ∈ aw_G, w.before _ s = true := fun w h => atoms_spec (ws := ws_Id_init) B.pre w (List.mem_cons_of_mem _ h)
  have hown : s.vm.findClass "RuleCiphers$Idea" = some m.cls := findClass_of_methodNamed B.named
  have hlocks := B.notSynchronized
  have hin : meth.name = "<init>" := (name_of_methodNamed B.named B.method).1
  have hK := hE.1
  have hN := hE.2.1
  have hS : va_S (aw_Z N0) s.heap s.heap [] := va_S.rf
  have hA : ∀ q, s.heap.size ≤ q → aw_Z N0 q := fun q h => Nat.le_trans hN0 h
  have hl := lv_entry ([.ref q0] : List Value) (n := 1) (Nat.le_of_ble_eq_true rfl)
  rw [lg_entry_eq]
  generalize (lg_sl ([.ref q0] : List Value) ++ List.replicate (1 - (lg_sl ([.ref q0] : List Value)).length) Slot.unset).toArray = ls at hl ⊢
  have hl : lv_has ls 1 [(0, .ref q0)] := hl
  refine lv_aload_n hx hb d_Id_init_0 rfl (lv_at hl 0 rfl) ?_
  refine lv_bipush (v := nI 52) hx hb d_Id_init_1 (by decide +kernel) ?_
  refine va_callv (va_runI (As := [.int (nI 52)]) (rest := []) ⟨hx, hb, hml, hown, hG⟩ (k_Ci_initId l D g N0 L0 q0) (aw_wI 1 hG gw_0_38 gw_1_30 gw_0_3 gw_0_37 rfl rfl rfl hd_Ci_init ⟨Nat.le_of_ble_eq_true rfl, Nat.le_of_ble_eq_true rfl⟩) (aw_qK hP hD hE hC hN0 hS) rfl rfl hl.1 rfl (lv_room (Nat.le_of_ble_eq_true rfl)) d_Id_init_3 ⟨Nat.le_of_ble_eq_true rfl, Nat.le_of_ble_eq_true rfl⟩) hS (fun _ _ h => h) (fun _ h => h) (fun u t H locs ht _ _ hB _ _ hS => ?_)
  obtain ⟨q1, hP, hD⟩ := hB
  rw [ht] at hP
  clear ht
  have hP : va_P D aw_C (L0 ++ [(q0, .inr (7, [.ref q1, .null])), (q1, .inl (g 0, 52, .inl ((fun _ => 0))))]) H := hP
  have hD : va_D (aw_Z N0) (L0 ++ [(q0, .inr (7, [.ref q1, .null])), (q1, .inl (g 0, 52, .inl ((fun _ => 0))))]) := hD
  refine lv_aload_n hx hb d_Id_init_6 rfl (lv_at hl 0 rfl) ?_
  refine lv_bipush (v := nI 52) hx hb d_Id_init_7 (by decide +kernel) ?_
  refine aw_kI hx hb (hG _ gw_0_57) hE hP hD hS hA (N := 52) (by decide) (Nat.le_of_ble_eq_true rfl) (Nat.le_of_ble_eq_true rfl) d_Id_init_9 (fun q2 H hP hD hS => ?_)
  have hP : va_P D aw_C (L0 ++ [(q0, .inr (7, [.ref q1, .null])), (q1, .inl (g 0, 52, .inl ((fun _ => 0)))), (q2, .inl (g 0, 52, .inl ((fun _ => 0))))]) H := hP
  have hD : va_D (aw_Z N0) (L0 ++ [(q0, .inr (7, [.ref q1, .null])), (q1, .inl (g 0, 52, .inl ((fun _ => 0)))), (q2, .inl (g 0, 52, .inl ((fun _ => 0))))]) := hD
  refine aw_kF (v := .ref q2) (ty := (.array .int)) (C := R_Id) (TT := T_Id) (N := 2) hx hb hG in_Id t_Id t_Id_ok n_Id hown hK hP hD hS 0 rfl rfl 1 (by decide) (hG _ gw_1_31) (fun _ h => h) rfl hin rfl (by decide +kernel) rfl rfl (Nat.le_of_ble_eq_true rfl) d_Id_init_11 (fun H locs hP hD hS => ?_)
  have hP : va_P D aw_C (L0 ++ [(q0, .inr (7, [.ref q1, .ref q2])), (q1, .inl (g 0, 52, .inl ((fun _ => 0)))), (q2, .inl (g 0, 52, .inl ((fun _ => 0))))]) H := hP
  have hD : va_D (aw_Z N0) (L0 ++ [(q0, .inr (7, [.ref q1, .ref q2])), (q1, .inl (g 0, 52, .inl ((fun _ => 0)))), (q2, .inl (g 0, 52, .inl ((fun _ => 0))))]) := hD
  exact W.vret hx hb hr (fun t ht hW => ⟨⟨(), rfl, trivial, ⟨q1, q2, by rw [ht]; exact hP, hD⟩⟩, hS.F ht⟩) hS.2.2 d_Id_init_14
abbrev ws_Tk_init : List Cond := Cond.code y_Tk_init b_Tk_init 1 none :: aw_G
abbrev rm_Tk_init : Room := { frames := 1, cells := 0, slots := 0, locals := 24 }
set_option maxHeartbeats 4000000 in
set_option maxRecDepth 100000 in
theorem k_Tk_init (l : Launch) (D : va_G) (g : Nat → ClassId) (N0 : Nat) (L0 : va_W) (q0 : Nat) : Met l y_Tk_init ws_Tk_init rm_Tk_init (va_Pc ([.ref q0] : List Value) (aw_K D g N0 (L0 ++ [(q0, .inr (2, [.int 0, .long 0, .long 0, .int 0]))]))) (va_Qv (fun (_ : Unit) => True) (fun (_ : Unit) t => va_P D aw_C (L0 ++ [(q0, .inr (2, [.int 0, .long 0, .long 0, .int 0]))]) t.heap ∧ va_D (aw_Z N0) (L0 ++ [(q0, .inr (2, [.int 0, .long 0, .long 0, .int 0]))])) (aw_Z N0)) 0 0 (aw_Z N0) := by
  refine Met.ofW (cc := b_Tk_init) (maxL := 1) (ret := none) (by decide) rfl ?_
  intro p e s m args below meth c s₁ B hml hv
  obtain ⟨rfl, ⟨hP, hD⟩, hE, hC, hN0⟩ := hv
  have hx := B.exec
  have hb := B.bytes
  have hr := B.returns
  have hG : ∀ w ∈ aw_G, w.before _ s = true := fun w h => atoms_spec (ws := ws_Tk_init) B.pre w (List.mem_cons_of_mem _ h)
  have hown : s.vm.findClass "RuleCiphers$Taken" = some m.cls := findClass_of_methodNamed B.named
  have hlocks := B.notSynchronized
  have hin : meth.name = "<init>" := (name_of_methodNamed B.named B.method).1
  have hK := hE.1
  have hN := hE.2.1
  have hS : va_S (aw_Z N0) s.heap s.heap [] := va_S.rf
  have hA : ∀ q, s.heap.size ≤ q → aw_Z N0 q := fun q h => Nat.le_trans hN0 h
  have hl := lv_entry ([.ref q0] : List Value) (n := 1) (Nat.le_of_ble_eq_true rfl)
  rw [lg_entry_eq]
  generalize (lg_sl ([.ref q0] : List Value) ++ List.replicate (1 - (lg_sl ([.ref q0] : List Value)).length) Slot.unset).toArray = ls at hl ⊢
  have hl : lv_has ls 1 [(0, .ref q0)] := hl
  refine lv_aload_n hx hb d_Tk_init_0 rfl (lv_at hl 0 rfl) ?_
  refine W.objInit hx hb hown (hG _ gw_1_40) (hG _ gw_0_23) (hG _ gw_0_24) rfl (by rw [hml]; exact hl.1) rfl d_Tk_init_1 (Nat.le_of_ble_eq_true rfl) (Nat.le_of_ble_eq_true rfl) ?_
  refine W.eq (g2 := F0 m 4 ls []) rfl ?_
  exact W.vret hx hb hr (fun t ht hW => ⟨⟨(), rfl, trivial, ⟨by rw [ht]; exact hP, hD⟩⟩, hS.F ht⟩) hS.2.2 d_Tk_init_4
