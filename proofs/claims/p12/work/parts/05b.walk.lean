abbrev ws_Mo_refused0 : List Cond := Cond.code y_Mo_refused b_Mo_refused 2 (some .boolean) :: aw_G
abbrev rm_Mo_refused0 : Room := { frames := 0, cells := 0, slots := 0, locals := 0 }
set_option maxHeartbeats 4000000 in
set_option maxRecDepth 100000 in
theorem k_Mo_refused0 (l : Launch) (D : va_G) (g : Nat → ClassId) (ad : Nat → Nat) (G M : Nat → Nat × Nat) (F : Int32) (N0 : Nat) : Met l y_Mo_refused ws_Mo_refused0 rm_Mo_refused0 (va_Pc ([.ref (aw_m ad 0), .int (nI 0)] : List Value) (aw_B D g ad G M F N0)) (va_Qi (fun r (_ : Unit) => r = nI 0) (fun (_ : Unit) t => aw_H D g ad G M (nI 0) N0 t.heap) (aw_Z N0)) 0 0 (aw_Z N0) := by
  refine Met.ofW (cc := b_Mo_refused) (maxL := 2) (ret := (some .boolean)) (by decide) rfl ?_
  intro p e s m args below meth c s₁ B hml hv
  obtain ⟨rfl, ⟨L, hP, hD, hSh⟩, hU⟩ := hv
  have hx := B.exec
  have hb := B.bytes
  have hr := B.returns
  have hG : ∀ w ∈ aw_G, w.before _ s = true := fun w h => atoms_spec (ws := ws_Mo_refused0) B.pre w (List.mem_cons_of_mem _ h)
  have hown : s.vm.findClass "RuleCiphersModel" = some m.cls := findClass_of_methodNamed B.named
  have hlocks := B.notSynchronized
  have hE := hU.1
  have hK := hE.1
  have hN := hE.2.1
  have hS : va_S (aw_Z N0) s.heap s.heap [] := va_S.rf
  have hl := lv_entry ([.ref (aw_m ad 0), .int (nI 0)] : List Value) (n := 2) (Nat.le_of_ble_eq_true rfl)
  rw [lg_entry_eq]
  generalize (lg_sl ([.ref (aw_m ad 0), .int (nI 0)] : List Value) ++ List.replicate (2 - (lg_sl ([.ref (aw_m ad 0), .int (nI 0)] : List Value)).length) Slot.unset).toArray = ls at hl ⊢
  have hl : lv_has ls 2 [(0, .ref (aw_m ad 0)), (1, .int (nI 0))] := hl
  refine lv_aload_n hx hb d_Mo_refused_0 rfl (lv_at hl 0 rfl) ?_
  refine lv_iload_n hx hb d_Mo_refused_1 rfl (lv_at hl 1 rfl) ?_
  obtain ⟨x2, o3, hw4, he1⟩ := rd_M0 hSh
  refine aw_put (v := .int (nI 0)) (ty := .int) (C := R_Mo) (T := T_Mo) (N := 19) hx hb hG in_Mo t_Mo t_Mo_ok n_Mo hown hK hP hD hS 67 he1 rfl 0 (by decide) (hG _ gw_9_25) (fun _ h => h) rfl (by decide +kernel) rfl rfl (Nat.le_of_ble_eq_true rfl) d_Mo_refused_2 (wr_M0F hSh (nI 0) x2 o3 hw4) (fun H locs L hP hD hSh hS => ?_)
  refine lv_iload_n hx hb d_Mo_refused_5 rfl (lv_at hl 1 rfl) ?_
  refine lv_if_le (tgt := 13) hx hb d_Mo_refused_6 (by decide) (fun _ => ?_) (fun h => absurd (by decide +kernel) h)
  refine lv_iconst (v := nI 0) hx hb d_Mo_refused_13 (by decide +kernel) ?_
  exact W.zret hx hb hr (by decide +kernel) (fun t ht hW => ⟨⟨_, (), rfl, rfl, aw_Hr ht hP hD hSh⟩, hS.F ht⟩) hS.2.2 d_Mo_refused_14
abbrev ws_Mo_refused1 : List Cond := Cond.code y_Mo_refused b_Mo_refused 2 (some .boolean) :: aw_G
abbrev rm_Mo_refused1 : Room := { frames := 0, cells := 0, slots := 0, locals := 0 }
set_option maxHeartbeats 4000000 in
set_option maxRecDepth 100000 in
theorem k_Mo_refused1 (l : Launch) (D : va_G) (g : Nat → ClassId) (ad : Nat → Nat) (G M : Nat → Nat × Nat) (F : Int32) (N0 : Nat) (w0 : Nat) (hw0 : 0 < w0 ∧ w0 ≤ 3) : Met l y_Mo_refused ws_Mo_refused1 rm_Mo_refused1 (va_Pc ([.ref (aw_m ad 0), .int (nI w0)] : List Value) (aw_B D g ad G M F N0)) (va_Qi (fun r (_ : Unit) => r = nI 1) (fun (_ : Unit) t => aw_H D g ad G M (nI w0) N0 t.heap) (aw_Z N0)) 0 0 (aw_Z N0) := by
  refine Met.ofW (cc := b_Mo_refused) (maxL := 2) (ret := (some .boolean)) (by decide) rfl ?_
  intro p e s m args below meth c s₁ B hml hv
  obtain ⟨rfl, ⟨L, hP, hD, hSh⟩, hU⟩ := hv
  have hx := B.exec
  have hb := B.bytes
  have hr := B.returns
  have hG : ∀ w ∈ aw_G, w.before _ s = true := fun w h => atoms_spec (ws := ws_Mo_refused1) B.pre w (List.mem_cons_of_mem _ h)
  have hown : s.vm.findClass "RuleCiphersModel" = some m.cls := findClass_of_methodNamed B.named
  have hlocks := B.notSynchronized
  have hE := hU.1
  have hK := hE.1
  have hN := hE.2.1
  have hS : va_S (aw_Z N0) s.heap s.heap [] := va_S.rf
  have hl := lv_entry ([.ref (aw_m ad 0), .int (nI w0)] : List Value) (n := 2) (Nat.le_of_ble_eq_true rfl)
  rw [lg_entry_eq]
  generalize (lg_sl ([.ref (aw_m ad 0), .int (nI w0)] : List Value) ++ List.replicate (2 - (lg_sl ([.ref (aw_m ad 0), .int (nI w0)] : List Value)).length) Slot.unset).toArray = ls at hl ⊢
  have hl : lv_has ls 2 [(0, .ref (aw_m ad 0)), (1, .int (nI w0))] := hl
  refine lv_aload_n hx hb d_Mo_refused_0 rfl (lv_at hl 0 rfl) ?_
  refine lv_iload_n hx hb d_Mo_refused_1 rfl (lv_at hl 1 rfl) ?_
  obtain ⟨x2, o3, hw4, he1⟩ := rd_M0 hSh
  refine aw_put (v := .int (nI w0)) (ty := .int) (C := R_Mo) (T := T_Mo) (N := 19) hx hb hG in_Mo t_Mo t_Mo_ok n_Mo hown hK hP hD hS 67 he1 rfl 0 (by decide) (hG _ gw_9_25) (fun _ h => h) rfl (by decide +kernel) rfl rfl (Nat.le_of_ble_eq_true rfl) d_Mo_refused_2 (wr_M0F hSh (nI w0) x2 o3 hw4) (fun H locs L hP hD hSh hS => ?_)
  refine lv_iload_n hx hb d_Mo_refused_5 rfl (lv_at hl 1 rfl) ?_
  refine lv_if_le (tgt := 13) hx hb d_Mo_refused_6 (by decide) (fun h => absurd h (show ¬ nI w0 ≤ nI 0 from fun h9 => absurd ((nI_leI (by omega) (by omega)).mp h9) (by omega))) (fun _ => ?_)
  refine lv_iconst (v := nI 1) hx hb d_Mo_refused_9 (by decide +kernel) ?_
  refine lv_goto (tgt := 14) hx hb d_Mo_refused_10 (by decide) ?_
  exact W.zret hx hb hr (by decide +kernel) (fun t ht hW => ⟨⟨_, (), rfl, rfl, aw_Hr ht hP hD hSh⟩, hS.F ht⟩) hS.2.2 d_Mo_refused_14
abbrev ws_Mo_thrown : List Cond := Cond.code y_Mo_thrown b_Mo_thrown 1 (some .int) :: aw_G
abbrev rm_Mo_thrown : Room := { frames := 0, cells := 0, slots := 0, locals := 0 }
set_option maxHeartbeats 4000000 in
set_option maxRecDepth 100000 in
theorem k_Mo_thrown (l : Launch) (D : va_G) (g : Nat → ClassId) (ad : Nat → Nat) (G M : Nat → Nat × Nat) (F : Int32) (N0 : Nat) : Met l y_Mo_thrown ws_Mo_thrown rm_Mo_thrown (va_Pc ([.ref (aw_m ad 0)] : List Value) (aw_B D g ad G M F N0)) (va_Qi (fun r (_ : Unit) => r = F) (fun (_ : Unit) t => aw_H D g ad G M F N0 t.heap) (aw_Z N0)) 0 0 (aw_Z N0) := by
  refine Met.ofW (cc := b_Mo_thrown) (maxL := 1) (ret := (some .int)) (by decide) rfl ?_
  intro p e s m args below meth c s₁ B hml hv
  obtain ⟨rfl, ⟨L, hP, hD, hSh⟩, hU⟩ := hv
  have hx := B.exec
  have hb := B.bytes
  have hr := B.returns
  have hG : ∀ w ∈ aw_G, w.before _ s = true := fun w h => atoms_spec (ws := ws_Mo_thrown) B.pre w (List.mem_cons_of_mem _ h)
  have hown : s.vm.findClass "RuleCiphersModel" = some m.cls := findClass_of_methodNamed B.named
  have hlocks := B.notSynchronized
  have hE := hU.1
  have hK := hE.1
  have hN := hE.2.1
  have hS : va_S (aw_Z N0) s.heap s.heap [] := va_S.rf
  have hl := lv_entry ([.ref (aw_m ad 0)] : List Value) (n := 1) (Nat.le_of_ble_eq_true rfl)
  rw [lg_entry_eq]
  generalize (lg_sl ([.ref (aw_m ad 0)] : List Value) ++ List.replicate (1 - (lg_sl ([.ref (aw_m ad 0)] : List Value)).length) Slot.unset).toArray = ls at hl ⊢
  have hl : lv_has ls 1 [(0, .ref (aw_m ad 0))] := hl
  refine lv_aload_n hx hb d_Mo_thrown_0 rfl (lv_at hl 0 rfl) ?_
  obtain ⟨x2, o3, hw4, he1⟩ := rd_M0 hSh
  refine va_get (C := R_Mo) (T := T_Mo) (N := 19) (v := .int F) hx hb hG in_Mo hown hK hP 67 he1 rfl 0 (by decide) (hG _ gw_9_25) (fun _ h => h) rfl d_Mo_thrown_1 ?_
  exact W.iret hx hb hr (fun t ht hW => ⟨⟨_, (), rfl, rfl, aw_Hr ht hP hD hSh⟩, hS.F ht⟩) hS.2.2 d_Mo_thrown_4
abbrev ws_Mo_quarter : List Cond := Cond.code y_Mo_quarter b_Mo_quarter 5 (some .int) :: aw_G
abbrev rm_Mo_quarter : Room := { frames := 1, cells := 0, slots := 0, locals := 21 }
set_option maxHeartbeats 4000000 in
set_option maxRecDepth 100000 in
theorem k_Mo_quarter (l : Launch) (D : va_G) (g : Nat → ClassId) (ad : Nat → Nat) (G M : Nat → Nat × Nat) (F : Int32) (N0 : Nat) (j : Nat) (i : Int32) (hj : j < 4) : Met l y_Mo_quarter ws_Mo_quarter rm_Mo_quarter (va_Pc ([.ref (aw_m ad 0), .int (nI j), .int i] : List Value) (aw_B D g ad G M F N0)) (va_Qi (fun r (_ : Unit) => True) (fun (_ : Unit) t => aw_H D g ad G M F N0 t.heap) (aw_Z N0)) 0 0 (aw_Z N0) := by
  refine Met.ofW (cc := b_Mo_quarter) (maxL := 5) (ret := (some .int)) (by decide) rfl ?_
  intro p e s m args below meth c s₁ B hml hv
  obtain ⟨rfl, ⟨L, hP, hD, hSh⟩, hU⟩ := hv
  have hx := B.exec
  have hb := B.bytes
  have hr := B.returns
  have hG : ∀ w ∈ aw_G, w.before _ s = true := fun w h => atoms_spec (ws := ws_Mo_quarter) B.pre w (List.mem_cons_of_mem _ h)
  have hown : s.vm.findClass "RuleCiphersModel" = some m.cls := findClass_of_methodNamed B.named
  have hlocks := B.notSynchronized
  have hE := hU.1
  have hK := hE.1
  have hN := hE.2.1
  have hS : va_S (aw_Z N0) s.heap s.heap [] := va_S.rf
  have hl := lv_entry ([.ref (aw_m ad 0), .int (nI j), .int i] : List Value) (n := 5) (Nat.le_of_ble_eq_true rfl)
  rw [lg_entry_eq]
  generalize (lg_sl ([.ref (aw_m ad 0), .int (nI j), .int i] : List Value) ++ List.replicate (5 - (lg_sl ([.ref (aw_m ad 0), .int (nI j), .int i] : List Value)).length) Slot.unset).toArray = ls at hl ⊢
  have hl : lv_has ls 5 [(0, .ref (aw_m ad 0)), (1, .int (nI j)), (2, .int i)] := hl
  refine lv_iload_n hx hb d_Mo_quarter_0 rfl (lv_at hl 2 rfl) ?_
  refine lv_iconst (v := nI 2) hx hb d_Mo_quarter_1 (by decide +kernel) ?_
  refine lv_icmp_ge (tgt := 14) hx hb d_Mo_quarter_2 (by decide) (fun hb1 => ?_) (fun hb1 => ?_)
  · refine lv_aload_n hx hb d_Mo_quarter_14 rfl (lv_at hl 0 rfl) ?_
    obtain ⟨x3, o4, hw5, he2⟩ := rd_M0 hSh
    refine va_get (C := R_Mo) (T := T_Mo) (N := 19) (v := .ref (aw_m ad 5)) hx hb hG in_Mo hown hK hP 67 he2 rfl 5 (by decide) (hG _ gw_9_30) (fun _ h => h) rfl d_Mo_quarter_15 ?_
    refine lv_iload_n hx hb d_Mo_quarter_18 rfl (lv_at hl 1 rfl) ?_
    obtain ⟨f7, he6⟩ := rd_M5 hSh
    refine aw_lld hx hb hK hP 72 1 he6 rfl (k := j) (by omega) (by decide) d_Mo_quarter_19 ?_
    refine lv_topl (fun y8 _ => ?_)
    refine lv_lstore_n hx hb d_Mo_quarter_20 rfl hl (by decide) rfl (fun ls hl => ?_)
    have hl : lv_has ls 5 [(3, .long y8), (0, .ref (aw_m ad 0)), (1, .int (nI j)), (2, .int i)] := hl
    refine lv_iload_n hx hb d_Mo_quarter_21 rfl (lv_at hl 3 rfl) ?_
    refine lv_iconst (v := nI 2) hx hb d_Mo_quarter_22 (by decide +kernel) ?_
    refine lv_irem hx hb d_Mo_quarter_23 (by decide +kernel) ?_
    refine lv_topi (fun x9 _ => ?_)
    refine lv_if_ne (tgt := 34) hx hb d_Mo_quarter_24 (by decide) (fun hb10 => ?_) (fun hb10 => ?_)
    · refine lv_lload_n hx hb d_Mo_quarter_34 rfl (lv_at hl 0 rfl) ?_
      refine lv_l2i hx hb d_Mo_quarter_35 rfl ?_
      refine lv_topi (fun x11 _ => ?_)
      exact W.iret hx hb hr (fun t ht hW => ⟨⟨_, (), rfl, trivial, aw_Hr ht hP hD hSh⟩, hS.F ht⟩) hS.2.2 d_Mo_quarter_36
    · refine lv_lload_n hx hb d_Mo_quarter_27 rfl (lv_at hl 0 rfl) ?_
      refine aw_ci ((va_runS (As := [.long y8]) (rest := []) ⟨hx, hb, hml, hown, hG⟩ (k_Mo_upper l y8) (aw_wS 1 hG gw_11_17 gw_11_15 gw_0_10 gw_11_16 rfl rfl hd_Mo_upper ⟨Nat.le_of_ble_eq_true rfl, Nat.le_of_ble_eq_true rfl⟩) aw_p0 rfl rfl hl.1 rfl (lv_room (Nat.le_of_ble_eq_true rfl)) d_Mo_quarter_28 ⟨Nat.le_of_ble_eq_true rfl, Nat.le_of_ble_eq_true rfl⟩).run) (fun x12 hx12 => ?_)
      refine lv_goto (tgt := 36) hx hb d_Mo_quarter_31 (by decide) ?_
      exact W.iret hx hb hr (fun t ht hW => ⟨⟨_, (), rfl, trivial, aw_Hr ht hP hD hSh⟩, hS.F ht⟩) hS.2.2 d_Mo_quarter_36
  · refine lv_aload_n hx hb d_Mo_quarter_5 rfl (lv_at hl 0 rfl) ?_
    obtain ⟨x14, o15, hw16, he13⟩ := rd_M0 hSh
    refine va_get (C := R_Mo) (T := T_Mo) (N := 19) (v := .ref (aw_m ad 4)) hx hb hG in_Mo hown hK hP 67 he13 rfl 4 (by decide) (hG _ gw_9_29) (fun _ h => h) rfl d_Mo_quarter_6 ?_
    refine lv_iload_n hx hb d_Mo_quarter_9 rfl (lv_at hl 1 rfl) ?_
    obtain ⟨f18, he17⟩ := rd_M4 hSh
    refine aw_lld hx hb hK hP 71 1 he17 rfl (k := j) (by omega) (by decide) d_Mo_quarter_10 ?_
    refine lv_topl (fun y19 _ => ?_)
    refine lv_goto (tgt := 20) hx hb d_Mo_quarter_11 (by decide) ?_
    refine lv_lstore_n hx hb d_Mo_quarter_20 rfl hl (by decide) rfl (fun ls hl => ?_)
    have hl : lv_has ls 5 [(3, .long y19), (0, .ref (aw_m ad 0)), (1, .int (nI j)), (2, .int i)] := hl
    refine lv_iload_n hx hb d_Mo_quarter_21 rfl (lv_at hl 3 rfl) ?_
    refine lv_iconst (v := nI 2) hx hb d_Mo_quarter_22 (by decide +kernel) ?_
    refine lv_irem hx hb d_Mo_quarter_23 (by decide +kernel) ?_
    refine lv_topi (fun x20 _ => ?_)
    refine lv_if_ne (tgt := 34) hx hb d_Mo_quarter_24 (by decide) (fun hb21 => ?_) (fun hb21 => ?_)
    · refine lv_lload_n hx hb d_Mo_quarter_34 rfl (lv_at hl 0 rfl) ?_
      refine lv_l2i hx hb d_Mo_quarter_35 rfl ?_
      refine lv_topi (fun x22 _ => ?_)
      exact W.iret hx hb hr (fun t ht hW => ⟨⟨_, (), rfl, trivial, aw_Hr ht hP hD hSh⟩, hS.F ht⟩) hS.2.2 d_Mo_quarter_36
    · refine lv_lload_n hx hb d_Mo_quarter_27 rfl (lv_at hl 0 rfl) ?_
      refine aw_ci ((va_runS (As := [.long y19]) (rest := []) ⟨hx, hb, hml, hown, hG⟩ (k_Mo_upper l y19) (aw_wS 1 hG gw_11_17 gw_11_15 gw_0_10 gw_11_16 rfl rfl hd_Mo_upper ⟨Nat.le_of_ble_eq_true rfl, Nat.le_of_ble_eq_true rfl⟩) aw_p0 rfl rfl hl.1 rfl (lv_room (Nat.le_of_ble_eq_true rfl)) d_Mo_quarter_28 ⟨Nat.le_of_ble_eq_true rfl, Nat.le_of_ble_eq_true rfl⟩).run) (fun x23 hx23 => ?_)
      refine lv_goto (tgt := 36) hx hb d_Mo_quarter_31 (by decide) ?_
      exact W.iret hx hb hr (fun t ht hW => ⟨⟨_, (), rfl, trivial, aw_Hr ht hP hD hSh⟩, hS.F ht⟩) hS.2.2 d_Mo_quarter_36
abbrev ws_Mo_eight : List Cond := Cond.code y_Mo_eight b_Mo_eight 5 (some .long) :: aw_G
abbrev rm_Mo_eight : Room := { frames := 0, cells := 0, slots := 0, locals := 0 }
set_option maxHeartbeats 4000000 in
set_option maxRecDepth 100000 in
theorem k_Mo_eight (l : Launch) (D : va_G) (g : Nat → ClassId) (ad : Nat → Nat) (G M : Nat → Nat × Nat) (F : Int32) (N0 : Nat) (k : Nat) (hk : k ≤ 56) : Met l y_Mo_eight ws_Mo_eight rm_Mo_eight (va_Pc ([.ref (aw_m ad 0), .int (nI k)] : List Value) (aw_B D g ad G M F N0)) (va_Ql (fun r (_ : Unit) => True) (fun (_ : Unit) t => aw_H D g ad G M F N0 t.heap) (aw_Z N0)) 0 0 (aw_Z N0) := by
  refine Met.ofW (cc := b_Mo_eight) (maxL := 5) (ret := (some .long)) (by decide) rfl ?_
  intro p e s m args below meth c s₁ B hml hv
  obtain ⟨rfl, ⟨L, hP, hD, hSh⟩, hU⟩ := hv
  have hx := B.exec
  have hb := B.bytes
  have hr := B.returns
  have hG : ∀ w ∈ aw_G, w.before _ s = true := fun w h => atoms_spec (ws := ws_Mo_eight) B.pre w (List.mem_cons_of_mem _ h)
  have hown : s.vm.findClass "RuleCiphersModel" = some m.cls := findClass_of_methodNamed B.named
  have hlocks := B.notSynchronized
  have hE := hU.1
  have hK := hE.1
  have hN := hE.2.1
  have hS : va_S (aw_Z N0) s.heap s.heap [] := va_S.rf
  have hl := lv_entry ([.ref (aw_m ad 0), .int (nI k)] : List Value) (n := 5) (Nat.le_of_ble_eq_true rfl)
  rw [lg_entry_eq]
  generalize (lg_sl ([.ref (aw_m ad 0), .int (nI k)] : List Value) ++ List.replicate (5 - (lg_sl ([.ref (aw_m ad 0), .int (nI k)] : List Value)).length) Slot.unset).toArray = ls at hl ⊢
  have hl : lv_has ls 5 [(0, .ref (aw_m ad 0)), (1, .int (nI k))] := hl
  refine lv_lconst (v := 0) hx hb d_Mo_eight_0 (by decide +kernel) ?_
  refine lv_lstore_n hx hb d_Mo_eight_1 rfl hl (by decide) rfl (fun ls hl => ?_)
  have hl : lv_has ls 5 [(2, .long 0), (0, .ref (aw_m ad 0)), (1, .int (nI k))] := hl
  refine lv_iconst (v := nI 0) hx hb d_Mo_eight_2 (by decide +kernel) ?_
  refine lv_istore hx hb d_Mo_eight_3 hl (by decide) rfl (fun ls hl => ?_)
  have hl : lv_has ls 5 [(4, .int (nI 0)), (2, .long 0), (0, .ref (aw_m ad 0)), (1, .int (nI k))] := hl
  have L5 : ∀ (d t : Nat) (y1 : Int64) (H : Heap) (locs : List Loc) (L : va_W) (ls : Array Slot), t + d = 8 → va_P D aw_C L H → va_D (aw_Z N0) L → aw_Sh g ad G M F L → va_S (aw_Z N0) s.heap H locs → lv_has ls 5 [(0, .ref (aw_m ad 0)), (1, .int (nI k)), (2, .long y1), (4, .int (nI t))] → W p l e (headSpec ws_Mo_eight rm_Mo_eight).room s m ([.ref (aw_m ad 0), .int (nI k)] : List Value).toArray below meth c H locs 0 0 (MQ below (va_Ql (fun r (_ : Unit) => True) (fun (_ : Unit) t => aw_H D g ad G M F N0 t.heap) (aw_Z N0)) ([.ref (aw_m ad 0), .int (nI k)] : List Value).toArray s 0 0 (aw_Z N0)) (F0 m 5 ls []) := by
    clear hP hD hSh hS
    clear hl
    intro d
    induction d with
    | zero => 
      intro t y1 H locs L ls ht0 hP hD hSh hS hl
      refine lv_iload hx hb d_Mo_eight_5 (lv_at hl 3 rfl) ?_
      refine lv_bipush (v := nI 8) hx hb d_Mo_eight_7 (by decide +kernel) ?_
      refine lv_icmp_ge (tgt := 34) hx hb d_Mo_eight_9 (by decide) (fun _ => ?_) (fun h => absurd (show nI 8 ≤ nI t from (nI_leI (by omega) (by omega)).mpr (by omega)) h)
      refine lv_lload_n hx hb d_Mo_eight_34 rfl (lv_at hl 2 rfl) ?_
      exact W.lret hx hb hr (fun t ht hW => ⟨⟨_, (), rfl, trivial, aw_Hr ht hP hD hSh⟩, hS.F ht⟩) hS.2.2 d_Mo_eight_35
    | succ d ih => 
      intro t y1 H locs L ls ht0 hP hD hSh hS hl
      refine lv_iload hx hb d_Mo_eight_5 (lv_at hl 3 rfl) ?_
      refine lv_bipush (v := nI 8) hx hb d_Mo_eight_7 (by decide +kernel) ?_
      refine lv_icmp_ge (tgt := 34) hx hb d_Mo_eight_9 (by decide) (fun h => absurd h (show ¬ nI 8 ≤ nI t from fun h9 => absurd ((nI_leI (by omega) (by omega)).mp h9) (by omega))) (fun _ => ?_)
      refine lv_lload_n hx hb d_Mo_eight_12 rfl (lv_at hl 2 rfl) ?_
      refine lv_bipush (v := nI 8) hx hb d_Mo_eight_13 (by decide +kernel) ?_
      refine lv_lshl hx hb d_Mo_eight_15 rfl ?_
      refine lv_topl (fun y2 _ => ?_)
      refine lv_aload_n hx hb d_Mo_eight_16 rfl (lv_at hl 0 rfl) ?_
      obtain ⟨x4, o5, hw6, he3⟩ := rd_M0 hSh
      refine va_get (C := R_Mo) (T := T_Mo) (N := 19) (v := .ref (aw_m ad 1)) hx hb hG in_Mo hown hK hP 67 he3 rfl 1 (by decide) (hG _ gw_9_26) (fun _ h => h) rfl d_Mo_eight_17 ?_
      refine lv_iload_n hx hb d_Mo_eight_20 rfl (lv_at hl 1 rfl) ?_
      refine lv_iload hx hb d_Mo_eight_21 (lv_at hl 3 rfl) ?_
      refine lv_iadd hx hb d_Mo_eight_23 ?_
      refine aw_ti (nI_add k t) ?_
      obtain ⟨f8, he7⟩ := rd_M1 hSh
      refine aw_ild hx hb hK hP 68 0 he7 rfl (k := (k + t)) (by omega) (by decide) d_Mo_eight_24 ?_
      refine lv_topi (fun x9 _ => ?_)
      refine lv_i2l hx hb d_Mo_eight_25 rfl ?_
      refine lv_topl (fun y10 _ => ?_)
      refine lv_lor hx hb d_Mo_eight_26 ?_
      refine lv_topl (fun y11 _ => ?_)
      refine lv_lstore_n hx hb d_Mo_eight_27 rfl hl (by decide) rfl (fun ls hl => ?_)
      have hl : lv_has ls 5 [(2, .long y11), (0, .ref (aw_m ad 0)), (1, .int (nI k)), (4, .int (nI t))] := hl
      refine lv_iinc (k := 3) (v := nI (t + 1)) hx hb d_Mo_eight_28 hl rfl (aw_inc t 1 1 (by decide +kernel)) (by decide) rfl (fun ls hl => ?_)
      have hl : lv_has ls 5 [(4, .int (nI (t + 1))), (2, .long y11), (0, .ref (aw_m ad 0)), (1, .int (nI k))] := hl
      refine lv_goto (tgt := 5) hx hb d_Mo_eight_31 (by decide) ?_
      have hl := lv_sub hl (l' := [(0, .ref (aw_m ad 0)), (1, .int (nI k)), (2, .long y11), (4, .int (nI (t + 1)))]) [2, 3, 1, 0] rfl
      exact ih (t + 1) y11 H locs L ls (by omega) hP hD hSh hS (by first | exact hl | simpa [Nat.add_assoc, Nat.mul_add, Nat.add_comm] using hl)
  have hl := lv_sub hl (l' := [(0, .ref (aw_m ad 0)), (1, .int (nI k)), (2, .long 0), (4, .int (nI 0))]) [2, 3, 1, 0] rfl
  exact L5 8 0 0 _ _ _ ls (by omega) hP hD hSh hS (by first | exact hl | simpa using hl)
abbrev ws_Mo_putEight : List Cond := Cond.code y_Mo_putEight b_Mo_putEight 5 none :: aw_G
abbrev rm_Mo_putEight : Room := { frames := 0, cells := 0, slots := 0, locals := 0 }
set_option maxHeartbeats 4000000 in
set_option maxRecDepth 100000 in
theorem k_Mo_putEight (l : Launch) (D : va_G) (g : Nat → ClassId) (ad : Nat → Nat) (G M : Nat → Nat × Nat) (F : Int32) (N0 : Nat) (k : Nat) (b : Int64) (hk : k ≤ 56) : Met l y_Mo_putEight ws_Mo_putEight rm_Mo_putEight (va_Pc ([.ref (aw_m ad 0), .int (nI k), .long b] : List Value) (aw_B D g ad G M F N0)) (va_Qv (fun (_ : Unit) => True) (fun (_ : Unit) t => aw_H D g ad G M F N0 t.heap) (aw_Z N0)) 0 0 (aw_Z N0) := by
  refine Met.ofW (cc := b_Mo_putEight) (maxL := 5) (ret := none) (by decide) rfl ?_
  intro p e s m args below meth c s₁ B hml hv
  obtain ⟨rfl, ⟨L, hP, hD, hSh⟩, hU⟩ := hv
  have hx := B.exec
  have hb := B.bytes
  have hr := B.returns
  have hG : ∀ w ∈ aw_G, w.before _ s = true := fun w h => atoms_spec (ws := ws_Mo_putEight) B.pre w (List.mem_cons_of_mem _ h)
  have hown : s.vm.findClass "RuleCiphersModel" = some m.cls := findClass_of_methodNamed B.named
  have hlocks := B.notSynchronized
  have hE := hU.1
  have hK := hE.1
  have hN := hE.2.1
  have hS : va_S (aw_Z N0) s.heap s.heap [] := va_S.rf
  have hl := lv_entry ([.ref (aw_m ad 0), .int (nI k), .long b] : List Value) (n := 5) (Nat.le_of_ble_eq_true rfl)
  rw [lg_entry_eq]
  generalize (lg_sl ([.ref (aw_m ad 0), .int (nI k), .long b] : List Value) ++ List.replicate (5 - (lg_sl ([.ref (aw_m ad 0), .int (nI k), .long b] : List Value)).length) Slot.unset).toArray = ls at hl ⊢
  have hl : lv_has ls 5 [(0, .ref (aw_m ad 0)), (1, .int (nI k)), (2, .long b)] := hl
  refine lv_iconst (v := nI 0) hx hb d_Mo_putEight_0 (by decide +kernel) ?_
  refine lv_istore hx hb d_Mo_putEight_1 hl (by decide) rfl (fun ls hl => ?_)
  have hl : lv_has ls 5 [(4, .int (nI 0)), (0, .ref (aw_m ad 0)), (1, .int (nI k)), (2, .long b)] := hl
  have L3 : ∀ (d t : Nat)  (H : Heap) (locs : List Loc) (L : va_W) (ls : Array Slot), t + d = 8 → va_P D aw_C L H → va_D (aw_Z N0) L → aw_Sh g ad G M F L → va_S (aw_Z N0) s.heap H locs → lv_has ls 5 [(0, .ref (aw_m ad 0)), (1, .int (nI k)), (2, .long b), (4, .int (nI t))] → W p l e (headSpec ws_Mo_putEight rm_Mo_putEight).room s m ([.ref (aw_m ad 0), .int (nI k), .long b] : List Value).toArray below meth c H locs 0 0 (MQ below (va_Qv (fun (_ : Unit) => True) (fun (_ : Unit) t => aw_H D g ad G M F N0 t.heap) (aw_Z N0)) ([.ref (aw_m ad 0), .int (nI k), .long b] : List Value).toArray s 0 0 (aw_Z N0)) (F0 m 3 ls []) := by
    clear hP hD hSh hS
    clear hl
    intro d
    induction d with
    | zero => 
      intro t  H locs L ls ht0 hP hD hSh hS hl
      refine lv_iload hx hb d_Mo_putEight_3 (lv_at hl 3 rfl) ?_
      refine lv_bipush (v := nI 8) hx hb d_Mo_putEight_5 (by decide +kernel) ?_
      refine lv_icmp_ge (tgt := 40) hx hb d_Mo_putEight_7 (by decide) (fun _ => ?_) (fun h => absurd (show nI 8 ≤ nI t from (nI_leI (by omega) (by omega)).mpr (by omega)) h)
      exact W.vret hx hb hr (fun t ht hW => ⟨⟨(), rfl, trivial, aw_Hr ht hP hD hSh⟩, hS.F ht⟩) hS.2.2 d_Mo_putEight_40
    | succ d ih => 
      intro t  H locs L ls ht0 hP hD hSh hS hl
      refine lv_iload hx hb d_Mo_putEight_3 (lv_at hl 3 rfl) ?_
      refine lv_bipush (v := nI 8) hx hb d_Mo_putEight_5 (by decide +kernel) ?_
      refine lv_icmp_ge (tgt := 40) hx hb d_Mo_putEight_7 (by decide) (fun h => absurd h (show ¬ nI 8 ≤ nI t from fun h9 => absurd ((nI_leI (by omega) (by omega)).mp h9) (by omega))) (fun _ => ?_)
      refine lv_aload_n hx hb d_Mo_putEight_10 rfl (lv_at hl 0 rfl) ?_
      obtain ⟨x2, o3, hw4, he1⟩ := rd_M0 hSh
      refine va_get (C := R_Mo) (T := T_Mo) (N := 19) (v := .ref (aw_m ad 1)) hx hb hG in_Mo hown hK hP 67 he1 rfl 1 (by decide) (hG _ gw_9_26) (fun _ h => h) rfl d_Mo_putEight_11 ?_
      refine lv_iload_n hx hb d_Mo_putEight_14 rfl (lv_at hl 1 rfl) ?_
      refine lv_iload hx hb d_Mo_putEight_15 (lv_at hl 3 rfl) ?_
      refine lv_iadd hx hb d_Mo_putEight_17 ?_
      refine aw_ti (nI_add k t) ?_
      refine lv_lload_n hx hb d_Mo_putEight_18 rfl (lv_at hl 2 rfl) ?_
      refine lv_bipush (v := nI 56) hx hb d_Mo_putEight_19 (by decide +kernel) ?_
      refine lv_bipush (v := nI 8) hx hb d_Mo_putEight_21 (by decide +kernel) ?_
      refine lv_iload hx hb d_Mo_putEight_23 (lv_at hl 3 rfl) ?_
      refine lv_imul hx hb d_Mo_putEight_25 ?_
      refine aw_ti (pk_mul 8 t) ?_
      refine lv_isub hx hb d_Mo_putEight_26 ?_
      refine aw_ti (pk_sub (a := 56) (b := (8 * t)) (by omega)) ?_
      refine lv_lushr hx hb d_Mo_putEight_27 rfl ?_
      refine lv_topl (fun y5 _ => ?_)
      refine lv_l2i hx hb d_Mo_putEight_28 rfl ?_
      refine lv_topi (fun x6 _ => ?_)
      refine lv_sipush (v := nI 255) hx hb d_Mo_putEight_29 (by decide +kernel) ?_
      refine lv_iand hx hb d_Mo_putEight_32 ?_
      obtain ⟨k7, hk7, ek7⟩ := pk_andE x6 (m := nI 255) 8 (by decide +kernel)
      refine aw_ti ek7 ?_
      obtain ⟨f9, he8⟩ := rd_M1 hSh
      refine aw_istI hx hb hK hP hD hS 68 0 he8 rfl (k := (k + t)) (by omega) (by decide) d_Mo_putEight_33 (wr_M1 hSh _) (fun H locs L hP hD hSh hS => ?_)
      refine lv_iinc (k := 3) (v := nI (t + 1)) hx hb d_Mo_putEight_34 hl rfl (aw_inc t 1 1 (by decide +kernel)) (by decide) rfl (fun ls hl => ?_)
      have hl : lv_has ls 5 [(4, .int (nI (t + 1))), (0, .ref (aw_m ad 0)), (1, .int (nI k)), (2, .long b)] := hl
      refine lv_goto (tgt := 3) hx hb d_Mo_putEight_37 (by decide) ?_
      have hl := lv_sub hl (l' := [(0, .ref (aw_m ad 0)), (1, .int (nI k)), (2, .long b), (4, .int (nI (t + 1)))]) [1, 2, 3, 0] rfl
      exact ih (t + 1)  H locs L ls (by omega) hP hD hSh hS (by first | exact hl | simpa [Nat.add_assoc, Nat.mul_add, Nat.add_comm] using hl)
  have hl := lv_sub hl (l' := [(0, .ref (aw_m ad 0)), (1, .int (nI k)), (2, .long b), (4, .int (nI 0))]) [1, 2, 3, 0] rfl
  exact L3 8 0  _ _ _ ls (by omega) hP hD hSh hS (by first | exact hl | simpa using hl)
abbrev ws_Mo_empty : List Cond := Cond.code y_Mo_empty b_Mo_empty 2 none :: aw_G
abbrev rm_Mo_empty : Room := { frames := 0, cells := 0, slots := 0, locals := 0 }
set_option maxHeartbeats 4000000 in
set_option maxRecDepth 100000 in
theorem k_Mo_empty (l : Launch) (D : va_G) (g : Nat → ClassId) (ad : Nat → Nat) (G M : Nat → Nat × Nat) (F : Int32) (N0 : Nat) (j : Nat) (hj : j < 4) : Met l y_Mo_empty ws_Mo_empty rm_Mo_empty (va_Pc ([.ref (aw_m ad 0), .int (nI j)] : List Value) (aw_B D g ad G M F N0)) (va_Qv (fun (_ : Unit) => True) (fun (_ : Unit) t => aw_H D g ad G M F N0 t.heap) (aw_Z N0)) 0 0 (aw_Z N0) := by
  refine Met.ofW (cc := b_Mo_empty) (maxL := 2) (ret := none) (by decide) rfl ?_
  intro p e s m args below meth c s₁ B hml hv
  obtain ⟨rfl, ⟨L, hP, hD, hSh⟩, hU⟩ := hv
  have hx := B.exec
  have hb := B.bytes
  have hr := B.returns
  have hG : ∀ w ∈ aw_G, w.before _ s = true := fun w h => atoms_spec (ws := ws_Mo_empty) B.pre w (List.mem_cons_of_mem _ h)
  have hown : s.vm.findClass "RuleCiphersModel" = some m.cls := findClass_of_methodNamed B.named
  have hlocks := B.notSynchronized
  have hE := hU.1
  have hK := hE.1
  have hN := hE.2.1
  have hS : va_S (aw_Z N0) s.heap s.heap [] := va_S.rf
  have hl := lv_entry ([.ref (aw_m ad 0), .int (nI j)] : List Value) (n := 2) (Nat.le_of_ble_eq_true rfl)
  rw [lg_entry_eq]
  generalize (lg_sl ([.ref (aw_m ad 0), .int (nI j)] : List Value) ++ List.replicate (2 - (lg_sl ([.ref (aw_m ad 0), .int (nI j)] : List Value)).length) Slot.unset).toArray = ls at hl ⊢
  have hl : lv_has ls 2 [(0, .ref (aw_m ad 0)), (1, .int (nI j))] := hl
  refine lv_aload_n hx hb d_Mo_empty_0 rfl (lv_at hl 0 rfl) ?_
  obtain ⟨x2, o3, hw4, he1⟩ := rd_M0 hSh
  refine va_get (C := R_Mo) (T := T_Mo) (N := 19) (v := .ref (aw_m ad 11)) hx hb hG in_Mo hown hK hP 67 he1 rfl 11 (by decide) (hG _ gw_9_36) (fun _ h => h) rfl d_Mo_empty_1 ?_
  refine lv_iload_n hx hb d_Mo_empty_4 rfl (lv_at hl 1 rfl) ?_
  refine lv_iconst (v := nI 0) hx hb d_Mo_empty_5 (by decide +kernel) ?_
  obtain ⟨f6, he5⟩ := rd_M11 hSh
  refine aw_istI hx hb hK hP hD hS 78 0 he5 rfl (k := j) (by omega) (by decide) d_Mo_empty_6 (wr_M11 hSh _) (fun H locs L hP hD hSh hS => ?_)
  refine lv_aload_n hx hb d_Mo_empty_7 rfl (lv_at hl 0 rfl) ?_
  obtain ⟨x8, o9, hw10, he7⟩ := rd_M0 hSh
  refine va_get (C := R_Mo) (T := T_Mo) (N := 19) (v := .ref (aw_m ad 12)) hx hb hG in_Mo hown hK hP 67 he7 rfl 12 (by decide) (hG _ gw_9_37) (fun _ h => h) rfl d_Mo_empty_8 ?_
  refine lv_iload_n hx hb d_Mo_empty_11 rfl (lv_at hl 1 rfl) ?_
  refine lv_lconst (v := 0) hx hb d_Mo_empty_12 (by decide +kernel) ?_
  obtain ⟨f12, he11⟩ := rd_M12 hSh
  refine aw_lstI hx hb hK hP hD hS 79 1 he11 rfl (k := j) (by omega) (by decide) d_Mo_empty_13 (wr_M12 hSh _) (fun H locs L hP hD hSh hS => ?_)
  refine lv_aload_n hx hb d_Mo_empty_14 rfl (lv_at hl 0 rfl) ?_
  obtain ⟨x14, o15, hw16, he13⟩ := rd_M0 hSh
  refine va_get (C := R_Mo) (T := T_Mo) (N := 19) (v := .ref (aw_m ad 13)) hx hb hG in_Mo hown hK hP 67 he13 rfl 13 (by decide) (hG _ gw_9_38) (fun _ h => h) rfl d_Mo_empty_15 ?_
  refine lv_iload_n hx hb d_Mo_empty_18 rfl (lv_at hl 1 rfl) ?_
  refine lv_lconst (v := 0) hx hb d_Mo_empty_19 (by decide +kernel) ?_
  obtain ⟨f18, he17⟩ := rd_M13 hSh
  refine aw_lstI hx hb hK hP hD hS 80 1 he17 rfl (k := j) (by omega) (by decide) d_Mo_empty_20 (wr_M13 hSh _) (fun H locs L hP hD hSh hS => ?_)
  refine lv_aload_n hx hb d_Mo_empty_21 rfl (lv_at hl 0 rfl) ?_
  obtain ⟨x20, o21, hw22, he19⟩ := rd_M0 hSh
  refine va_get (C := R_Mo) (T := T_Mo) (N := 19) (v := .ref (aw_m ad 14)) hx hb hG in_Mo hown hK hP 67 he19 rfl 14 (by decide) (hG _ gw_9_39) (fun _ h => h) rfl d_Mo_empty_22 ?_
  refine lv_iload_n hx hb d_Mo_empty_25 rfl (lv_at hl 1 rfl) ?_
  refine lv_iconst (v := nI 0) hx hb d_Mo_empty_26 (by decide +kernel) ?_
  obtain ⟨f24, he23⟩ := rd_M14 hSh
  refine aw_istI hx hb hK hP hD hS 81 0 he23 rfl (k := j) (by omega) (by decide) d_Mo_empty_27 (wr_M14 hSh _) (fun H locs L hP hD hSh hS => ?_)
  exact W.vret hx hb hr (fun t ht hW => ⟨⟨(), rfl, trivial, aw_Hr ht hP hD hSh⟩, hS.F ht⟩) hS.2.2 d_Mo_empty_28
abbrev ws_Mo_isKeyed1 : List Cond := Cond.code y_Mo_isKeyed b_Mo_isKeyed 2 (some .boolean) :: aw_G
abbrev rm_Mo_isKeyed1 : Room := { frames := 0, cells := 0, slots := 0, locals := 0 }
set_option maxHeartbeats 4000000 in
set_option maxRecDepth 100000 in
theorem k_Mo_isKeyed1 (l : Launch) (D : va_G) (g : Nat → ClassId) (ad : Nat → Nat) (G M : Nat → Nat × Nat) (F : Int32) (N0 : Nat) (j : Nat) (hj : j < 4) (hs : 2 ≤ (M j).1) : Met l y_Mo_isKeyed ws_Mo_isKeyed1 rm_Mo_isKeyed1 (va_Pc ([.ref (aw_m ad 0), .int (nI j)] : List Value) (aw_B D g ad G M F N0)) (va_Qi (fun r (_ : Unit) => r = nI 1) (fun (_ : Unit) t => aw_H D g ad G M F N0 t.heap) (aw_Z N0)) 0 0 (aw_Z N0) := by
  refine Met.ofW (cc := b_Mo_isKeyed) (maxL := 2) (ret := (some .boolean)) (by decide) rfl ?_
  intro p e s m args below meth c s₁ B hml hv
  obtain ⟨rfl, ⟨L, hP, hD, hSh⟩, hU⟩ := hv
  have hx := B.exec
  have hb := B.bytes
  have hr := B.returns
  have hG : ∀ w ∈ aw_G, w.before _ s = true := fun w h => atoms_spec (ws := ws_Mo_isKeyed1) B.pre w (List.mem_cons_of_mem _ h)
  have hown : s.vm.findClass "RuleCiphersModel" = some m.cls := findClass_of_methodNamed B.named
  have hlocks := B.notSynchronized
  have hE := hU.1
  have hK := hE.1
  have hN := hE.2.1
  have hS : va_S (aw_Z N0) s.heap s.heap [] := va_S.rf
  have hl := lv_entry ([.ref (aw_m ad 0), .int (nI j)] : List Value) (n := 2) (Nat.le_of_ble_eq_true rfl)
  rw [lg_entry_eq]
  generalize (lg_sl ([.ref (aw_m ad 0), .int (nI j)] : List Value) ++ List.replicate (2 - (lg_sl ([.ref (aw_m ad 0), .int (nI j)] : List Value)).length) Slot.unset).toArray = ls at hl ⊢
  have hl : lv_has ls 2 [(0, .ref (aw_m ad 0)), (1, .int (nI j))] := hl
  refine lv_aload_n hx hb d_Mo_isKeyed_0 rfl (lv_at hl 0 rfl) ?_
  obtain ⟨x2, o3, hw4, he1⟩ := rd_M0 hSh
  refine va_get (C := R_Mo) (T := T_Mo) (N := 19) (v := .ref (aw_m ad 2)) hx hb hG in_Mo hown hK hP 67 he1 rfl 2 (by decide) (hG _ gw_9_27) (fun _ h => h) rfl d_Mo_isKeyed_1 ?_
  refine lv_iload_n hx hb d_Mo_isKeyed_4 rfl (lv_at hl 1 rfl) ?_
  obtain ⟨f6, hc7, he5⟩ := rd_M2 hSh
  refine aw_ild hx hb hK hP 69 0 he5 rfl (k := j) (by omega) (by decide) d_Mo_isKeyed_5 ?_
  refine aw_ti (y := nI (M j).1) (hc7 _ (by omega)) ?_
  have hm := hSh.2.2.2.2.2 j (by omega)
  refine lv_iconst (v := nI 2) hx hb d_Mo_isKeyed_6 (by decide +kernel) ?_
  refine lv_icmp_lt (tgt := 14) hx hb d_Mo_isKeyed_7 (by decide) (fun h => absurd h (show ¬ nI ((M j).1) < nI 2 from fun h9 => absurd ((nI_ltI (by omega) (by omega)).mp h9) (by omega))) (fun _ => ?_)
  refine lv_iconst (v := nI 1) hx hb d_Mo_isKeyed_10 (by decide +kernel) ?_
  refine lv_goto (tgt := 15) hx hb d_Mo_isKeyed_11 (by decide) ?_
  exact W.zret hx hb hr (by decide +kernel) (fun t ht hW => ⟨⟨_, (), rfl, rfl, aw_Hr ht hP hD hSh⟩, hS.F ht⟩) hS.2.2 d_Mo_isKeyed_15
abbrev ws_Mo_isKeyed0 : List Cond := Cond.code y_Mo_isKeyed b_Mo_isKeyed 2 (some .boolean) :: aw_G
abbrev rm_Mo_isKeyed0 : Room := { frames := 0, cells := 0, slots := 0, locals := 0 }
set_option maxHeartbeats 4000000 in
set_option maxRecDepth 100000 in
theorem k_Mo_isKeyed0 (l : Launch) (D : va_G) (g : Nat → ClassId) (ad : Nat → Nat) (G M : Nat → Nat × Nat) (F : Int32) (N0 : Nat) (j : Nat) (hj : j < 4) (hs : (M j).1 ≤ 1) : Met l y_Mo_isKeyed ws_Mo_isKeyed0 rm_Mo_isKeyed0 (va_Pc ([.ref (aw_m ad 0), .int (nI j)] : List Value) (aw_B D g ad G M F N0)) (va_Qi (fun r (_ : Unit) => r = nI 0) (fun (_ : Unit) t => aw_H D g ad G M F N0 t.heap) (aw_Z N0)) 0 0 (aw_Z N0) := by
  refine Met.ofW (cc := b_Mo_isKeyed) (maxL := 2) (ret := (some .boolean)) (by decide) rfl ?_
  intro p e s m args below meth c s₁ B hml hv
  obtain ⟨rfl, ⟨L, hP, hD, hSh⟩, hU⟩ := hv
  have hx := B.exec
  have hb := B.bytes
  have hr := B.returns
  have hG : ∀ w ∈ aw_G, w.before _ s = true := fun w h => atoms_spec (ws := ws_Mo_isKeyed0) B.pre w (List.mem_cons_of_mem _ h)
  have hown : s.vm.findClass "RuleCiphersModel" = some m.cls := findClass_of_methodNamed B.named
  have hlocks := B.notSynchronized
  have hE := hU.1
  have hK := hE.1
  have hN := hE.2.1
  have hS : va_S (aw_Z N0) s.heap s.heap [] := va_S.rf
  have hl := lv_entry ([.ref (aw_m ad 0), .int (nI j)] : List Value) (n := 2) (Nat.le_of_ble_eq_true rfl)
  rw [lg_entry_eq]
  generalize (lg_sl ([.ref (aw_m ad 0), .int (nI j)] : List Value) ++ List.replicate (2 - (lg_sl ([.ref (aw_m ad 0), .int (nI j)] : List Value)).length) Slot.unset).toArray = ls at hl ⊢
  have hl : lv_has ls 2 [(0, .ref (aw_m ad 0)), (1, .int (nI j))] := hl
  refine lv_aload_n hx hb d_Mo_isKeyed_0 rfl (lv_at hl 0 rfl) ?_
  obtain ⟨x2, o3, hw4, he1⟩ := rd_M0 hSh
  refine va_get (C := R_Mo) (T := T_Mo) (N := 19) (v := .ref (aw_m ad 2)) hx hb hG in_Mo hown hK hP 67 he1 rfl 2 (by decide) (hG _ gw_9_27) (fun _ h => h) rfl d_Mo_isKeyed_1 ?_
  refine lv_iload_n hx hb d_Mo_isKeyed_4 rfl (lv_at hl 1 rfl) ?_
  obtain ⟨f6, hc7, he5⟩ := rd_M2 hSh
  refine aw_ild hx hb hK hP 69 0 he5 rfl (k := j) (by omega) (by decide) d_Mo_isKeyed_5 ?_
  refine aw_ti (y := nI (M j).1) (hc7 _ (by omega)) ?_
  have hm := hSh.2.2.2.2.2 j (by omega)
  refine lv_iconst (v := nI 2) hx hb d_Mo_isKeyed_6 (by decide +kernel) ?_
  refine lv_icmp_lt (tgt := 14) hx hb d_Mo_isKeyed_7 (by decide) (fun _ => ?_) (fun h => absurd (show nI ((M j).1) < nI 2 from (nI_ltI (by omega) (by omega)).mpr (by omega)) h)
  refine lv_iconst (v := nI 0) hx hb d_Mo_isKeyed_14 (by decide +kernel) ?_
  exact W.zret hx hb hr (by decide +kernel) (fun t ht hW => ⟨⟨_, (), rfl, rfl, aw_Hr ht hP hD hSh⟩, hS.F ht⟩) hS.2.2 d_Mo_isKeyed_15
abbrev ws_Mo_wrongTake0 : List Cond := Cond.code y_Mo_wrongTake b_Mo_wrongTake 2 (some .int) :: aw_G
abbrev rm_Mo_wrongTake0 : Room := { frames := 0, cells := 0, slots := 0, locals := 0 }
set_option maxHeartbeats 4000000 in
set_option maxRecDepth 100000 in
theorem k_Mo_wrongTake0 (l : Launch) (D : va_G) (g : Nat → ClassId) (ad : Nat → Nat) (G M : Nat → Nat × Nat) (F : Int32) (N0 : Nat) (j : Nat) (hj : j < 4) (hs : (M j).1 = 3 ∧ (M j).2 = 5) : Met l y_Mo_wrongTake ws_Mo_wrongTake0 rm_Mo_wrongTake0 (va_Pc ([.ref (aw_m ad 0), .int (nI j)] : List Value) (aw_B D g ad G M F N0)) (va_Qi (fun r (_ : Unit) => r = nI 0) (fun (_ : Unit) t => aw_H D g ad G M F N0 t.heap) (aw_Z N0)) 0 0 (aw_Z N0) := by
  refine Met.ofW (cc := b_Mo_wrongTake) (maxL := 2) (ret := (some .int)) (by decide) rfl ?_
  intro p e s m args below meth c s₁ B hml hv
  obtain ⟨rfl, ⟨L, hP, hD, hSh⟩, hU⟩ := hv
  have hx := B.exec
  have hb := B.bytes
  have hr := B.returns
  have hG : ∀ w ∈ aw_G, w.before _ s = true := fun w h => atoms_spec (ws := ws_Mo_wrongTake0) B.pre w (List.mem_cons_of_mem _ h)
  have hown : s.vm.findClass "RuleCiphersModel" = some m.cls := findClass_of_methodNamed B.named
  have hlocks := B.notSynchronized
  have hE := hU.1
  have hK := hE.1
  have hN := hE.2.1
  have hS : va_S (aw_Z N0) s.heap s.heap [] := va_S.rf
  have hl := lv_entry ([.ref (aw_m ad 0), .int (nI j)] : List Value) (n := 2) (Nat.le_of_ble_eq_true rfl)
  rw [lg_entry_eq]
  generalize (lg_sl ([.ref (aw_m ad 0), .int (nI j)] : List Value) ++ List.replicate (2 - (lg_sl ([.ref (aw_m ad 0), .int (nI j)] : List Value)).length) Slot.unset).toArray = ls at hl ⊢
  have hl : lv_has ls 2 [(0, .ref (aw_m ad 0)), (1, .int (nI j))] := hl
  refine lv_aload_n hx hb d_Mo_wrongTake_0 rfl (lv_at hl 0 rfl) ?_
  obtain ⟨x2, o3, hw4, he1⟩ := rd_M0 hSh
  refine va_get (C := R_Mo) (T := T_Mo) (N := 19) (v := .ref (aw_m ad 2)) hx hb hG in_Mo hown hK hP 67 he1 rfl 2 (by decide) (hG _ gw_9_27) (fun _ h => h) rfl d_Mo_wrongTake_1 ?_
  refine lv_iload_n hx hb d_Mo_wrongTake_4 rfl (lv_at hl 1 rfl) ?_
  obtain ⟨f6, hc7, he5⟩ := rd_M2 hSh
  refine aw_ild hx hb hK hP 69 0 he5 rfl (k := j) (by omega) (by decide) d_Mo_wrongTake_5 ?_
  refine aw_ti (y := nI (M j).1) (hc7 _ (by omega)) ?_
  have hm := hSh.2.2.2.2.2 j (by omega)
  refine lv_iconst (v := nI 3) hx hb d_Mo_wrongTake_6 (by decide +kernel) ?_
  refine lv_icmp_ne (tgt := 20) hx hb d_Mo_wrongTake_7 (by decide) (fun h => absurd (show nI ((M j).1) = nI 3 from (nI_eq (by omega) (by omega)).mpr (by omega)) h) (fun _ => ?_)
  refine lv_aload_n hx hb d_Mo_wrongTake_10 rfl (lv_at hl 0 rfl) ?_
  obtain ⟨x9, o10, hw11, he8⟩ := rd_M0 hSh
  refine va_get (C := R_Mo) (T := T_Mo) (N := 19) (v := .ref (aw_m ad 6)) hx hb hG in_Mo hown hK hP 67 he8 rfl 6 (by decide) (hG _ gw_9_31) (fun _ h => h) rfl d_Mo_wrongTake_11 ?_
  refine lv_iload_n hx hb d_Mo_wrongTake_14 rfl (lv_at hl 1 rfl) ?_
  obtain ⟨f13, hc14, he12⟩ := rd_M6 hSh
  refine aw_ild hx hb hK hP 73 0 he12 rfl (k := j) (by omega) (by decide) d_Mo_wrongTake_15 ?_
  refine aw_ti (y := nI (M j).2) (hc14 _ (by omega)) ?_
  have hm := hSh.2.2.2.2.2 j (by omega)
  refine lv_iconst (v := nI 5) hx hb d_Mo_wrongTake_16 (by decide +kernel) ?_
  refine lv_icmp_eq (tgt := 24) hx hb d_Mo_wrongTake_17 (by decide) (fun _ => ?_) (fun h => absurd (show nI ((M j).2) = nI 5 from (nI_eq (by omega) (by omega)).mpr (by omega)) h)
  refine lv_iconst (v := nI 0) hx hb d_Mo_wrongTake_24 (by decide +kernel) ?_
  exact W.iret hx hb hr (fun t ht hW => ⟨⟨_, (), rfl, rfl, aw_Hr ht hP hD hSh⟩, hS.F ht⟩) hS.2.2 d_Mo_wrongTake_25
abbrev ws_Mo_wrongTake2 : List Cond := Cond.code y_Mo_wrongTake b_Mo_wrongTake 2 (some .int) :: aw_G
abbrev rm_Mo_wrongTake2 : Room := { frames := 0, cells := 0, slots := 0, locals := 0 }
set_option maxHeartbeats 4000000 in
set_option maxRecDepth 100000 in
theorem k_Mo_wrongTake2 (l : Launch) (D : va_G) (g : Nat → ClassId) (ad : Nat → Nat) (G M : Nat → Nat × Nat) (F : Int32) (N0 : Nat) (j : Nat) (hj : j < 4) (hs : (M j).1 ≤ 2 ∨ ((M j).1 = 3 ∧ (M j).2 ≠ 5)) : Met l y_Mo_wrongTake ws_Mo_wrongTake2 rm_Mo_wrongTake2 (va_Pc ([.ref (aw_m ad 0), .int (nI j)] : List Value) (aw_B D g ad G M F N0)) (va_Qi (fun r (_ : Unit) => r = nI 2) (fun (_ : Unit) t => aw_H D g ad G M F N0 t.heap) (aw_Z N0)) 0 0 (aw_Z N0) := by
  refine Met.ofW (cc := b_Mo_wrongTake) (maxL := 2) (ret := (some .int)) (by decide) rfl ?_
  intro p e s m args below meth c s₁ B hml hv
  obtain ⟨rfl, ⟨L, hP, hD, hSh⟩, hU⟩ := hv
  have hx := B.exec
  have hb := B.bytes
  have hr := B.returns
  have hG : ∀ w ∈ aw_G, w.before _ s = true := fun w h => atoms_spec (ws := ws_Mo_wrongTake2) B.pre w (List.mem_cons_of_mem _ h)
  have hown : s.vm.findClass "RuleCiphersModel" = some m.cls := findClass_of_methodNamed B.named
  have hlocks := B.notSynchronized
  have hE := hU.1
  have hK := hE.1
  have hN := hE.2.1
  have hS : va_S (aw_Z N0) s.heap s.heap [] := va_S.rf
  have hl := lv_entry ([.ref (aw_m ad 0), .int (nI j)] : List Value) (n := 2) (Nat.le_of_ble_eq_true rfl)
  rw [lg_entry_eq]
  generalize (lg_sl ([.ref (aw_m ad 0), .int (nI j)] : List Value) ++ List.replicate (2 - (lg_sl ([.ref (aw_m ad 0), .int (nI j)] : List Value)).length) Slot.unset).toArray = ls at hl ⊢
  have hl : lv_has ls 2 [(0, .ref (aw_m ad 0)), (1, .int (nI j))] := hl
  rcases hs with hs | hs
  · refine lv_aload_n hx hb d_Mo_wrongTake_0 rfl (lv_at hl 0 rfl) ?_
    obtain ⟨x2, o3, hw4, he1⟩ := rd_M0 hSh
    refine va_get (C := R_Mo) (T := T_Mo) (N := 19) (v := .ref (aw_m ad 2)) hx hb hG in_Mo hown hK hP 67 he1 rfl 2 (by decide) (hG _ gw_9_27) (fun _ h => h) rfl d_Mo_wrongTake_1 ?_
    refine lv_iload_n hx hb d_Mo_wrongTake_4 rfl (lv_at hl 1 rfl) ?_
    obtain ⟨f6, hc7, he5⟩ := rd_M2 hSh
    refine aw_ild hx hb hK hP 69 0 he5 rfl (k := j) (by omega) (by decide) d_Mo_wrongTake_5 ?_
    refine aw_ti (y := nI (M j).1) (hc7 _ (by omega)) ?_
    have hm := hSh.2.2.2.2.2 j (by omega)
    refine lv_iconst (v := nI 3) hx hb d_Mo_wrongTake_6 (by decide +kernel) ?_
    refine lv_icmp_ne (tgt := 20) hx hb d_Mo_wrongTake_7 (by decide) (fun _ => ?_) (fun h => absurd h (show ¬ nI ((M j).1) = nI 3 from fun h9 => absurd ((nI_eq (by omega) (by omega)).mp h9) (by omega)))
    refine lv_iconst (v := nI 2) hx hb d_Mo_wrongTake_20 (by decide +kernel) ?_
    refine lv_goto (tgt := 25) hx hb d_Mo_wrongTake_21 (by decide) ?_
    exact W.iret hx hb hr (fun t ht hW => ⟨⟨_, (), rfl, rfl, aw_Hr ht hP hD hSh⟩, hS.F ht⟩) hS.2.2 d_Mo_wrongTake_25
  · refine lv_aload_n hx hb d_Mo_wrongTake_0 rfl (lv_at hl 0 rfl) ?_
    obtain ⟨x9, o10, hw11, he8⟩ := rd_M0 hSh
    refine va_get (C := R_Mo) (T := T_Mo) (N := 19) (v := .ref (aw_m ad 2)) hx hb hG in_Mo hown hK hP 67 he8 rfl 2 (by decide) (hG _ gw_9_27) (fun _ h => h) rfl d_Mo_wrongTake_1 ?_
    refine lv_iload_n hx hb d_Mo_wrongTake_4 rfl (lv_at hl 1 rfl) ?_
    obtain ⟨f13, hc14, he12⟩ := rd_M2 hSh
    refine aw_ild hx hb hK hP 69 0 he12 rfl (k := j) (by omega) (by decide) d_Mo_wrongTake_5 ?_
    refine aw_ti (y := nI (M j).1) (hc14 _ (by omega)) ?_
    have hm := hSh.2.2.2.2.2 j (by omega)
    refine lv_iconst (v := nI 3) hx hb d_Mo_wrongTake_6 (by decide +kernel) ?_
    refine lv_icmp_ne (tgt := 20) hx hb d_Mo_wrongTake_7 (by decide) (fun h => absurd (show nI ((M j).1) = nI 3 from (nI_eq (by omega) (by omega)).mpr (by omega)) h) (fun _ => ?_)
    refine lv_aload_n hx hb d_Mo_wrongTake_10 rfl (lv_at hl 0 rfl) ?_
    obtain ⟨x16, o17, hw18, he15⟩ := rd_M0 hSh
    refine va_get (C := R_Mo) (T := T_Mo) (N := 19) (v := .ref (aw_m ad 6)) hx hb hG in_Mo hown hK hP 67 he15 rfl 6 (by decide) (hG _ gw_9_31) (fun _ h => h) rfl d_Mo_wrongTake_11 ?_
    refine lv_iload_n hx hb d_Mo_wrongTake_14 rfl (lv_at hl 1 rfl) ?_
    obtain ⟨f20, hc21, he19⟩ := rd_M6 hSh
    refine aw_ild hx hb hK hP 73 0 he19 rfl (k := j) (by omega) (by decide) d_Mo_wrongTake_15 ?_
    refine aw_ti (y := nI (M j).2) (hc21 _ (by omega)) ?_
    have hm := hSh.2.2.2.2.2 j (by omega)
    refine lv_iconst (v := nI 5) hx hb d_Mo_wrongTake_16 (by decide +kernel) ?_
    refine lv_icmp_eq (tgt := 24) hx hb d_Mo_wrongTake_17 (by decide) (fun h => absurd h (show ¬ nI ((M j).2) = nI 5 from fun h9 => absurd ((nI_eq (by omega) (by omega)).mp h9) (by omega))) (fun _ => ?_)
    refine lv_iconst (v := nI 2) hx hb d_Mo_wrongTake_20 (by decide +kernel) ?_
    refine lv_goto (tgt := 25) hx hb d_Mo_wrongTake_21 (by decide) ?_
    exact W.iret hx hb hr (fun t ht hW => ⟨⟨_, (), rfl, rfl, aw_Hr ht hP hD hSh⟩, hS.F ht⟩) hS.2.2 d_Mo_wrongTake_25
