noncomputable def v_Ci_onV (zA : Nat → Nat → Nat → Int32) (j : Nat) (o : Nat) (b : Int64) : Int64 := if o = 2 then v_Rc_onV zA j b else if o = 5 then v_Xt_onV zA j b else if o = 7 then v_Sp_onV zA j b else if o = 10 then v_Si_onV zA j b else v_Id_onV zA j b
theorem v_Ci_onV_2 (zA : Nat → Nat → Nat → Int32) (j : Nat) (b : Int64) : v_Ci_onV zA j 2 b = v_Rc_onV zA j b := by
  unfold v_Ci_onV
  rw [if_pos (show 2 = 2 by decide)]
theorem v_Ci_onV_5 (zA : Nat → Nat → Nat → Int32) (j : Nat) (b : Int64) : v_Ci_onV zA j 5 b = v_Xt_onV zA j b := by
  unfold v_Ci_onV
  rw [if_neg (show ¬ 5 = 2 by decide), if_pos (show 5 = 5 by decide)]
theorem v_Ci_onV_7 (zA : Nat → Nat → Nat → Int32) (j : Nat) (b : Int64) : v_Ci_onV zA j 7 b = v_Sp_onV zA j b := by
  unfold v_Ci_onV
  rw [if_neg (show ¬ 7 = 2 by decide), if_neg (show ¬ 7 = 5 by decide), if_pos (show 7 = 7 by decide)]
theorem v_Ci_onV_10 (zA : Nat → Nat → Nat → Int32) (j : Nat) (b : Int64) : v_Ci_onV zA j 10 b = v_Si_onV zA j b := by
  unfold v_Ci_onV
  rw [if_neg (show ¬ 10 = 2 by decide), if_neg (show ¬ 10 = 5 by decide), if_neg (show ¬ 10 = 7 by decide), if_pos (show 10 = 10 by decide)]
theorem v_Ci_onV_12 (zA : Nat → Nat → Nat → Int32) (j : Nat) (b : Int64) : v_Ci_onV zA j 12 b = v_Id_onV zA j b := by
  unfold v_Ci_onV
  rw [if_neg (show ¬ 12 = 2 by decide), if_neg (show ¬ 12 = 5 by decide), if_neg (show ¬ 12 = 7 by decide), if_neg (show ¬ 12 = 10 by decide)]
noncomputable def v_Ci_backV (zA : Nat → Nat → Nat → Int32) (j : Nat) (o : Nat) (b : Int64) : Int64 := if o = 2 then v_Rc_backV zA j b else if o = 5 then v_Xt_backV zA j b else if o = 7 then v_Sp_backV zA j b else if o = 10 then v_Si_backV zA j b else v_Id_backV zA j b
theorem v_Ci_backV_2 (zA : Nat → Nat → Nat → Int32) (j : Nat) (b : Int64) : v_Ci_backV zA j 2 b = v_Rc_backV zA j b := by
  unfold v_Ci_backV
  rw [if_pos (show 2 = 2 by decide)]
theorem v_Ci_backV_5 (zA : Nat → Nat → Nat → Int32) (j : Nat) (b : Int64) : v_Ci_backV zA j 5 b = v_Xt_backV zA j b := by
  unfold v_Ci_backV
  rw [if_neg (show ¬ 5 = 2 by decide), if_pos (show 5 = 5 by decide)]
theorem v_Ci_backV_7 (zA : Nat → Nat → Nat → Int32) (j : Nat) (b : Int64) : v_Ci_backV zA j 7 b = v_Sp_backV zA j b := by
  unfold v_Ci_backV
  rw [if_neg (show ¬ 7 = 2 by decide), if_neg (show ¬ 7 = 5 by decide), if_pos (show 7 = 7 by decide)]
theorem v_Ci_backV_10 (zA : Nat → Nat → Nat → Int32) (j : Nat) (b : Int64) : v_Ci_backV zA j 10 b = v_Si_backV zA j b := by
  unfold v_Ci_backV
  rw [if_neg (show ¬ 10 = 2 by decide), if_neg (show ¬ 10 = 5 by decide), if_neg (show ¬ 10 = 7 by decide), if_pos (show 10 = 10 by decide)]
theorem v_Ci_backV_12 (zA : Nat → Nat → Nat → Int32) (j : Nat) (b : Int64) : v_Ci_backV zA j 12 b = v_Id_backV zA j b := by
  unfold v_Ci_backV
  rw [if_neg (show ¬ 12 = 2 by decide), if_neg (show ¬ 12 = 5 by decide), if_neg (show ¬ 12 = 7 by decide), if_neg (show ¬ 12 = 10 by decide)]
noncomputable def v_Ci_scheduleV_zA (zA : Nat → Nat → Nat → Int32) (j : Nat) (o : Nat) (a : Int64) (b : Int64) : Nat → Nat → Nat → Int32 := if o = 2 then v_Rc_scheduleV_zA zA j a b else if o = 5 then v_Xt_scheduleV_zA zA j a b else if o = 7 then v_Sp_scheduleV_zA zA j a b else if o = 10 then v_Si_scheduleV_zA zA j a b else v_Id_scheduleV_zA zA j a b
theorem v_Ci_scheduleV_zA_2 (zA : Nat → Nat → Nat → Int32) (j : Nat) (a : Int64) (b : Int64) : v_Ci_scheduleV_zA zA j 2 a b = v_Rc_scheduleV_zA zA j a b := by
  unfold v_Ci_scheduleV_zA
  rw [if_pos (show 2 = 2 by decide)]
theorem v_Ci_scheduleV_zA_5 (zA : Nat → Nat → Nat → Int32) (j : Nat) (a : Int64) (b : Int64) : v_Ci_scheduleV_zA zA j 5 a b = v_Xt_scheduleV_zA zA j a b := by
  unfold v_Ci_scheduleV_zA
  rw [if_neg (show ¬ 5 = 2 by decide), if_pos (show 5 = 5 by decide)]
theorem v_Ci_scheduleV_zA_7 (zA : Nat → Nat → Nat → Int32) (j : Nat) (a : Int64) (b : Int64) : v_Ci_scheduleV_zA zA j 7 a b = v_Sp_scheduleV_zA zA j a b := by
  unfold v_Ci_scheduleV_zA
  rw [if_neg (show ¬ 7 = 2 by decide), if_neg (show ¬ 7 = 5 by decide), if_pos (show 7 = 7 by decide)]
theorem v_Ci_scheduleV_zA_10 (zA : Nat → Nat → Nat → Int32) (j : Nat) (a : Int64) (b : Int64) : v_Ci_scheduleV_zA zA j 10 a b = v_Si_scheduleV_zA zA j a b := by
  unfold v_Ci_scheduleV_zA
  rw [if_neg (show ¬ 10 = 2 by decide), if_neg (show ¬ 10 = 5 by decide), if_neg (show ¬ 10 = 7 by decide), if_pos (show 10 = 10 by decide)]
theorem v_Ci_scheduleV_zA_12 (zA : Nat → Nat → Nat → Int32) (j : Nat) (a : Int64) (b : Int64) : v_Ci_scheduleV_zA zA j 12 a b = v_Id_scheduleV_zA zA j a b := by
  unfold v_Ci_scheduleV_zA
  rw [if_neg (show ¬ 12 = 2 by decide), if_neg (show ¬ 12 = 5 by decide), if_neg (show ¬ 12 = 7 by decide), if_neg (show ¬ 12 = 10 by decide)]
abbrev ws_Ru_requirePlace1 : List Cond := Cond.code y_Ru_requirePlace b_Ru_requirePlace 1 none :: aw_G
abbrev rm_Ru_requirePlace1 : Room := { frames := 0, cells := 0, slots := 0, locals := 0 }
set_option maxHeartbeats 4000000 in
set_option maxRecDepth 100000 in
theorem k_Ru_requirePlace1 (l : Launch) (k : Nat) (hk : k < 64) : Met l y_Ru_requirePlace ws_Ru_requirePlace1 rm_Ru_requirePlace1 (va_Pc ([.int (nI k)] : List Value) (fun _ => True)) aw_RV 0 0 (fun _ => False) := by
  refine Met.ofW (cc := b_Ru_requirePlace) (maxL := 1) (ret := none) (by decide) rfl ?_
  intro p e s m args below meth c s₁ B hml hv
  obtain ⟨rfl, -⟩ := hv
  have hx := B.exec
  have hb := B.bytes
  have hr := B.returns
  have hG : ∀ w ∈ aw_G, w.before _ s = true := fun w h => atoms_spec (ws := ws_Ru_requirePlace1) B.pre w (List.mem_cons_of_mem _ h)
  have hown : s.vm.findClass "RuleCiphers" = some m.cls := findClass_of_methodNamed B.named
  have hlocks := B.notSynchronized
  have hl := lv_entry ([.int (nI k)] : List Value) (n := 1) (Nat.le_of_ble_eq_true rfl)
  rw [lg_entry_eq]
  generalize (lg_sl ([.int (nI k)] : List Value) ++ List.replicate (1 - (lg_sl ([.int (nI k)] : List Value)).length) Slot.unset).toArray = ls at hl ⊢
  have hl : lv_has ls 1 [(0, .int (nI k))] := hl
  refine lv_iload_n hx hb d_Ru_requirePlace_0 rfl (lv_at hl 0 rfl) ?_
  refine lv_if_lt (tgt := 10) hx hb d_Ru_requirePlace_1 (by decide) (fun h => absurd h (show ¬ nI k < nI 0 from fun h9 => absurd ((nI_ltI (by omega) (by omega)).mp h9) (by omega))) (fun _ => ?_)
  refine lv_iload_n hx hb d_Ru_requirePlace_4 rfl (lv_at hl 0 rfl) ?_
  refine lv_bipush (v := nI 64) hx hb d_Ru_requirePlace_5 (by decide +kernel) ?_
  refine lv_icmp_lt (tgt := 20) hx hb d_Ru_requirePlace_7 (by decide) (fun _ => ?_) (fun h => absurd (show nI k < nI 64 from (nI_ltI (by omega) (by omega)).mpr (by omega)) h)
  exact W.vret hx hb hr (fun t ht hW => ⟨rfl, ht⟩) (fun q h => nomatch h) d_Ru_requirePlace_20
abbrev ws_Ru_requireInBuffer0 : List Cond := Cond.code y_Ru_requireInBuffer b_Ru_requireInBuffer 3 none :: aw_G
abbrev rm_Ru_requireInBuffer0 : Room := { frames := 0, cells := 0, slots := 0, locals := 0 }
set_option maxHeartbeats 4000000 in
set_option maxRecDepth 100000 in
theorem k_Ru_requireInBuffer0 (l : Launch) (fr : Int32) : Met l y_Ru_requireInBuffer ws_Ru_requireInBuffer0 rm_Ru_requireInBuffer0 (va_Pc ([.int fr, .int (nI 0)] : List Value) (fun _ => True)) aw_RV 0 0 (fun _ => False) := by
  refine Met.ofW (cc := b_Ru_requireInBuffer) (maxL := 3) (ret := none) (by decide) rfl ?_
  intro p e s m args below meth c s₁ B hml hv
  obtain ⟨rfl, -⟩ := hv
  have hx := B.exec
  have hb := B.bytes
  have hr := B.returns
  have hG : ∀ w ∈ aw_G, w.before _ s = true := fun w h => atoms_spec (ws := ws_Ru_requireInBuffer0) B.pre w (List.mem_cons_of_mem _ h)
  have hown : s.vm.findClass "RuleCiphers" = some m.cls := findClass_of_methodNamed B.named
  have hlocks := B.notSynchronized
  have hl := lv_entry ([.int fr, .int (nI 0)] : List Value) (n := 3) (Nat.le_of_ble_eq_true rfl)
  rw [lg_entry_eq]
  generalize (lg_sl ([.int fr, .int (nI 0)] : List Value) ++ List.replicate (3 - (lg_sl ([.int fr, .int (nI 0)] : List Value)).length) Slot.unset).toArray = ls at hl ⊢
  have hl : lv_has ls 3 [(0, .int fr), (1, .int (nI 0))] := hl
  refine lv_iload_n hx hb d_Ru_requireInBuffer_0 rfl (lv_at hl 1 rfl) ?_
  refine lv_if_le (tgt := 20) hx hb d_Ru_requireInBuffer_1 (by decide) (fun _ => ?_) (fun h => absurd (by decide +kernel) h)
  refine lv_iconst (v := nI 0) hx hb d_Ru_requireInBuffer_20 (by decide +kernel) ?_
  refine lv_istore_n hx hb d_Ru_requireInBuffer_21 rfl hl (by decide) rfl (fun ls hl => ?_)
  have hl : lv_has ls 3 [(2, .int (nI 0)), (0, .int fr), (1, .int (nI 0))] := hl
  refine lv_iload_n hx hb d_Ru_requireInBuffer_22 rfl (lv_at hl 2 rfl) ?_
  refine lv_if_lt (tgt := 30) hx hb d_Ru_requireInBuffer_23 (by decide) (fun h => absurd h (by decide +kernel)) (fun _ => ?_)
  refine lv_iload_n hx hb d_Ru_requireInBuffer_26 rfl (lv_at hl 0 rfl) ?_
  refine lv_if_eq (tgt := 40) hx hb d_Ru_requireInBuffer_27 (by decide) (fun _ => ?_) (fun h => absurd (by decide +kernel) h)
  exact W.vret hx hb hr (fun t ht hW => ⟨rfl, ht⟩) (fun q h => nomatch h) d_Ru_requireInBuffer_40
abbrev ws_Ru_requireInBuffer1 : List Cond := Cond.code y_Ru_requireInBuffer b_Ru_requireInBuffer 3 none :: aw_G
abbrev rm_Ru_requireInBuffer1 : Room := { frames := 0, cells := 0, slots := 0, locals := 0 }
set_option maxHeartbeats 4000000 in
set_option maxRecDepth 100000 in
theorem k_Ru_requireInBuffer1 (l : Launch) (k : Nat) (mm : Nat) (h0 : 0 < mm) (hk : k + mm ≤ 64) : Met l y_Ru_requireInBuffer ws_Ru_requireInBuffer1 rm_Ru_requireInBuffer1 (va_Pc ([.int (nI k), .int (nI mm)] : List Value) (fun _ => True)) aw_RV 0 0 (fun _ => False) := by
  refine Met.ofW (cc := b_Ru_requireInBuffer) (maxL := 3) (ret := none) (by decide) rfl ?_
  intro p e s m args below meth c s₁ B hml hv
  obtain ⟨rfl, -⟩ := hv
  have hx := B.exec
  have hb := B.bytes
  have hr := B.returns
  have hG : ∀ w ∈ aw_G, w.before _ s = true := fun w h => atoms_spec (ws := ws_Ru_requireInBuffer1) B.pre w (List.mem_cons_of_mem _ h)
  have hown : s.vm.findClass "RuleCiphers" = some m.cls := findClass_of_methodNamed B.named
  have hlocks := B.notSynchronized
  have hl := lv_entry ([.int (nI k), .int (nI mm)] : List Value) (n := 3) (Nat.le_of_ble_eq_true rfl)
  rw [lg_entry_eq]
  generalize (lg_sl ([.int (nI k), .int (nI mm)] : List Value) ++ List.replicate (3 - (lg_sl ([.int (nI k), .int (nI mm)] : List Value)).length) Slot.unset).toArray = ls at hl ⊢
  have hl : lv_has ls 3 [(0, .int (nI k)), (1, .int (nI mm))] := hl
  refine lv_iload_n hx hb d_Ru_requireInBuffer_0 rfl (lv_at hl 1 rfl) ?_
  refine lv_if_le (tgt := 20) hx hb d_Ru_requireInBuffer_1 (by decide) (fun h => absurd h (show ¬ nI mm ≤ nI 0 from fun h9 => absurd ((nI_leI (by omega) (by omega)).mp h9) (by omega))) (fun _ => ?_)
  refine lv_iload_n hx hb d_Ru_requireInBuffer_4 rfl (lv_at hl 0 rfl) ?_
  refine lv_if_lt (tgt := 16) hx hb d_Ru_requireInBuffer_5 (by decide) (fun h => absurd h (show ¬ nI k < nI 0 from fun h9 => absurd ((nI_ltI (by omega) (by omega)).mp h9) (by omega))) (fun _ => ?_)
  refine lv_iload_n hx hb d_Ru_requireInBuffer_8 rfl (lv_at hl 1 rfl) ?_
  refine lv_bipush (v := nI 64) hx hb d_Ru_requireInBuffer_9 (by decide +kernel) ?_
  refine lv_iload_n hx hb d_Ru_requireInBuffer_11 rfl (lv_at hl 0 rfl) ?_
  refine lv_isub hx hb d_Ru_requireInBuffer_12 ?_
  refine aw_ti (pk_sub (a := 64) (b := k) (by omega)) ?_
  refine lv_icmp_le (tgt := 20) hx hb d_Ru_requireInBuffer_13 (by decide) (fun _ => ?_) (fun h => absurd (show nI mm ≤ nI (64 - k) from (nI_leI (by omega) (by omega)).mpr (by omega)) h)
  refine lv_iconst (v := nI 0) hx hb d_Ru_requireInBuffer_20 (by decide +kernel) ?_
  refine lv_istore_n hx hb d_Ru_requireInBuffer_21 rfl hl (by decide) rfl (fun ls hl => ?_)
  have hl : lv_has ls 3 [(2, .int (nI 0)), (0, .int (nI k)), (1, .int (nI mm))] := hl
  refine lv_iload_n hx hb d_Ru_requireInBuffer_22 rfl (lv_at hl 2 rfl) ?_
  refine lv_if_lt (tgt := 30) hx hb d_Ru_requireInBuffer_23 (by decide) (fun h => absurd h (show ¬ nI mm < nI 0 from fun h9 => absurd ((nI_ltI (by omega) (by omega)).mp h9) (by omega))) (fun _ => ?_)
  refine lv_iload_n hx hb d_Ru_requireInBuffer_26 rfl (lv_at hl 0 rfl) ?_
  refine lv_if_eq (tgt := 40) hx hb d_Ru_requireInBuffer_27 (by decide) (fun _ => ?_) (fun h => absurd (by decide +kernel) h)
  exact W.vret hx hb hr (fun t ht hW => ⟨rfl, ht⟩) (fun q h => nomatch h) d_Ru_requireInBuffer_40
abbrev ws_Mo_isContext1 : List Cond := Cond.code y_Mo_isContext b_Mo_isContext 1 (some .boolean) :: aw_G
abbrev rm_Mo_isContext1 : Room := { frames := 0, cells := 0, slots := 0, locals := 0 }
set_option maxHeartbeats 4000000 in
set_option maxRecDepth 100000 in
theorem k_Mo_isContext1 (l : Launch) (j : Nat) (hj : j < 4) : Met l y_Mo_isContext ws_Mo_isContext1 rm_Mo_isContext1 (va_Pc ([.int (nI j)] : List Value) (fun _ => True)) (aw_RI (fun r => r = nI 1)) 0 0 (fun _ => False) := by
  refine Met.ofW (cc := b_Mo_isContext) (maxL := 1) (ret := (some .boolean)) (by decide) rfl ?_
  intro p e s m args below meth c s₁ B hml hv
  obtain ⟨rfl, -⟩ := hv
  have hx := B.exec
  have hb := B.bytes
  have hr := B.returns
  have hG : ∀ w ∈ aw_G, w.before _ s = true := fun w h => atoms_spec (ws := ws_Mo_isContext1) B.pre w (List.mem_cons_of_mem _ h)
  have hown : s.vm.findClass "RuleCiphersModel" = some m.cls := findClass_of_methodNamed B.named
  have hlocks := B.notSynchronized
  have hl := lv_entry ([.int (nI j)] : List Value) (n := 1) (Nat.le_of_ble_eq_true rfl)
  rw [lg_entry_eq]
  generalize (lg_sl ([.int (nI j)] : List Value) ++ List.replicate (1 - (lg_sl ([.int (nI j)] : List Value)).length) Slot.unset).toArray = ls at hl ⊢
  have hl : lv_has ls 1 [(0, .int (nI j))] := hl
  refine lv_iload_n hx hb d_Mo_isContext_0 rfl (lv_at hl 0 rfl) ?_
  refine lv_if_lt (tgt := 13) hx hb d_Mo_isContext_1 (by decide) (fun h => absurd h (show ¬ nI j < nI 0 from fun h9 => absurd ((nI_ltI (by omega) (by omega)).mp h9) (by omega))) (fun _ => ?_)
  refine lv_iload_n hx hb d_Mo_isContext_4 rfl (lv_at hl 0 rfl) ?_
  refine lv_iconst (v := nI 4) hx hb d_Mo_isContext_5 (by decide +kernel) ?_
  refine lv_icmp_ge (tgt := 13) hx hb d_Mo_isContext_6 (by decide) (fun h => absurd h (show ¬ nI 4 ≤ nI j from fun h9 => absurd ((nI_leI (by omega) (by omega)).mp h9) (by omega))) (fun _ => ?_)
  refine lv_iconst (v := nI 1) hx hb d_Mo_isContext_9 (by decide +kernel) ?_
  refine lv_goto (tgt := 14) hx hb d_Mo_isContext_10 (by decide) ?_
  exact W.zret hx hb hr (by decide +kernel) (fun t ht hW => ⟨_, rfl, rfl, ht⟩) (fun q h => nomatch h) d_Mo_isContext_14
abbrev ws_Mo_isContext0 : List Cond := Cond.code y_Mo_isContext b_Mo_isContext 1 (some .boolean) :: aw_G
abbrev rm_Mo_isContext0 : Room := { frames := 0, cells := 0, slots := 0, locals := 0 }
set_option maxHeartbeats 4000000 in
set_option maxRecDepth 100000 in
theorem k_Mo_isContext0 (l : Launch) (c0 : Int32) (hc : c0 < 0 ∨ (¬ c0 < 0 ∧ ¬ c0 < nI 4)) : Met l y_Mo_isContext ws_Mo_isContext0 rm_Mo_isContext0 (va_Pc ([.int c0] : List Value) (fun _ => True)) (aw_RI (fun r => r = nI 0)) 0 0 (fun _ => False) := by
  refine Met.ofW (cc := b_Mo_isContext) (maxL := 1) (ret := (some .boolean)) (by decide) rfl ?_
  intro p e s m args below meth c s₁ B hml hv
  obtain ⟨rfl, -⟩ := hv
  have hx := B.exec
  have hb := B.bytes
  have hr := B.returns
  have hG : ∀ w ∈ aw_G, w.before _ s = true := fun w h => atoms_spec (ws := ws_Mo_isContext0) B.pre w (List.mem_cons_of_mem _ h)
  have hown : s.vm.findClass "RuleCiphersModel" = some m.cls := findClass_of_methodNamed B.named
  have hlocks := B.notSynchronized
  have hl := lv_entry ([.int c0] : List Value) (n := 1) (Nat.le_of_ble_eq_true rfl)
  rw [lg_entry_eq]
  generalize (lg_sl ([.int c0] : List Value) ++ List.replicate (1 - (lg_sl ([.int c0] : List Value)).length) Slot.unset).toArray = ls at hl ⊢
  have hl : lv_has ls 1 [(0, .int c0)] := hl
  rcases hc with hc | hc
  · refine lv_iload_n hx hb d_Mo_isContext_0 rfl (lv_at hl 0 rfl) ?_
    refine lv_if_lt (tgt := 13) hx hb d_Mo_isContext_1 (by decide) (fun _ => ?_) (fun h => absurd hc h)
    refine lv_iconst (v := nI 0) hx hb d_Mo_isContext_13 (by decide +kernel) ?_
    exact W.zret hx hb hr (by decide +kernel) (fun t ht hW => ⟨_, rfl, rfl, ht⟩) (fun q h => nomatch h) d_Mo_isContext_14
  · refine lv_iload_n hx hb d_Mo_isContext_0 rfl (lv_at hl 0 rfl) ?_
    refine lv_if_lt (tgt := 13) hx hb d_Mo_isContext_1 (by decide) (fun h => absurd h hc.1) (fun _ => ?_)
    refine lv_iload_n hx hb d_Mo_isContext_4 rfl (lv_at hl 0 rfl) ?_
    refine lv_iconst (v := nI 4) hx hb d_Mo_isContext_5 (by decide +kernel) ?_
    refine lv_icmp_ge (tgt := 13) hx hb d_Mo_isContext_6 (by decide) (fun _ => ?_) (fun h => absurd (Int32.not_lt.mp hc.2) h)
    refine lv_iconst (v := nI 0) hx hb d_Mo_isContext_13 (by decide +kernel) ?_
    exact W.zret hx hb hr (by decide +kernel) (fun t ht hW => ⟨_, rfl, rfl, ht⟩) (fun q h => nomatch h) d_Mo_isContext_14
abbrev ws_Mo_isPart1 : List Cond := Cond.code y_Mo_isPart b_Mo_isPart 2 (some .boolean) :: aw_G
abbrev rm_Mo_isPart1 : Room := { frames := 0, cells := 0, slots := 0, locals := 0 }
set_option maxHeartbeats 4000000 in
set_option maxRecDepth 100000 in
theorem k_Mo_isPart1 (l : Launch) (k : Nat) (mm : Nat) (hk : k + mm ≤ 64) : Met l y_Mo_isPart ws_Mo_isPart1 rm_Mo_isPart1 (va_Pc ([.int (nI k), .int (nI mm)] : List Value) (fun _ => True)) (aw_RI (fun r => r = nI 1)) 0 0 (fun _ => False) := by
  refine Met.ofW (cc := b_Mo_isPart) (maxL := 2) (ret := (some .boolean)) (by decide) rfl ?_
  intro p e s m args below meth c s₁ B hml hv
  obtain ⟨rfl, -⟩ := hv
  have hx := B.exec
  have hb := B.bytes
  have hr := B.returns
  have hG : ∀ w ∈ aw_G, w.before _ s = true := fun w h => atoms_spec (ws := ws_Mo_isPart1) B.pre w (List.mem_cons_of_mem _ h)
  have hown : s.vm.findClass "RuleCiphersModel" = some m.cls := findClass_of_methodNamed B.named
  have hlocks := B.notSynchronized
  have hl := lv_entry ([.int (nI k), .int (nI mm)] : List Value) (n := 2) (Nat.le_of_ble_eq_true rfl)
  rw [lg_entry_eq]
  generalize (lg_sl ([.int (nI k), .int (nI mm)] : List Value) ++ List.replicate (2 - (lg_sl ([.int (nI k), .int (nI mm)] : List Value)).length) Slot.unset).toArray = ls at hl ⊢
  have hl : lv_has ls 2 [(0, .int (nI k)), (1, .int (nI mm))] := hl
  refine lv_iload_n hx hb d_Mo_isPart_0 rfl (lv_at hl 0 rfl) ?_
  refine lv_if_lt (tgt := 26) hx hb d_Mo_isPart_1 (by decide) (fun h => absurd h (show ¬ nI k < nI 0 from fun h9 => absurd ((nI_ltI (by omega) (by omega)).mp h9) (by omega))) (fun _ => ?_)
  refine lv_iload_n hx hb d_Mo_isPart_4 rfl (lv_at hl 1 rfl) ?_
  refine lv_if_lt (tgt := 26) hx hb d_Mo_isPart_5 (by decide) (fun h => absurd h (show ¬ nI mm < nI 0 from fun h9 => absurd ((nI_ltI (by omega) (by omega)).mp h9) (by omega))) (fun _ => ?_)
  refine lv_iload_n hx hb d_Mo_isPart_8 rfl (lv_at hl 0 rfl) ?_
  refine lv_bipush (v := nI 64) hx hb d_Mo_isPart_9 (by decide +kernel) ?_
  refine lv_icmp_gt (tgt := 26) hx hb d_Mo_isPart_11 (by decide) (fun h => absurd h (show ¬ nI 64 < nI k from fun h9 => absurd ((nI_ltI (by omega) (by omega)).mp h9) (by omega))) (fun _ => ?_)
  refine lv_iload_n hx hb d_Mo_isPart_14 rfl (lv_at hl 1 rfl) ?_
  refine lv_bipush (v := nI 64) hx hb d_Mo_isPart_15 (by decide +kernel) ?_
  refine lv_iload_n hx hb d_Mo_isPart_17 rfl (lv_at hl 0 rfl) ?_
  refine lv_isub hx hb d_Mo_isPart_18 ?_
  refine aw_ti (pk_sub (a := 64) (b := k) (by omega)) ?_
  refine lv_icmp_gt (tgt := 26) hx hb d_Mo_isPart_19 (by decide) (fun h => absurd h (show ¬ nI (64 - k) < nI mm from fun h9 => absurd ((nI_ltI (by omega) (by omega)).mp h9) (by omega))) (fun _ => ?_)
  refine lv_iconst (v := nI 1) hx hb d_Mo_isPart_22 (by decide +kernel) ?_
  refine lv_goto (tgt := 27) hx hb d_Mo_isPart_23 (by decide) ?_
  exact W.zret hx hb hr (by decide +kernel) (fun t ht hW => ⟨_, rfl, rfl, ht⟩) (fun q h => nomatch h) d_Mo_isPart_27
abbrev ws_Mo_isPart0 : List Cond := Cond.code y_Mo_isPart b_Mo_isPart 2 (some .boolean) :: aw_G
abbrev rm_Mo_isPart0 : Room := { frames := 0, cells := 0, slots := 0, locals := 0 }
set_option maxHeartbeats 4000000 in
set_option maxRecDepth 100000 in
theorem k_Mo_isPart0 (l : Launch) (fr : Int32) (m0 : Int32) (hi : fr < 0 ∨ (¬ fr < 0 ∧ m0 < 0) ∨ (¬ fr < 0 ∧ ¬ m0 < 0 ∧ nI 64 < fr) ∨ (¬ fr < 0 ∧ ¬ m0 < 0 ∧ ¬ nI 64 < fr ∧ nI 64 - fr < m0)) : Met l y_Mo_isPart ws_Mo_isPart0 rm_Mo_isPart0 (va_Pc ([.int fr, .int m0] : List Value) (fun _ => True)) (aw_RI (fun r => r = nI 0)) 0 0 (fun _ => False) := by
  refine Met.ofW (cc := b_Mo_isPart) (maxL := 2) (ret := (some .boolean)) (by decide) rfl ?_
  intro p e s m args below meth c s₁ B hml hv
  obtain ⟨rfl, -⟩ := hv
  have hx := B.exec
  have hb := B.bytes
  have hr := B.returns
  have hG : ∀ w ∈ aw_G, w.before _ s = true := fun w h => atoms_spec (ws := ws_Mo_isPart0) B.pre w (List.mem_cons_of_mem _ h)
  have hown : s.vm.findClass "RuleCiphersModel" = some m.cls := findClass_of_methodNamed B.named
  have hlocks := B.notSynchronized
  have hl := lv_entry ([.int fr, .int m0] : List Value) (n := 2) (Nat.le_of_ble_eq_true rfl)
  rw [lg_entry_eq]
  generalize (lg_sl ([.int fr, .int m0] : List Value) ++ List.replicate (2 - (lg_sl ([.int fr, .int m0] : List Value)).length) Slot.unset).toArray = ls at hl ⊢
  have hl : lv_has ls 2 [(0, .int fr), (1, .int m0)] := hl
  rcases hi with hi | hi | hi | hi
  · refine lv_iload_n hx hb d_Mo_isPart_0 rfl (lv_at hl 0 rfl) ?_
    refine lv_if_lt (tgt := 26) hx hb d_Mo_isPart_1 (by decide) (fun _ => ?_) (fun h => absurd hi h)
    refine lv_iconst (v := nI 0) hx hb d_Mo_isPart_26 (by decide +kernel) ?_
    exact W.zret hx hb hr (by decide +kernel) (fun t ht hW => ⟨_, rfl, rfl, ht⟩) (fun q h => nomatch h) d_Mo_isPart_27
  · refine lv_iload_n hx hb d_Mo_isPart_0 rfl (lv_at hl 0 rfl) ?_
    refine lv_if_lt (tgt := 26) hx hb d_Mo_isPart_1 (by decide) (fun h => absurd h hi.1) (fun _ => ?_)
    refine lv_iload_n hx hb d_Mo_isPart_4 rfl (lv_at hl 1 rfl) ?_
    refine lv_if_lt (tgt := 26) hx hb d_Mo_isPart_5 (by decide) (fun _ => ?_) (fun h => absurd hi.2 h)
    refine lv_iconst (v := nI 0) hx hb d_Mo_isPart_26 (by decide +kernel) ?_
    exact W.zret hx hb hr (by decide +kernel) (fun t ht hW => ⟨_, rfl, rfl, ht⟩) (fun q h => nomatch h) d_Mo_isPart_27
  · refine lv_iload_n hx hb d_Mo_isPart_0 rfl (lv_at hl 0 rfl) ?_
    refine lv_if_lt (tgt := 26) hx hb d_Mo_isPart_1 (by decide) (fun h => absurd h hi.1) (fun _ => ?_)
    refine lv_iload_n hx hb d_Mo_isPart_4 rfl (lv_at hl 1 rfl) ?_
    refine lv_if_lt (tgt := 26) hx hb d_Mo_isPart_5 (by decide) (fun h => absurd h hi.2.1) (fun _ => ?_)
    refine lv_iload_n hx hb d_Mo_isPart_8 rfl (lv_at hl 0 rfl) ?_
    refine lv_bipush (v := nI 64) hx hb d_Mo_isPart_9 (by decide +kernel) ?_
    refine lv_icmp_gt (tgt := 26) hx hb d_Mo_isPart_11 (by decide) (fun _ => ?_) (fun h => absurd hi.2.2 h)
    refine lv_iconst (v := nI 0) hx hb d_Mo_isPart_26 (by decide +kernel) ?_
    exact W.zret hx hb hr (by decide +kernel) (fun t ht hW => ⟨_, rfl, rfl, ht⟩) (fun q h => nomatch h) d_Mo_isPart_27
  · refine lv_iload_n hx hb d_Mo_isPart_0 rfl (lv_at hl 0 rfl) ?_
    refine lv_if_lt (tgt := 26) hx hb d_Mo_isPart_1 (by decide) (fun h => absurd h hi.1) (fun _ => ?_)
    refine lv_iload_n hx hb d_Mo_isPart_4 rfl (lv_at hl 1 rfl) ?_
    refine lv_if_lt (tgt := 26) hx hb d_Mo_isPart_5 (by decide) (fun h => absurd h hi.2.1) (fun _ => ?_)
    refine lv_iload_n hx hb d_Mo_isPart_8 rfl (lv_at hl 0 rfl) ?_
    refine lv_bipush (v := nI 64) hx hb d_Mo_isPart_9 (by decide +kernel) ?_
    refine lv_icmp_gt (tgt := 26) hx hb d_Mo_isPart_11 (by decide) (fun h => absurd h hi.2.2.1) (fun _ => ?_)
    refine lv_iload_n hx hb d_Mo_isPart_14 rfl (lv_at hl 1 rfl) ?_
    refine lv_bipush (v := nI 64) hx hb d_Mo_isPart_15 (by decide +kernel) ?_
    refine lv_iload_n hx hb d_Mo_isPart_17 rfl (lv_at hl 0 rfl) ?_
    refine lv_isub hx hb d_Mo_isPart_18 ?_
    refine lv_icmp_gt (tgt := 26) hx hb d_Mo_isPart_19 (by decide) (fun _ => ?_) (fun h => absurd hi.2.2.2 h)
    refine lv_iconst (v := nI 0) hx hb d_Mo_isPart_26 (by decide +kernel) ?_
    exact W.zret hx hb hr (by decide +kernel) (fun t ht hW => ⟨_, rfl, rfl, ht⟩) (fun q h => nomatch h) d_Mo_isPart_27
