abbrev ws_Mo_refused0V : List Cond := Cond.code y_Mo_refused b_Mo_refused 2 (some .boolean) :: aw_G
abbrev rm_Mo_refused0V : Room := { frames := 0, cells := 0, slots := 0, locals := 0 }
set_option maxHeartbeats 4000000 in
set_option maxRecDepth 100000 in
theorem k_Mo_refused0V (l : Launch) (D : va_G) (g : Nat → ClassId) (ad : Nat → Nat) (N0 : Nat) (zG : Nat → Nat × Nat) (zO : Nat → Nat) (zX : Nat → Nat → Int64) (zY : Nat → Nat → Int32) (zA : Nat → Nat → Nat → Int32) (zB : Nat → Int32) (zM : Nat → Nat × Nat) (zI : Nat → Nat → Int32) (zL : Nat → Nat → Int64) (zK : Int32) (zN : Nat) (zF : Int32) (zQ : Int64) : Met l y_Mo_refused ws_Mo_refused0V rm_Mo_refused0V (va_Pc ([.ref (aw_m ad 0), .int (nI 0)] : List Value) (ag_B D g N0 (az_Sh g ad zG zO zX zY zA zB zM zI zL zK zN zF zQ))) (va_Qi (fun r (_ : Unit) => r = nI 0) (fun (_ : Unit) t => ag_H D N0 (az_Sh g ad zG zO zX zY zA zB zM zI zL zK zN (nI 0) zQ) t.heap) (aw_Z N0)) 0 0 (aw_Z N0) := by
  refine Met.ofW (cc := b_Mo_refused) (maxL := 2) (ret := (some .boolean)) (by decide) rfl ?_
  intro p e s m args below meth c s₁ B hml hv
  obtain ⟨rfl, ⟨L, hP, hD, hSh⟩, hU⟩ := hv
  have hx := B.exec
  have hb := B.bytes
  have hr := B.returns
  have hG : ∀ w ∈ aw_G, w.before _ s = true := fun w h => atoms_spec (ws := ws_Mo_refused0V) B.pre w (List.mem_cons_of_mem _ h)
  have hown : s.vm.findClass "RuleCiphersModel" = some m.cls := findClass_of_methodNamed B.named
  have hlocks := B.notSynchronized
  have hE := hU.1
  have hK := hE.1
  have hN := hE.2.1
  have hS : va_S (aw_Z N0) s.heap s.heap [] := va_S.rf
  have hl := lv_entry ([.ref (aw_m ad 0), .int (nI 0)] : List Value) (n := 2) (Nat.le_of_ble_eq_true rfl)
  rw [lg_entry_eq]
  generalize (lg_sl ([.ref (aw_m ad 0), .int (nI 0)] : List Value) ++ List.replicate (2 - (lg_sl ([.ref (aw_m ad 0), .int (nI 0)] : List Value)).length) Slot.unset).toArray = ls at hl ⊢
  have hl : lv_has ls 2 [(0, .ref (aw_m ad 0)), (1, .int (nI 0))] := hl
  refine lv_aload_n hx hb d_Mo_refused_0 rfl (lv_at hl 0 rfl) ?_
  refine lv_iload_n hx hb d_Mo_refused_1 rfl (lv_at hl 1 rfl) ?_
  obtain ⟨hsd2, he1⟩ := zr_M0 hSh
  refine ag_put (v := .int (nI 0)) (ty := .int) (C := R_Mo) (T := T_Mo) (N := 19) hx hb hG in_Mo t_Mo t_Mo_ok n_Mo hown hK hP hD hS 67 he1 rfl 0 (by decide) (hG _ gw_9_25) (fun _ h => h) rfl (by decide +kernel) rfl rfl (Nat.le_of_ble_eq_true rfl) d_Mo_refused_2 (zw_F hSh (nI 0)) ?_
  clear hP hD hSh hS he1
  intro H locs L hP hD hSh hS
  refine lv_iload_n hx hb d_Mo_refused_5 rfl (lv_at hl 1 rfl) ?_
  refine lv_if_le (tgt := 13) hx hb d_Mo_refused_6 (by decide) (fun _ => ?_) (fun h => absurd (by decide +kernel) h)
  refine lv_iconst (v := nI 0) hx hb d_Mo_refused_13 (by decide +kernel) ?_
  exact W.zret hx hb hr (by decide +kernel) (fun t ht hW => ⟨⟨_, (), rfl, rfl, ag_Hr ht hP hD hSh⟩, hS.F ht⟩) hS.2.2 d_Mo_refused_14
abbrev ws_Mo_refused1V : List Cond := Cond.code y_Mo_refused b_Mo_refused 2 (some .boolean) :: aw_G
abbrev rm_Mo_refused1V : Room := { frames := 0, cells := 0, slots := 0, locals := 0 }
set_option maxHeartbeats 4000000 in
set_option maxRecDepth 100000 in
theorem k_Mo_refused1V (l : Launch) (D : va_G) (g : Nat → ClassId) (ad : Nat → Nat) (N0 : Nat) (zG : Nat → Nat × Nat) (zO : Nat → Nat) (zX : Nat → Nat → Int64) (zY : Nat → Nat → Int32) (zA : Nat → Nat → Nat → Int32) (zB : Nat → Int32) (zM : Nat → Nat × Nat) (zI : Nat → Nat → Int32) (zL : Nat → Nat → Int64) (zK : Int32) (zN : Nat) (zF : Int32) (zQ : Int64) (w0 : Nat) (hw0 : 0 < w0 ∧ w0 ≤ 3) : Met l y_Mo_refused ws_Mo_refused1V rm_Mo_refused1V (va_Pc ([.ref (aw_m ad 0), .int (nI w0)] : List Value) (ag_B D g N0 (az_Sh g ad zG zO zX zY zA zB zM zI zL zK zN zF zQ))) (va_Qi (fun r (_ : Unit) => r = nI 1) (fun (_ : Unit) t => ag_H D N0 (az_Sh g ad zG zO zX zY zA zB zM zI zL zK zN (nI w0) zQ) t.heap) (aw_Z N0)) 0 0 (aw_Z N0) := by
  refine Met.ofW (cc := b_Mo_refused) (maxL := 2) (ret := (some .boolean)) (by decide) rfl ?_
  intro p e s m args below meth c s₁ B hml hv
  obtain ⟨rfl, ⟨L, hP, hD, hSh⟩, hU⟩ := hv
  have hx := B.exec
  have hb := B.bytes
  have hr := B.returns
  have hG : ∀ w ∈ aw_G, w.before _ s = true := fun w h => atoms_spec (ws := ws_Mo_refused1V) B.pre w (List.mem_cons_of_mem _ h)
  have hown : s.vm.findClass "RuleCiphersModel" = some m.cls := findClass_of_methodNamed B.named
  have hlocks := B.notSynchronized
  have hE := hU.1
  have hK := hE.1
  have hN := hE.2.1
  have hS : va_S (aw_Z N0) s.heap s.heap [] := va_S.rf
  have hl := lv_entry ([.ref (aw_m ad 0), .int (nI w0)] : List Value) (n := 2) (Nat.le_of_ble_eq_true rfl)
  rw [lg_entry_eq]
  generalize (lg_sl ([.ref (aw_m ad 0), .int (nI w0)] : List Value) ++ List.replicate (2 - (lg_sl ([.ref (aw_m ad 0), .int (nI w0)] : List Value)).length) Slot.unset).toArray = ls at hl ⊢
  have hl : lv_has ls 2 [(0, .ref (aw_m ad 0)), (1, .int (nI w0))] := hl
  refine lv_aload_n hx hb d_Mo_refused_0 rfl (lv_at hl 0 rfl) ?_
  refine lv_iload_n hx hb d_Mo_refused_1 rfl (lv_at hl 1 rfl) ?_
  obtain ⟨hsd2, he1⟩ := zr_M0 hSh
  refine ag_put (v := .int (nI w0)) (ty := .int) (C := R_Mo) (T := T_Mo) (N := 19) hx hb hG in_Mo t_Mo t_Mo_ok n_Mo hown hK hP hD hS 67 he1 rfl 0 (by decide) (hG _ gw_9_25) (fun _ h => h) rfl (by decide +kernel) rfl rfl (Nat.le_of_ble_eq_true rfl) d_Mo_refused_2 (zw_F hSh (nI w0)) ?_
  clear hP hD hSh hS he1
  intro H locs L hP hD hSh hS
  refine lv_iload_n hx hb d_Mo_refused_5 rfl (lv_at hl 1 rfl) ?_
  refine lv_if_le (tgt := 13) hx hb d_Mo_refused_6 (by decide) (fun h => absurd h (show ¬ nI w0 ≤ nI 0 from fun h9 => absurd ((nI_leI (by omega) (by omega)).mp h9) (by omega))) (fun _ => ?_)
  refine lv_iconst (v := nI 1) hx hb d_Mo_refused_9 (by decide +kernel) ?_
  refine lv_goto (tgt := 14) hx hb d_Mo_refused_10 (by decide) ?_
  exact W.zret hx hb hr (by decide +kernel) (fun t ht hW => ⟨⟨_, (), rfl, rfl, ag_Hr ht hP hD hSh⟩, hS.F ht⟩) hS.2.2 d_Mo_refused_14
noncomputable def v_Mo_thrownV (zF : Int32) : Int32 := zF
abbrev ws_Mo_thrownV : List Cond := Cond.code y_Mo_thrown b_Mo_thrown 1 (some .int) :: aw_G
abbrev rm_Mo_thrownV : Room := { frames := 0, cells := 0, slots := 0, locals := 0 }
set_option maxHeartbeats 4000000 in
set_option maxRecDepth 100000 in
theorem k_Mo_thrownV (l : Launch) (D : va_G) (g : Nat → ClassId) (ad : Nat → Nat) (N0 : Nat) (zG : Nat → Nat × Nat) (zO : Nat → Nat) (zX : Nat → Nat → Int64) (zY : Nat → Nat → Int32) (zA : Nat → Nat → Nat → Int32) (zB : Nat → Int32) (zM : Nat → Nat × Nat) (zI : Nat → Nat → Int32) (zL : Nat → Nat → Int64) (zK : Int32) (zN : Nat) (zF : Int32) (zQ : Int64) : Met l y_Mo_thrown ws_Mo_thrownV rm_Mo_thrownV (va_Pc ([.ref (aw_m ad 0)] : List Value) (ag_B D g N0 (az_Sh g ad zG zO zX zY zA zB zM zI zL zK zN zF zQ))) (va_Qi (fun r (_ : Unit) => r = v_Mo_thrownV zF) (fun (_ : Unit) t => ag_H D N0 (az_Sh g ad zG zO zX zY zA zB zM zI zL zK zN zF zQ) t.heap) (aw_Z N0)) 0 0 (aw_Z N0) := by
  refine Met.ofW (cc := b_Mo_thrown) (maxL := 1) (ret := (some .int)) (by decide) rfl ?_
  intro p e s m args below meth c s₁ B hml hv
  obtain ⟨rfl, ⟨L, hP, hD, hSh⟩, hU⟩ := hv
  have hx := B.exec
  have hb := B.bytes
  have hr := B.returns
  have hG : ∀ w ∈ aw_G, w.before _ s = true := fun w h => atoms_spec (ws := ws_Mo_thrownV) B.pre w (List.mem_cons_of_mem _ h)
  have hown : s.vm.findClass "RuleCiphersModel" = some m.cls := findClass_of_methodNamed B.named
  have hlocks := B.notSynchronized
  have hE := hU.1
  have hK := hE.1
  have hN := hE.2.1
  have hS : va_S (aw_Z N0) s.heap s.heap [] := va_S.rf
  have hl := lv_entry ([.ref (aw_m ad 0)] : List Value) (n := 1) (Nat.le_of_ble_eq_true rfl)
  rw [lg_entry_eq]
  generalize (lg_sl ([.ref (aw_m ad 0)] : List Value) ++ List.replicate (1 - (lg_sl ([.ref (aw_m ad 0)] : List Value)).length) Slot.unset).toArray = ls at hl ⊢
  have hl : lv_has ls 1 [(0, .ref (aw_m ad 0))] := hl
  refine lv_aload_n hx hb d_Mo_thrown_0 rfl (lv_at hl 0 rfl) ?_
  obtain ⟨hsd2, he1⟩ := zr_M0 hSh
  refine va_get (C := R_Mo) (T := T_Mo) (N := 19) (v := .int zF) hx hb hG in_Mo hown hK hP 67 he1 rfl 0 (by decide) (hG _ gw_9_25) (fun _ h => h) rfl d_Mo_thrown_1 ?_
  clear he1
  exact W.iret hx hb hr (fun t ht hW => ⟨⟨_, (), rfl, (by rfl), ag_Hr ht hP hD hSh⟩, hS.F ht⟩) hS.2.2 d_Mo_thrown_4
noncomputable def v_Mo_eightV_L5 (zI : Nat → Nat → Int32) (k : Nat) (t : Nat) : Int64 := Nat.rec (motive := fun _ => Int64) (0) (fun t s => ((jL_shl (s) (nI 8)) ||| (Int32.toInt64 (zI 1 (k + t))))) t
theorem v_Mo_eightV_L5_z (zI : Nat → Nat → Int32) (k : Nat) : v_Mo_eightV_L5 zI k 0 = (0) := rfl
theorem v_Mo_eightV_L5_s (zI : Nat → Nat → Int32) (k : Nat) (t : Nat) : v_Mo_eightV_L5 zI k (t + 1) = ((jL_shl ((v_Mo_eightV_L5 zI k t)) (nI 8)) ||| (Int32.toInt64 (zI 1 (k + t)))) := rfl
noncomputable def v_Mo_eightV (zI : Nat → Nat → Int32) (k : Nat) : Int64 := (v_Mo_eightV_L5 zI k 8)
abbrev ws_Mo_eightV : List Cond := Cond.code y_Mo_eight b_Mo_eight 5 (some .long) :: aw_G
abbrev rm_Mo_eightV : Room := { frames := 0, cells := 0, slots := 0, locals := 0 }
set_option maxHeartbeats 4000000 in
set_option maxRecDepth 100000 in
theorem k_Mo_eightV (l : Launch) (D : va_G) (g : Nat → ClassId) (ad : Nat → Nat) (N0 : Nat) (zG : Nat → Nat × Nat) (zO : Nat → Nat) (zX : Nat → Nat → Int64) (zY : Nat → Nat → Int32) (zA : Nat → Nat → Nat → Int32) (zB : Nat → Int32) (zM : Nat → Nat × Nat) (zI : Nat → Nat → Int32) (zL : Nat → Nat → Int64) (zK : Int32) (zN : Nat) (zF : Int32) (zQ : Int64) (k : Nat) (hk : k ≤ 56) : Met l y_Mo_eight ws_Mo_eightV rm_Mo_eightV (va_Pc ([.ref (aw_m ad 0), .int (nI k)] : List Value) (ag_B D g N0 (az_Sh g ad zG zO zX zY zA zB zM zI zL zK zN zF zQ))) (va_Ql (fun r (_ : Unit) => r = v_Mo_eightV zI k) (fun (_ : Unit) t => ag_H D N0 (az_Sh g ad zG zO zX zY zA zB zM zI zL zK zN zF zQ) t.heap) (aw_Z N0)) 0 0 (aw_Z N0) := by
  refine Met.ofW (cc := b_Mo_eight) (maxL := 5) (ret := (some .long)) (by decide) rfl ?_
  intro p e s m args below meth c s₁ B hml hv
  obtain ⟨rfl, ⟨L, hP, hD, hSh⟩, hU⟩ := hv
  have hx := B.exec
  have hb := B.bytes
  have hr := B.returns
  have hG : ∀ w ∈ aw_G, w.before _ s = true := fun w h => atoms_spec (ws := ws_Mo_eightV) B.pre w (List.mem_cons_of_mem _ h)
  have hown : s.vm.findClass "RuleCiphersModel" = some m.cls := findClass_of_methodNamed B.named
  have hlocks := B.notSynchronized
  have hE := hU.1
  have hK := hE.1
  have hN := hE.2.1
  have hS : va_S (aw_Z N0) s.heap s.heap [] := va_S.rf
  have hl := lv_entry ([.ref (aw_m ad 0), .int (nI k)] : List Value) (n := 5) (Nat.le_of_ble_eq_true rfl)
  rw [lg_entry_eq]
  generalize (lg_sl ([.ref (aw_m ad 0), .int (nI k)] : List Value) ++ List.replicate (5 - (lg_sl ([.ref (aw_m ad 0), .int (nI k)] : List Value)).length) Slot.unset).toArray = ls at hl ⊢
  have hl : lv_has ls 5 [(0, .ref (aw_m ad 0)), (1, .int (nI k))] := hl
  refine lv_lconst (v := 0) hx hb d_Mo_eight_0 (by decide +kernel) ?_
  refine lv_lstore_n hx hb d_Mo_eight_1 rfl hl (by decide) rfl (fun ls hl => ?_)
  have hl : lv_has ls 5 [(2, .long 0), (0, .ref (aw_m ad 0)), (1, .int (nI k))] := hl
  refine lv_iconst (v := nI 0) hx hb d_Mo_eight_2 (by decide +kernel) ?_
  refine lv_istore hx hb d_Mo_eight_3 hl (by decide) rfl (fun ls hl => ?_)
  have hl : lv_has ls 5 [(4, .int (nI 0)), (2, .long 0), (0, .ref (aw_m ad 0)), (1, .int (nI k))] := hl
  have L5 : ∀ (d t : Nat) (H : Heap) (locs : List Loc) (L : va_W) (ls : Array Slot), t + d = 8 → va_P D aw_C L H → va_D (aw_Z N0) L → az_Sh g ad zG zO zX zY zA zB zM zI zL zK zN zF zQ L → va_S (aw_Z N0) s.heap H locs → lv_has ls 5 [(0, .ref (aw_m ad 0)), (1, .int (nI k)), (2, .long ((v_Mo_eightV_L5 zI k t))), (4, .int (nI t))] → W p l e (headSpec ws_Mo_eightV rm_Mo_eightV).room s m ([.ref (aw_m ad 0), .int (nI k)] : List Value).toArray below meth c H locs 0 0 (MQ below (va_Ql (fun r (_ : Unit) => r = v_Mo_eightV zI k) (fun (_ : Unit) t => ag_H D N0 (az_Sh g ad zG zO zX zY zA zB zM zI zL zK zN zF zQ) t.heap) (aw_Z N0)) ([.ref (aw_m ad 0), .int (nI k)] : List Value).toArray s 0 0 (aw_Z N0)) (F0 m 5 ls []) := by
    clear hl hP hD hSh hS
    intro d
    induction d with
    | zero =>
      intro t H locs L ls ht0 hP hD hSh hS hl
      have ht1 : t = 8 := by omega
      subst ht1
      refine lv_iload hx hb d_Mo_eight_5 (lv_at hl 3 rfl) ?_
      refine lv_bipush (v := nI 8) hx hb d_Mo_eight_7 (by decide +kernel) ?_
      refine lv_icmp_ge (tgt := 34) hx hb d_Mo_eight_9 (by decide) (fun _ => ?_) (fun h => absurd (show nI 8 ≤ nI 8 from (nI_leI (by omega) (by omega)).mpr (by omega)) h)
      refine lv_lload_n hx hb d_Mo_eight_34 rfl (lv_at hl 2 rfl) ?_
      exact W.lret hx hb hr (fun t ht hW => ⟨⟨_, (), rfl, (by rfl), ag_Hr ht hP hD hSh⟩, hS.F ht⟩) hS.2.2 d_Mo_eight_35
    | succ d ih =>
      intro t H locs L ls ht0 hP hD hSh hS hl
      refine lv_iload hx hb d_Mo_eight_5 (lv_at hl 3 rfl) ?_
      refine lv_bipush (v := nI 8) hx hb d_Mo_eight_7 (by decide +kernel) ?_
      refine lv_icmp_ge (tgt := 34) hx hb d_Mo_eight_9 (by decide) (fun h => absurd h (show ¬ nI 8 ≤ nI t from fun h9 => absurd ((nI_leI (by omega) (by omega)).mp h9) (by omega))) (fun _ => ?_)
      refine lv_lload_n hx hb d_Mo_eight_12 rfl (lv_at hl 2 rfl) ?_
      refine lv_bipush (v := nI 8) hx hb d_Mo_eight_13 (by decide +kernel) ?_
      refine lv_lshl hx hb d_Mo_eight_15 rfl ?_
      refine ag_topl (fun y1 ey1 => ?_)
      refine lv_aload_n hx hb d_Mo_eight_16 rfl (lv_at hl 0 rfl) ?_
      obtain ⟨hsd3, he2⟩ := zr_M0 hSh
      refine va_get (C := R_Mo) (T := T_Mo) (N := 19) (v := .ref (aw_m ad 1)) hx hb hG in_Mo hown hK hP 67 he2 rfl 1 (by decide) (hG _ gw_9_26) (fun _ h => h) rfl d_Mo_eight_17 ?_
      clear he2
      refine lv_iload_n hx hb d_Mo_eight_20 rfl (lv_at hl 1 rfl) ?_
      refine lv_iload hx hb d_Mo_eight_21 (lv_at hl 3 rfl) ?_
      refine lv_iadd hx hb d_Mo_eight_23 ?_
      refine aw_ti (nI_add k t) ?_
      have he4 := zr_M1 hSh
      refine aw_ild hx hb hK hP 68 0 he4 rfl (k := (k + t)) (by omega) (by decide) d_Mo_eight_24 ?_
      clear he4
      refine ag_topi (fun x5 ex5 => ?_)
      refine lv_i2l hx hb d_Mo_eight_25 rfl ?_
      refine ag_topl (fun y6 ey6 => ?_)
      refine lv_lor hx hb d_Mo_eight_26 ?_
      refine ag_topl (fun y7 ey7 => ?_)
      refine lv_lstore_n hx hb d_Mo_eight_27 rfl hl (by decide) rfl (fun ls hl => ?_)
      have hl : lv_has ls 5 [(2, .long y7), (0, .ref (aw_m ad 0)), (1, .int (nI k)), (4, .int (nI t))] := hl
      refine lv_iinc (k := 3) (v := nI (t + 1)) hx hb d_Mo_eight_28 hl rfl (aw_inc t 1 1 (by decide +kernel)) (by decide) rfl (fun ls hl => ?_)
      have hl : lv_has ls 5 [(4, .int (nI (t + 1))), (2, .long y7), (0, .ref (aw_m ad 0)), (1, .int (nI k))] := hl
      refine lv_goto (tgt := 5) hx hb d_Mo_eight_31 (by decide) ?_
      have hl := lv_sub hl (l' := [(0, .ref (aw_m ad 0)), (1, .int (nI k)), (2, .long y7), (4, .int (nI (t + 1)))]) [2, 3, 1, 0] rfl
      have g0 : y7 = (v_Mo_eightV_L5 zI k (t + 1)) := by subst ey7 ey6 ex5 ey1; (rw [v_Mo_eightV_L5_s]) <;> rfl
      have hl : lv_has ls 5 [(0, .ref (aw_m ad 0)), (1, .int (nI k)), (2, .long ((v_Mo_eightV_L5 zI k (t + 1)))), (4, .int (nI (t + 1)))] := by rw [← g0]; exact hl
      exact ih (t + 1) H locs L ls (by omega) hP hD hSh hS (by first | exact hl | simpa [Nat.add_assoc, Nat.mul_add, Nat.add_comm] using hl)
  have hl := lv_sub hl (l' := [(0, .ref (aw_m ad 0)), (1, .int (nI k)), (2, .long 0), (4, .int (nI 0))]) [2, 3, 1, 0] rfl
  have g0 : 0 = (v_Mo_eightV_L5 zI k 0) := by (rw [v_Mo_eightV_L5_z]) <;> rfl
  have hl : lv_has ls 5 [(0, .ref (aw_m ad 0)), (1, .int (nI k)), (2, .long ((v_Mo_eightV_L5 zI k 0))), (4, .int (nI 0))] := by rw [← g0]; exact hl
  exact L5 8 0 _ _ L ls (by omega) hP hD hSh hS (by first | exact hl | simpa using hl)
noncomputable def v_Mo_putEightV_L3 (zI : Nat → Nat → Int32) (k : Nat) (b : Int64) (t : Nat) : (Nat → Nat → Int32) := Nat.rec (motive := fun _ => (Nat → Nat → Int32)) (zI) (fun t s => az_v (s) 1 (k + t) ((Int64.toInt32 (jL_ushr b (nI (56 - (8 * t))))) &&& (nI 255))) t
theorem v_Mo_putEightV_L3_z (zI : Nat → Nat → Int32) (k : Nat) (b : Int64) : v_Mo_putEightV_L3 zI k b 0 = (zI) := rfl
theorem v_Mo_putEightV_L3_s (zI : Nat → Nat → Int32) (k : Nat) (b : Int64) (t : Nat) : v_Mo_putEightV_L3 zI k b (t + 1) = az_v ((v_Mo_putEightV_L3 zI k b t)) 1 (k + t) ((Int64.toInt32 (jL_ushr b (nI (56 - (8 * t))))) &&& (nI 255)) := rfl
noncomputable def v_Mo_putEightV_zI (zI : Nat → Nat → Int32) (k : Nat) (b : Int64) : Nat → Nat → Int32 := (v_Mo_putEightV_L3 zI k b 8)
abbrev ws_Mo_putEightV : List Cond := Cond.code y_Mo_putEight b_Mo_putEight 5 none :: aw_G
abbrev rm_Mo_putEightV : Room := { frames := 0, cells := 0, slots := 0, locals := 0 }
set_option maxHeartbeats 4000000 in
set_option maxRecDepth 100000 in
theorem k_Mo_putEightV (l : Launch) (D : va_G) (g : Nat → ClassId) (ad : Nat → Nat) (N0 : Nat) (zG : Nat → Nat × Nat) (zO : Nat → Nat) (zX : Nat → Nat → Int64) (zY : Nat → Nat → Int32) (zA : Nat → Nat → Nat → Int32) (zB : Nat → Int32) (zM : Nat → Nat × Nat) (zI : Nat → Nat → Int32) (zL : Nat → Nat → Int64) (zK : Int32) (zN : Nat) (zF : Int32) (zQ : Int64) (k : Nat) (b : Int64) (hk : k ≤ 56) : Met l y_Mo_putEight ws_Mo_putEightV rm_Mo_putEightV (va_Pc ([.ref (aw_m ad 0), .int (nI k), .long b] : List Value) (ag_B D g N0 (az_Sh g ad zG zO zX zY zA zB zM zI zL zK zN zF zQ))) (va_Qv (fun (_ : Unit) => True) (fun (_ : Unit) t => ag_H D N0 (az_Sh g ad zG zO zX zY zA zB zM (v_Mo_putEightV_zI zI k b) zL zK zN zF zQ) t.heap) (aw_Z N0)) 0 0 (aw_Z N0) := by
  refine Met.ofW (cc := b_Mo_putEight) (maxL := 5) (ret := none) (by decide) rfl ?_
  intro p e s m args below meth c s₁ B hml hv
  obtain ⟨rfl, ⟨L, hP, hD, hSh⟩, hU⟩ := hv
  have hx := B.exec
  have hb := B.bytes
  have hr := B.returns
  have hG : ∀ w ∈ aw_G, w.before _ s = true := fun w h => atoms_spec (ws := ws_Mo_putEightV) B.pre w (List.mem_cons_of_mem _ h)
  have hown : s.vm.findClass "RuleCiphersModel" = some m.cls := findClass_of_methodNamed B.named
  have hlocks := B.notSynchronized
  have hE := hU.1
  have hK := hE.1
  have hN := hE.2.1
  have hS : va_S (aw_Z N0) s.heap s.heap [] := va_S.rf
  have hl := lv_entry ([.ref (aw_m ad 0), .int (nI k), .long b] : List Value) (n := 5) (Nat.le_of_ble_eq_true rfl)
  rw [lg_entry_eq]
  generalize (lg_sl ([.ref (aw_m ad 0), .int (nI k), .long b] : List Value) ++ List.replicate (5 - (lg_sl ([.ref (aw_m ad 0), .int (nI k), .long b] : List Value)).length) Slot.unset).toArray = ls at hl ⊢
  have hl : lv_has ls 5 [(0, .ref (aw_m ad 0)), (1, .int (nI k)), (2, .long b)] := hl
  refine lv_iconst (v := nI 0) hx hb d_Mo_putEight_0 (by decide +kernel) ?_
  refine lv_istore hx hb d_Mo_putEight_1 hl (by decide) rfl (fun ls hl => ?_)
  have hl : lv_has ls 5 [(4, .int (nI 0)), (0, .ref (aw_m ad 0)), (1, .int (nI k)), (2, .long b)] := hl
  have L3 : ∀ (d t : Nat) (H : Heap) (locs : List Loc) (L : va_W) (ls : Array Slot), t + d = 8 → va_P D aw_C L H → va_D (aw_Z N0) L → az_Sh g ad zG zO zX zY zA zB zM ((v_Mo_putEightV_L3 zI k b t)) zL zK zN zF zQ L → va_S (aw_Z N0) s.heap H locs → lv_has ls 5 [(0, .ref (aw_m ad 0)), (1, .int (nI k)), (2, .long b), (4, .int (nI t))] → W p l e (headSpec ws_Mo_putEightV rm_Mo_putEightV).room s m ([.ref (aw_m ad 0), .int (nI k), .long b] : List Value).toArray below meth c H locs 0 0 (MQ below (va_Qv (fun (_ : Unit) => True) (fun (_ : Unit) t => ag_H D N0 (az_Sh g ad zG zO zX zY zA zB zM (v_Mo_putEightV_zI zI k b) zL zK zN zF zQ) t.heap) (aw_Z N0)) ([.ref (aw_m ad 0), .int (nI k), .long b] : List Value).toArray s 0 0 (aw_Z N0)) (F0 m 3 ls []) := by
    clear hl hP hD hSh hS
    intro d
    induction d with
    | zero =>
      intro t H locs L ls ht0 hP hD hSh hS hl
      have ht1 : t = 8 := by omega
      subst ht1
      refine lv_iload hx hb d_Mo_putEight_3 (lv_at hl 3 rfl) ?_
      refine lv_bipush (v := nI 8) hx hb d_Mo_putEight_5 (by decide +kernel) ?_
      refine lv_icmp_ge (tgt := 40) hx hb d_Mo_putEight_7 (by decide) (fun _ => ?_) (fun h => absurd (show nI 8 ≤ nI 8 from (nI_leI (by omega) (by omega)).mpr (by omega)) h)
      have gzI : (v_Mo_putEightV_L3 zI k b 8) = v_Mo_putEightV_zI zI k b := by rfl
      have hSh : az_Sh g ad zG zO zX zY zA zB zM (v_Mo_putEightV_zI zI k b) zL zK zN zF zQ L := by rw [← gzI]; exact hSh
      exact W.vret hx hb hr (fun t ht hW => ⟨⟨(), rfl, trivial, ag_Hr ht hP hD hSh⟩, hS.F ht⟩) hS.2.2 d_Mo_putEight_40
    | succ d ih =>
      intro t H locs L ls ht0 hP hD hSh hS hl
      refine lv_iload hx hb d_Mo_putEight_3 (lv_at hl 3 rfl) ?_
      refine lv_bipush (v := nI 8) hx hb d_Mo_putEight_5 (by decide +kernel) ?_
      refine lv_icmp_ge (tgt := 40) hx hb d_Mo_putEight_7 (by decide) (fun h => absurd h (show ¬ nI 8 ≤ nI t from fun h9 => absurd ((nI_leI (by omega) (by omega)).mp h9) (by omega))) (fun _ => ?_)
      refine lv_aload_n hx hb d_Mo_putEight_10 rfl (lv_at hl 0 rfl) ?_
      obtain ⟨hsd2, he1⟩ := zr_M0 hSh
      refine va_get (C := R_Mo) (T := T_Mo) (N := 19) (v := .ref (aw_m ad 1)) hx hb hG in_Mo hown hK hP 67 he1 rfl 1 (by decide) (hG _ gw_9_26) (fun _ h => h) rfl d_Mo_putEight_11 ?_
      clear he1
      refine lv_iload_n hx hb d_Mo_putEight_14 rfl (lv_at hl 1 rfl) ?_
      refine lv_iload hx hb d_Mo_putEight_15 (lv_at hl 3 rfl) ?_
      refine lv_iadd hx hb d_Mo_putEight_17 ?_
      refine aw_ti (nI_add k t) ?_
      refine lv_lload_n hx hb d_Mo_putEight_18 rfl (lv_at hl 2 rfl) ?_
      refine lv_bipush (v := nI 56) hx hb d_Mo_putEight_19 (by decide +kernel) ?_
      refine lv_bipush (v := nI 8) hx hb d_Mo_putEight_21 (by decide +kernel) ?_
      refine lv_iload hx hb d_Mo_putEight_23 (lv_at hl 3 rfl) ?_
      refine lv_imul hx hb d_Mo_putEight_25 ?_
      refine aw_ti (pk_mul 8 t) ?_
      refine lv_isub hx hb d_Mo_putEight_26 ?_
      refine aw_ti (pk_sub (a := 56) (b := (8 * t)) (by omega)) ?_
      refine lv_lushr hx hb d_Mo_putEight_27 rfl ?_
      refine ag_topl (fun y3 ey3 => ?_)
      refine lv_l2i hx hb d_Mo_putEight_28 rfl ?_
      refine ag_topi (fun x4 ex4 => ?_)
      refine lv_sipush (v := nI 255) hx hb d_Mo_putEight_29 (by decide +kernel) ?_
      refine lv_iand hx hb d_Mo_putEight_32 ?_
      refine ag_topi (fun x5 ex5 => ?_)
      have he6 := zr_M1 hSh
      refine ag_ist hx hb hK hP hD hS 68 0 he6 rfl (k := (k + t)) (by omega) (by decide) d_Mo_putEight_33 (zw_I1w hSh (k + t) x5) ?_
      clear hP hD hSh hS he6
      intro H locs L hP hD hSh hS
      obtain ⟨zI7, ezI7⟩ : ∃ z : Nat → Nat → Int32, az_v ((v_Mo_putEightV_L3 zI k b t)) 1 (k + t) x5 = z := ⟨_, rfl⟩
      rw [ezI7] at hSh
      refine lv_iinc (k := 3) (v := nI (t + 1)) hx hb d_Mo_putEight_34 hl rfl (aw_inc t 1 1 (by decide +kernel)) (by decide) rfl (fun ls hl => ?_)
      have hl : lv_has ls 5 [(4, .int (nI (t + 1))), (0, .ref (aw_m ad 0)), (1, .int (nI k)), (2, .long b)] := hl
      refine lv_goto (tgt := 3) hx hb d_Mo_putEight_37 (by decide) ?_
      have hl := lv_sub hl (l' := [(0, .ref (aw_m ad 0)), (1, .int (nI k)), (2, .long b), (4, .int (nI (t + 1)))]) [1, 2, 3, 0] rfl
      have g0 : zI7 = (v_Mo_putEightV_L3 zI k b (t + 1)) := by subst ezI7 ex5 ex4 ey3; (rw [v_Mo_putEightV_L3_s]) <;> rfl
      have hSh : az_Sh g ad zG zO zX zY zA zB zM ((v_Mo_putEightV_L3 zI k b (t + 1))) zL zK zN zF zQ L := by rw [← g0]; exact hSh
      exact ih (t + 1) H locs L ls (by omega) hP hD hSh hS (by first | exact hl | simpa [Nat.add_assoc, Nat.mul_add, Nat.add_comm] using hl)
  have hl := lv_sub hl (l' := [(0, .ref (aw_m ad 0)), (1, .int (nI k)), (2, .long b), (4, .int (nI 0))]) [1, 2, 3, 0] rfl
  have g0 : zI = (v_Mo_putEightV_L3 zI k b 0) := by (rw [v_Mo_putEightV_L3_z]) <;> rfl
  have hSh : az_Sh g ad zG zO zX zY zA zB zM ((v_Mo_putEightV_L3 zI k b 0)) zL zK zN zF zQ L := by rw [← g0]; exact hSh
  exact L3 8 0 _ _ L ls (by omega) hP hD hSh hS (by first | exact hl | simpa using hl)
noncomputable def v_Mo_emptyV_zI (zI : Nat → Nat → Int32) (zL : Nat → Nat → Int64) (j : Nat) : Nat → Nat → Int32 := az_v (az_v zI 11 j (nI 0)) 14 j (nI 0)
noncomputable def v_Mo_emptyV_zL (zI : Nat → Nat → Int32) (zL : Nat → Nat → Int64) (j : Nat) : Nat → Nat → Int64 := az_vl (az_vl zL 12 j 0) 13 j 0
abbrev ws_Mo_emptyV : List Cond := Cond.code y_Mo_empty b_Mo_empty 2 none :: aw_G
abbrev rm_Mo_emptyV : Room := { frames := 0, cells := 0, slots := 0, locals := 0 }
set_option maxHeartbeats 4000000 in
set_option maxRecDepth 100000 in
theorem k_Mo_emptyV (l : Launch) (D : va_G) (g : Nat → ClassId) (ad : Nat → Nat) (N0 : Nat) (zG : Nat → Nat × Nat) (zO : Nat → Nat) (zX : Nat → Nat → Int64) (zY : Nat → Nat → Int32) (zA : Nat → Nat → Nat → Int32) (zB : Nat → Int32) (zM : Nat → Nat × Nat) (zI : Nat → Nat → Int32) (zL : Nat → Nat → Int64) (zK : Int32) (zN : Nat) (zF : Int32) (zQ : Int64) (j : Nat) (hj : j < 4) : Met l y_Mo_empty ws_Mo_emptyV rm_Mo_emptyV (va_Pc ([.ref (aw_m ad 0), .int (nI j)] : List Value) (ag_B D g N0 (az_Sh g ad zG zO zX zY zA zB zM zI zL zK zN zF zQ))) (va_Qv (fun (_ : Unit) => True) (fun (_ : Unit) t => ag_H D N0 (az_Sh g ad zG zO zX zY zA zB zM (v_Mo_emptyV_zI zI zL j) (v_Mo_emptyV_zL zI zL j) zK zN zF zQ) t.heap) (aw_Z N0)) 0 0 (aw_Z N0) := by
  refine Met.ofW (cc := b_Mo_empty) (maxL := 2) (ret := none) (by decide) rfl ?_
  intro p e s m args below meth c s₁ B hml hv
  obtain ⟨rfl, ⟨L, hP, hD, hSh⟩, hU⟩ := hv
  have hx := B.exec
  have hb := B.bytes
  have hr := B.returns
  have hG : ∀ w ∈ aw_G, w.before _ s = true := fun w h => atoms_spec (ws := ws_Mo_emptyV) B.pre w (List.mem_cons_of_mem _ h)
  have hown : s.vm.findClass "RuleCiphersModel" = some m.cls := findClass_of_methodNamed B.named
  have hlocks := B.notSynchronized
  have hE := hU.1
  have hK := hE.1
  have hN := hE.2.1
  have hS : va_S (aw_Z N0) s.heap s.heap [] := va_S.rf
  have hl := lv_entry ([.ref (aw_m ad 0), .int (nI j)] : List Value) (n := 2) (Nat.le_of_ble_eq_true rfl)
  rw [lg_entry_eq]
  generalize (lg_sl ([.ref (aw_m ad 0), .int (nI j)] : List Value) ++ List.replicate (2 - (lg_sl ([.ref (aw_m ad 0), .int (nI j)] : List Value)).length) Slot.unset).toArray = ls at hl ⊢
  have hl : lv_has ls 2 [(0, .ref (aw_m ad 0)), (1, .int (nI j))] := hl
  refine lv_aload_n hx hb d_Mo_empty_0 rfl (lv_at hl 0 rfl) ?_
  obtain ⟨hsd2, he1⟩ := zr_M0 hSh
  refine va_get (C := R_Mo) (T := T_Mo) (N := 19) (v := .ref (aw_m ad 11)) hx hb hG in_Mo hown hK hP 67 he1 rfl 11 (by decide) (hG _ gw_9_36) (fun _ h => h) rfl d_Mo_empty_1 ?_
  clear he1
  refine lv_iload_n hx hb d_Mo_empty_4 rfl (lv_at hl 1 rfl) ?_
  refine lv_iconst (v := nI 0) hx hb d_Mo_empty_5 (by decide +kernel) ?_
  have he3 := zr_M11 hSh
  refine ag_ist hx hb hK hP hD hS 78 0 he3 rfl (k := j) (by omega) (by decide) d_Mo_empty_6 (zw_I11w hSh j (nI 0)) ?_
  clear hP hD hSh hS he3
  intro H locs L hP hD hSh hS
  obtain ⟨zI4, ezI4⟩ : ∃ z : Nat → Nat → Int32, az_v zI 11 j (nI 0) = z := ⟨_, rfl⟩
  rw [ezI4] at hSh
  refine lv_aload_n hx hb d_Mo_empty_7 rfl (lv_at hl 0 rfl) ?_
  obtain ⟨hsd6, he5⟩ := zr_M0 hSh
  refine va_get (C := R_Mo) (T := T_Mo) (N := 19) (v := .ref (aw_m ad 12)) hx hb hG in_Mo hown hK hP 67 he5 rfl 12 (by decide) (hG _ gw_9_37) (fun _ h => h) rfl d_Mo_empty_8 ?_
  clear he5
  refine lv_iload_n hx hb d_Mo_empty_11 rfl (lv_at hl 1 rfl) ?_
  refine lv_lconst (v := 0) hx hb d_Mo_empty_12 (by decide +kernel) ?_
  have he7 := zr_M12 hSh
  refine ag_lst hx hb hK hP hD hS 79 1 he7 rfl (k := j) (by omega) (by decide) d_Mo_empty_13 (zw_L12w hSh j 0) ?_
  clear hP hD hSh hS he7
  intro H locs L hP hD hSh hS
  obtain ⟨zL8, ezL8⟩ : ∃ z : Nat → Nat → Int64, az_vl zL 12 j 0 = z := ⟨_, rfl⟩
  rw [ezL8] at hSh
  refine lv_aload_n hx hb d_Mo_empty_14 rfl (lv_at hl 0 rfl) ?_
  obtain ⟨hsd10, he9⟩ := zr_M0 hSh
  refine va_get (C := R_Mo) (T := T_Mo) (N := 19) (v := .ref (aw_m ad 13)) hx hb hG in_Mo hown hK hP 67 he9 rfl 13 (by decide) (hG _ gw_9_38) (fun _ h => h) rfl d_Mo_empty_15 ?_
  clear he9
  refine lv_iload_n hx hb d_Mo_empty_18 rfl (lv_at hl 1 rfl) ?_
  refine lv_lconst (v := 0) hx hb d_Mo_empty_19 (by decide +kernel) ?_
  have he11 := zr_M13 hSh
  refine ag_lst hx hb hK hP hD hS 80 1 he11 rfl (k := j) (by omega) (by decide) d_Mo_empty_20 (zw_L13w hSh j 0) ?_
  clear hP hD hSh hS he11
  intro H locs L hP hD hSh hS
  obtain ⟨zL12, ezL12⟩ : ∃ z : Nat → Nat → Int64, az_vl zL8 13 j 0 = z := ⟨_, rfl⟩
  rw [ezL12] at hSh
  refine lv_aload_n hx hb d_Mo_empty_21 rfl (lv_at hl 0 rfl) ?_
  obtain ⟨hsd14, he13⟩ := zr_M0 hSh
  refine va_get (C := R_Mo) (T := T_Mo) (N := 19) (v := .ref (aw_m ad 14)) hx hb hG in_Mo hown hK hP 67 he13 rfl 14 (by decide) (hG _ gw_9_39) (fun _ h => h) rfl d_Mo_empty_22 ?_
  clear he13
  refine lv_iload_n hx hb d_Mo_empty_25 rfl (lv_at hl 1 rfl) ?_
  refine lv_iconst (v := nI 0) hx hb d_Mo_empty_26 (by decide +kernel) ?_
  have he15 := zr_M14 hSh
  refine ag_ist hx hb hK hP hD hS 81 0 he15 rfl (k := j) (by omega) (by decide) d_Mo_empty_27 (zw_I14w hSh j (nI 0)) ?_
  clear hP hD hSh hS he15
  intro H locs L hP hD hSh hS
  obtain ⟨zI16, ezI16⟩ : ∃ z : Nat → Nat → Int32, az_v zI4 14 j (nI 0) = z := ⟨_, rfl⟩
  rw [ezI16] at hSh
  have gzI : zI16 = v_Mo_emptyV_zI zI zL j := by subst ezI16 ezL12 ezL8 ezI4; rfl
  have gzL : zL12 = v_Mo_emptyV_zL zI zL j := by subst ezI16 ezL12 ezL8 ezI4; rfl
  have hSh : az_Sh g ad zG zO zX zY zA zB zM (v_Mo_emptyV_zI zI zL j) (v_Mo_emptyV_zL zI zL j) zK zN zF zQ L := by rw [← gzI, ← gzL]; exact hSh
  exact W.vret hx hb hr (fun t ht hW => ⟨⟨(), rfl, trivial, ag_Hr ht hP hD hSh⟩, hS.F ht⟩) hS.2.2 d_Mo_empty_28
abbrev ws_Mo_isKeyed1V : List Cond := Cond.code y_Mo_isKeyed b_Mo_isKeyed 2 (some .boolean) :: aw_G
abbrev rm_Mo_isKeyed1V : Room := { frames := 0, cells := 0, slots := 0, locals := 0 }
set_option maxHeartbeats 4000000 in
set_option maxRecDepth 100000 in
theorem k_Mo_isKeyed1V (l : Launch) (D : va_G) (g : Nat → ClassId) (ad : Nat → Nat) (N0 : Nat) (zG : Nat → Nat × Nat) (zO : Nat → Nat) (zX : Nat → Nat → Int64) (zY : Nat → Nat → Int32) (zA : Nat → Nat → Nat → Int32) (zB : Nat → Int32) (zM : Nat → Nat × Nat) (zI : Nat → Nat → Int32) (zL : Nat → Nat → Int64) (zK : Int32) (zN : Nat) (zF : Int32) (zQ : Int64) (j : Nat) (hj : j < 4) (hs : 2 ≤ (zM j).1) : Met l y_Mo_isKeyed ws_Mo_isKeyed1V rm_Mo_isKeyed1V (va_Pc ([.ref (aw_m ad 0), .int (nI j)] : List Value) (ag_B D g N0 (az_Sh g ad zG zO zX zY zA zB zM zI zL zK zN zF zQ))) (va_Qi (fun r (_ : Unit) => r = nI 1) (fun (_ : Unit) t => ag_H D N0 (az_Sh g ad zG zO zX zY zA zB zM zI zL zK zN zF zQ) t.heap) (aw_Z N0)) 0 0 (aw_Z N0) := by
  refine Met.ofW (cc := b_Mo_isKeyed) (maxL := 2) (ret := (some .boolean)) (by decide) rfl ?_
  intro p e s m args below meth c s₁ B hml hv
  obtain ⟨rfl, ⟨L, hP, hD, hSh⟩, hU⟩ := hv
  have hx := B.exec
  have hb := B.bytes
  have hr := B.returns
  have hG : ∀ w ∈ aw_G, w.before _ s = true := fun w h => atoms_spec (ws := ws_Mo_isKeyed1V) B.pre w (List.mem_cons_of_mem _ h)
  have hown : s.vm.findClass "RuleCiphersModel" = some m.cls := findClass_of_methodNamed B.named
  have hlocks := B.notSynchronized
  have hE := hU.1
  have hK := hE.1
  have hN := hE.2.1
  have hS : va_S (aw_Z N0) s.heap s.heap [] := va_S.rf
  have hl := lv_entry ([.ref (aw_m ad 0), .int (nI j)] : List Value) (n := 2) (Nat.le_of_ble_eq_true rfl)
  rw [lg_entry_eq]
  generalize (lg_sl ([.ref (aw_m ad 0), .int (nI j)] : List Value) ++ List.replicate (2 - (lg_sl ([.ref (aw_m ad 0), .int (nI j)] : List Value)).length) Slot.unset).toArray = ls at hl ⊢
  have hl : lv_has ls 2 [(0, .ref (aw_m ad 0)), (1, .int (nI j))] := hl
  refine lv_aload_n hx hb d_Mo_isKeyed_0 rfl (lv_at hl 0 rfl) ?_
  obtain ⟨hsd2, he1⟩ := zr_M0 hSh
  refine va_get (C := R_Mo) (T := T_Mo) (N := 19) (v := .ref (aw_m ad 2)) hx hb hG in_Mo hown hK hP 67 he1 rfl 2 (by decide) (hG _ gw_9_27) (fun _ h => h) rfl d_Mo_isKeyed_1 ?_
  clear he1
  refine lv_iload_n hx hb d_Mo_isKeyed_4 rfl (lv_at hl 1 rfl) ?_
  obtain ⟨hsd4, he3⟩ := zr_M2 hSh
  refine aw_ild hx hb hK hP 69 0 he3 rfl (k := j) (by omega) (by decide) d_Mo_isKeyed_5 ?_
  clear he3
  refine aw_ti (y := nI (zM j).1) (hsd4 _ (by omega)) ?_
  have hm := hSh.2.2.2.2.2 j (by omega)
  refine lv_iconst (v := nI 2) hx hb d_Mo_isKeyed_6 (by decide +kernel) ?_
  refine lv_icmp_lt (tgt := 14) hx hb d_Mo_isKeyed_7 (by decide) (fun h => absurd h (show ¬ nI ((zM j).1) < nI 2 from fun h9 => absurd ((nI_ltI (by omega) (by omega)).mp h9) (by omega))) (fun _ => ?_)
  refine lv_iconst (v := nI 1) hx hb d_Mo_isKeyed_10 (by decide +kernel) ?_
  refine lv_goto (tgt := 15) hx hb d_Mo_isKeyed_11 (by decide) ?_
  exact W.zret hx hb hr (by decide +kernel) (fun t ht hW => ⟨⟨_, (), rfl, rfl, ag_Hr ht hP hD hSh⟩, hS.F ht⟩) hS.2.2 d_Mo_isKeyed_15
abbrev ws_Mo_isKeyed0V : List Cond := Cond.code y_Mo_isKeyed b_Mo_isKeyed 2 (some .boolean) :: aw_G
abbrev rm_Mo_isKeyed0V : Room := { frames := 0, cells := 0, slots := 0, locals := 0 }
set_option maxHeartbeats 4000000 in
set_option maxRecDepth 100000 in
theorem k_Mo_isKeyed0V (l : Launch) (D : va_G) (g : Nat → ClassId) (ad : Nat → Nat) (N0 : Nat) (zG : Nat → Nat × Nat) (zO : Nat → Nat) (zX : Nat → Nat → Int64) (zY : Nat → Nat → Int32) (zA : Nat → Nat → Nat → Int32) (zB : Nat → Int32) (zM : Nat → Nat × Nat) (zI : Nat → Nat → Int32) (zL : Nat → Nat → Int64) (zK : Int32) (zN : Nat) (zF : Int32) (zQ : Int64) (j : Nat) (hj : j < 4) (hs : (zM j).1 ≤ 1) : Met l y_Mo_isKeyed ws_Mo_isKeyed0V rm_Mo_isKeyed0V (va_Pc ([.ref (aw_m ad 0), .int (nI j)] : List Value) (ag_B D g N0 (az_Sh g ad zG zO zX zY zA zB zM zI zL zK zN zF zQ))) (va_Qi (fun r (_ : Unit) => r = nI 0) (fun (_ : Unit) t => ag_H D N0 (az_Sh g ad zG zO zX zY zA zB zM zI zL zK zN zF zQ) t.heap) (aw_Z N0)) 0 0 (aw_Z N0) := by
  refine Met.ofW (cc := b_Mo_isKeyed) (maxL := 2) (ret := (some .boolean)) (by decide) rfl ?_
  intro p e s m args below meth c s₁ B hml hv
  obtain ⟨rfl, ⟨L, hP, hD, hSh⟩, hU⟩ := hv
  have hx := B.exec
  have hb := B.bytes
  have hr := B.returns
  have hG : ∀ w ∈ aw_G, w.before _ s = true := fun w h => atoms_spec (ws := ws_Mo_isKeyed0V) B.pre w (List.mem_cons_of_mem _ h)
  have hown : s.vm.findClass "RuleCiphersModel" = some m.cls := findClass_of_methodNamed B.named
  have hlocks := B.notSynchronized
  have hE := hU.1
  have hK := hE.1
  have hN := hE.2.1
  have hS : va_S (aw_Z N0) s.heap s.heap [] := va_S.rf
  have hl := lv_entry ([.ref (aw_m ad 0), .int (nI j)] : List Value) (n := 2) (Nat.le_of_ble_eq_true rfl)
  rw [lg_entry_eq]
  generalize (lg_sl ([.ref (aw_m ad 0), .int (nI j)] : List Value) ++ List.replicate (2 - (lg_sl ([.ref (aw_m ad 0), .int (nI j)] : List Value)).length) Slot.unset).toArray = ls at hl ⊢
  have hl : lv_has ls 2 [(0, .ref (aw_m ad 0)), (1, .int (nI j))] := hl
  refine lv_aload_n hx hb d_Mo_isKeyed_0 rfl (lv_at hl 0 rfl) ?_
  obtain ⟨hsd2, he1⟩ := zr_M0 hSh
  refine va_get (C := R_Mo) (T := T_Mo) (N := 19) (v := .ref (aw_m ad 2)) hx hb hG in_Mo hown hK hP 67 he1 rfl 2 (by decide) (hG _ gw_9_27) (fun _ h => h) rfl d_Mo_isKeyed_1 ?_
  clear he1
  refine lv_iload_n hx hb d_Mo_isKeyed_4 rfl (lv_at hl 1 rfl) ?_
  obtain ⟨hsd4, he3⟩ := zr_M2 hSh
  refine aw_ild hx hb hK hP 69 0 he3 rfl (k := j) (by omega) (by decide) d_Mo_isKeyed_5 ?_
  clear he3
  refine aw_ti (y := nI (zM j).1) (hsd4 _ (by omega)) ?_
  have hm := hSh.2.2.2.2.2 j (by omega)
  refine lv_iconst (v := nI 2) hx hb d_Mo_isKeyed_6 (by decide +kernel) ?_
  refine lv_icmp_lt (tgt := 14) hx hb d_Mo_isKeyed_7 (by decide) (fun _ => ?_) (fun h => absurd (show nI ((zM j).1) < nI 2 from (nI_ltI (by omega) (by omega)).mpr (by omega)) h)
  refine lv_iconst (v := nI 0) hx hb d_Mo_isKeyed_14 (by decide +kernel) ?_
  exact W.zret hx hb hr (by decide +kernel) (fun t ht hW => ⟨⟨_, (), rfl, rfl, ag_Hr ht hP hD hSh⟩, hS.F ht⟩) hS.2.2 d_Mo_isKeyed_15
abbrev ws_Mo_wrongTake0V : List Cond := Cond.code y_Mo_wrongTake b_Mo_wrongTake 2 (some .int) :: aw_G
abbrev rm_Mo_wrongTake0V : Room := { frames := 0, cells := 0, slots := 0, locals := 0 }
set_option maxHeartbeats 4000000 in
set_option maxRecDepth 100000 in
theorem k_Mo_wrongTake0V (l : Launch) (D : va_G) (g : Nat → ClassId) (ad : Nat → Nat) (N0 : Nat) (zG : Nat → Nat × Nat) (zO : Nat → Nat) (zX : Nat → Nat → Int64) (zY : Nat → Nat → Int32) (zA : Nat → Nat → Nat → Int32) (zB : Nat → Int32) (zM : Nat → Nat × Nat) (zI : Nat → Nat → Int32) (zL : Nat → Nat → Int64) (zK : Int32) (zN : Nat) (zF : Int32) (zQ : Int64) (j : Nat) (hj : j < 4) (hs : (zM j).1 = 3 ∧ (zM j).2 = 5) : Met l y_Mo_wrongTake ws_Mo_wrongTake0V rm_Mo_wrongTake0V (va_Pc ([.ref (aw_m ad 0), .int (nI j)] : List Value) (ag_B D g N0 (az_Sh g ad zG zO zX zY zA zB zM zI zL zK zN zF zQ))) (va_Qi (fun r (_ : Unit) => r = nI 0) (fun (_ : Unit) t => ag_H D N0 (az_Sh g ad zG zO zX zY zA zB zM zI zL zK zN zF zQ) t.heap) (aw_Z N0)) 0 0 (aw_Z N0) := by
  refine Met.ofW (cc := b_Mo_wrongTake) (maxL := 2) (ret := (some .int)) (by decide) rfl ?_
  intro p e s m args below meth c s₁ B hml hv
  obtain ⟨rfl, ⟨L, hP, hD, hSh⟩, hU⟩ := hv
  have hx := B.exec
  have hb := B.bytes
  have hr := B.returns
  have hG : ∀ w ∈ aw_G, w.before _ s = true := fun w h => atoms_spec (ws := ws_Mo_wrongTake0V) B.pre w (List.mem_cons_of_mem _ h)
  have hown : s.vm.findClass "RuleCiphersModel" = some m.cls := findClass_of_methodNamed B.named
  have hlocks := B.notSynchronized
  have hE := hU.1
  have hK := hE.1
  have hN := hE.2.1
  have hS : va_S (aw_Z N0) s.heap s.heap [] := va_S.rf
  have hl := lv_entry ([.ref (aw_m ad 0), .int (nI j)] : List Value) (n := 2) (Nat.le_of_ble_eq_true rfl)
  rw [lg_entry_eq]
  generalize (lg_sl ([.ref (aw_m ad 0), .int (nI j)] : List Value) ++ List.replicate (2 - (lg_sl ([.ref (aw_m ad 0), .int (nI j)] : List Value)).length) Slot.unset).toArray = ls at hl ⊢
  have hl : lv_has ls 2 [(0, .ref (aw_m ad 0)), (1, .int (nI j))] := hl
  refine lv_aload_n hx hb d_Mo_wrongTake_0 rfl (lv_at hl 0 rfl) ?_
  obtain ⟨hsd2, he1⟩ := zr_M0 hSh
  refine va_get (C := R_Mo) (T := T_Mo) (N := 19) (v := .ref (aw_m ad 2)) hx hb hG in_Mo hown hK hP 67 he1 rfl 2 (by decide) (hG _ gw_9_27) (fun _ h => h) rfl d_Mo_wrongTake_1 ?_
  clear he1
  refine lv_iload_n hx hb d_Mo_wrongTake_4 rfl (lv_at hl 1 rfl) ?_
  obtain ⟨hsd4, he3⟩ := zr_M2 hSh
  refine aw_ild hx hb hK hP 69 0 he3 rfl (k := j) (by omega) (by decide) d_Mo_wrongTake_5 ?_
  clear he3
  refine aw_ti (y := nI (zM j).1) (hsd4 _ (by omega)) ?_
  have hm := hSh.2.2.2.2.2 j (by omega)
  refine lv_iconst (v := nI 3) hx hb d_Mo_wrongTake_6 (by decide +kernel) ?_
  refine lv_icmp_ne (tgt := 20) hx hb d_Mo_wrongTake_7 (by decide) (fun h => absurd (show nI ((zM j).1) = nI 3 from (nI_eq (by omega) (by omega)).mpr (by omega)) h) (fun _ => ?_)
  refine lv_aload_n hx hb d_Mo_wrongTake_10 rfl (lv_at hl 0 rfl) ?_
  obtain ⟨hsd6, he5⟩ := zr_M0 hSh
  refine va_get (C := R_Mo) (T := T_Mo) (N := 19) (v := .ref (aw_m ad 6)) hx hb hG in_Mo hown hK hP 67 he5 rfl 6 (by decide) (hG _ gw_9_31) (fun _ h => h) rfl d_Mo_wrongTake_11 ?_
  clear he5
  refine lv_iload_n hx hb d_Mo_wrongTake_14 rfl (lv_at hl 1 rfl) ?_
  obtain ⟨hsd8, he7⟩ := zr_M6 hSh
  refine aw_ild hx hb hK hP 73 0 he7 rfl (k := j) (by omega) (by decide) d_Mo_wrongTake_15 ?_
  clear he7
  refine aw_ti (y := nI (zM j).2) (hsd8 _ (by omega)) ?_
  have hm := hSh.2.2.2.2.2 j (by omega)
  refine lv_iconst (v := nI 5) hx hb d_Mo_wrongTake_16 (by decide +kernel) ?_
  refine lv_icmp_eq (tgt := 24) hx hb d_Mo_wrongTake_17 (by decide) (fun _ => ?_) (fun h => absurd (show nI ((zM j).2) = nI 5 from (nI_eq (by omega) (by omega)).mpr (by omega)) h)
  refine lv_iconst (v := nI 0) hx hb d_Mo_wrongTake_24 (by decide +kernel) ?_
  exact W.iret hx hb hr (fun t ht hW => ⟨⟨_, (), rfl, rfl, ag_Hr ht hP hD hSh⟩, hS.F ht⟩) hS.2.2 d_Mo_wrongTake_25
abbrev ws_Mo_wrongTake2V : List Cond := Cond.code y_Mo_wrongTake b_Mo_wrongTake 2 (some .int) :: aw_G
abbrev rm_Mo_wrongTake2V : Room := { frames := 0, cells := 0, slots := 0, locals := 0 }
set_option maxHeartbeats 4000000 in
set_option maxRecDepth 100000 in
theorem k_Mo_wrongTake2V (l : Launch) (D : va_G) (g : Nat → ClassId) (ad : Nat → Nat) (N0 : Nat) (zG : Nat → Nat × Nat) (zO : Nat → Nat) (zX : Nat → Nat → Int64) (zY : Nat → Nat → Int32) (zA : Nat → Nat → Nat → Int32) (zB : Nat → Int32) (zM : Nat → Nat × Nat) (zI : Nat → Nat → Int32) (zL : Nat → Nat → Int64) (zK : Int32) (zN : Nat) (zF : Int32) (zQ : Int64) (j : Nat) (hj : j < 4) (hs : (zM j).1 ≤ 2 ∨ ((zM j).1 = 3 ∧ (zM j).2 ≠ 5)) : Met l y_Mo_wrongTake ws_Mo_wrongTake2V rm_Mo_wrongTake2V (va_Pc ([.ref (aw_m ad 0), .int (nI j)] : List Value) (ag_B D g N0 (az_Sh g ad zG zO zX zY zA zB zM zI zL zK zN zF zQ))) (va_Qi (fun r (_ : Unit) => r = nI 2) (fun (_ : Unit) t => ag_H D N0 (az_Sh g ad zG zO zX zY zA zB zM zI zL zK zN zF zQ) t.heap) (aw_Z N0)) 0 0 (aw_Z N0) := by
  refine Met.ofW (cc := b_Mo_wrongTake) (maxL := 2) (ret := (some .int)) (by decide) rfl ?_
  intro p e s m args below meth c s₁ B hml hv
  obtain ⟨rfl, ⟨L, hP, hD, hSh⟩, hU⟩ := hv
  have hx := B.exec
  have hb := B.bytes
  have hr := B.returns
  have hG : ∀ w ∈ aw_G, w.before _ s = true := fun w h => atoms_spec (ws := ws_Mo_wrongTake2V) B.pre w (List.mem_cons_of_mem _ h)
  have hown : s.vm.findClass "RuleCiphersModel" = some m.cls := findClass_of_methodNamed B.named
  have hlocks := B.notSynchronized
  have hE := hU.1
  have hK := hE.1
  have hN := hE.2.1
  have hS : va_S (aw_Z N0) s.heap s.heap [] := va_S.rf
  have hl := lv_entry ([.ref (aw_m ad 0), .int (nI j)] : List Value) (n := 2) (Nat.le_of_ble_eq_true rfl)
  rw [lg_entry_eq]
  generalize (lg_sl ([.ref (aw_m ad 0), .int (nI j)] : List Value) ++ List.replicate (2 - (lg_sl ([.ref (aw_m ad 0), .int (nI j)] : List Value)).length) Slot.unset).toArray = ls at hl ⊢
  have hl : lv_has ls 2 [(0, .ref (aw_m ad 0)), (1, .int (nI j))] := hl
  rcases hs with hs | hs
  · refine lv_aload_n hx hb d_Mo_wrongTake_0 rfl (lv_at hl 0 rfl) ?_
    obtain ⟨hsd2, he1⟩ := zr_M0 hSh
    refine va_get (C := R_Mo) (T := T_Mo) (N := 19) (v := .ref (aw_m ad 2)) hx hb hG in_Mo hown hK hP 67 he1 rfl 2 (by decide) (hG _ gw_9_27) (fun _ h => h) rfl d_Mo_wrongTake_1 ?_
    clear he1
    refine lv_iload_n hx hb d_Mo_wrongTake_4 rfl (lv_at hl 1 rfl) ?_
    obtain ⟨hsd4, he3⟩ := zr_M2 hSh
    refine aw_ild hx hb hK hP 69 0 he3 rfl (k := j) (by omega) (by decide) d_Mo_wrongTake_5 ?_
    clear he3
    refine aw_ti (y := nI (zM j).1) (hsd4 _ (by omega)) ?_
    have hm := hSh.2.2.2.2.2 j (by omega)
    refine lv_iconst (v := nI 3) hx hb d_Mo_wrongTake_6 (by decide +kernel) ?_
    refine lv_icmp_ne (tgt := 20) hx hb d_Mo_wrongTake_7 (by decide) (fun _ => ?_) (fun h => absurd h (show ¬ nI ((zM j).1) = nI 3 from fun h9 => absurd ((nI_eq (by omega) (by omega)).mp h9) (by omega)))
    refine lv_iconst (v := nI 2) hx hb d_Mo_wrongTake_20 (by decide +kernel) ?_
    refine lv_goto (tgt := 25) hx hb d_Mo_wrongTake_21 (by decide) ?_
    exact W.iret hx hb hr (fun t ht hW => ⟨⟨_, (), rfl, rfl, ag_Hr ht hP hD hSh⟩, hS.F ht⟩) hS.2.2 d_Mo_wrongTake_25
  · refine lv_aload_n hx hb d_Mo_wrongTake_0 rfl (lv_at hl 0 rfl) ?_
    obtain ⟨hsd6, he5⟩ := zr_M0 hSh
    refine va_get (C := R_Mo) (T := T_Mo) (N := 19) (v := .ref (aw_m ad 2)) hx hb hG in_Mo hown hK hP 67 he5 rfl 2 (by decide) (hG _ gw_9_27) (fun _ h => h) rfl d_Mo_wrongTake_1 ?_
    clear he5
    refine lv_iload_n hx hb d_Mo_wrongTake_4 rfl (lv_at hl 1 rfl) ?_
    obtain ⟨hsd8, he7⟩ := zr_M2 hSh
    refine aw_ild hx hb hK hP 69 0 he7 rfl (k := j) (by omega) (by decide) d_Mo_wrongTake_5 ?_
    clear he7
    refine aw_ti (y := nI (zM j).1) (hsd8 _ (by omega)) ?_
    have hm := hSh.2.2.2.2.2 j (by omega)
    refine lv_iconst (v := nI 3) hx hb d_Mo_wrongTake_6 (by decide +kernel) ?_
    refine lv_icmp_ne (tgt := 20) hx hb d_Mo_wrongTake_7 (by decide) (fun h => absurd (show nI ((zM j).1) = nI 3 from (nI_eq (by omega) (by omega)).mpr (by omega)) h) (fun _ => ?_)
    refine lv_aload_n hx hb d_Mo_wrongTake_10 rfl (lv_at hl 0 rfl) ?_
    obtain ⟨hsd10, he9⟩ := zr_M0 hSh
    refine va_get (C := R_Mo) (T := T_Mo) (N := 19) (v := .ref (aw_m ad 6)) hx hb hG in_Mo hown hK hP 67 he9 rfl 6 (by decide) (hG _ gw_9_31) (fun _ h => h) rfl d_Mo_wrongTake_11 ?_
    clear he9
    refine lv_iload_n hx hb d_Mo_wrongTake_14 rfl (lv_at hl 1 rfl) ?_
    obtain ⟨hsd12, he11⟩ := zr_M6 hSh
    refine aw_ild hx hb hK hP 73 0 he11 rfl (k := j) (by omega) (by decide) d_Mo_wrongTake_15 ?_
    clear he11
    refine aw_ti (y := nI (zM j).2) (hsd12 _ (by omega)) ?_
    have hm := hSh.2.2.2.2.2 j (by omega)
    refine lv_iconst (v := nI 5) hx hb d_Mo_wrongTake_16 (by decide +kernel) ?_
    refine lv_icmp_eq (tgt := 24) hx hb d_Mo_wrongTake_17 (by decide) (fun h => absurd h (show ¬ nI ((zM j).2) = nI 5 from fun h9 => absurd ((nI_eq (by omega) (by omega)).mp h9) (by omega))) (fun _ => ?_)
    refine lv_iconst (v := nI 2) hx hb d_Mo_wrongTake_20 (by decide +kernel) ?_
    refine lv_goto (tgt := 25) hx hb d_Mo_wrongTake_21 (by decide) ?_
    exact W.iret hx hb hr (fun t ht hW => ⟨⟨_, (), rfl, rfl, ag_Hr ht hP hD hSh⟩, hS.F ht⟩) hS.2.2 d_Mo_wrongTake_25
