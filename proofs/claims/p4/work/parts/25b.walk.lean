noncomputable def v_Ru_readBlockV_L5 (zB : Nat → Int32) (k : Nat) (t : Nat) : Int64 := Nat.rec (motive := fun _ => Int64) (0) (fun t s => ((jL_shl (s) (nI 8)) ||| (Int32.toInt64 (zB (k + t))))) t
theorem v_Ru_readBlockV_L5_z (zB : Nat → Int32) (k : Nat) : v_Ru_readBlockV_L5 zB k 0 = (0) := rfl
theorem v_Ru_readBlockV_L5_s (zB : Nat → Int32) (k : Nat) (t : Nat) : v_Ru_readBlockV_L5 zB k (t + 1) = ((jL_shl ((v_Ru_readBlockV_L5 zB k t)) (nI 8)) ||| (Int32.toInt64 (zB (k + t)))) := rfl
noncomputable def v_Ru_readBlockV (zB : Nat → Int32) (k : Nat) : Int64 := (v_Ru_readBlockV_L5 zB k 8)
abbrev ws_Ru_readBlockV : List Cond := Cond.code y_Ru_readBlock b_Ru_readBlock 5 (some .long) :: aw_G
abbrev rm_Ru_readBlockV : Room := { frames := 0, cells := 0, slots := 0, locals := 0 }
set_option maxHeartbeats 4000000 in
set_option maxRecDepth 100000 in
theorem k_Ru_readBlockV (l : Launch) (D : va_G) (g : Nat → ClassId) (ad : Nat → Nat) (N0 : Nat) (zG : Nat → Nat × Nat) (zO : Nat → Nat) (zX : Nat → Nat → Int64) (zY : Nat → Nat → Int32) (zA : Nat → Nat → Nat → Int32) (zB : Nat → Int32) (zM : Nat → Nat × Nat) (zI : Nat → Nat → Int32) (zL : Nat → Nat → Int64) (zK : Int32) (zN : Nat) (zF : Int32) (zQ : Int64) (k : Nat) (hk : k ≤ 56) : Met l y_Ru_readBlock ws_Ru_readBlockV rm_Ru_readBlockV (va_Pc ([.ref (aw_r ad 2), .int (nI k)] : List Value) (ag_B D g N0 (az_Sh g ad zG zO zX zY zA zB zM zI zL zK zN zF zQ))) (va_Ql (fun r (_ : Unit) => r = v_Ru_readBlockV zB k) (fun (_ : Unit) t => ag_H D N0 (az_Sh g ad zG zO zX zY zA zB zM zI zL zK zN zF zQ) t.heap) (aw_Z N0)) 0 0 (aw_Z N0) := by
  refine Met.ofW (cc := b_Ru_readBlock) (maxL := 5) (ret := (some .long)) (by decide) rfl ?_
  intro p e s m args below meth c s₁ B hml hv
  obtain ⟨rfl, ⟨L, hP, hD, hSh⟩, hU⟩ := hv
  have hx := B.exec
  have hb := B.bytes
  have hr := B.returns
  have hG : ∀ w ∈ aw_G, w.before _ s = true := fun w h => atoms_spec (ws := ws_Ru_readBlockV) B.pre w (List.mem_cons_of_mem _ h)
  have hown : s.vm.findClass "RuleCiphers" = some m.cls := findClass_of_methodNamed B.named
  have hlocks := B.notSynchronized
  have hE := hU.1
  have hK := hE.1
  have hN := hE.2.1
  have hS : va_S (aw_Z N0) s.heap s.heap [] := va_S.rf
  have hl := lv_entry ([.ref (aw_r ad 2), .int (nI k)] : List Value) (n := 5) (Nat.le_of_ble_eq_true rfl)
  rw [lg_entry_eq]
  generalize (lg_sl ([.ref (aw_r ad 2), .int (nI k)] : List Value) ++ List.replicate (5 - (lg_sl ([.ref (aw_r ad 2), .int (nI k)] : List Value)).length) Slot.unset).toArray = ls at hl ⊢
  have hl : lv_has ls 5 [(0, .ref (aw_r ad 2)), (1, .int (nI k))] := hl
  refine lv_lconst (v := 0) hx hb d_Ru_readBlock_0 (by decide +kernel) ?_
  refine lv_lstore_n hx hb d_Ru_readBlock_1 rfl hl (by decide) rfl (fun ls hl => ?_)
  have hl : lv_has ls 5 [(2, .long 0), (0, .ref (aw_r ad 2)), (1, .int (nI k))] := hl
  refine lv_iconst (v := nI 0) hx hb d_Ru_readBlock_2 (by decide +kernel) ?_
  refine lv_istore hx hb d_Ru_readBlock_3 hl (by decide) rfl (fun ls hl => ?_)
  have hl : lv_has ls 5 [(4, .int (nI 0)), (2, .long 0), (0, .ref (aw_r ad 2)), (1, .int (nI k))] := hl
  have L5 : ∀ (d t : Nat) (H : Heap) (locs : List Loc) (L : va_W) (ls : Array Slot), t + d = 8 → va_P D aw_C L H → va_D (aw_Z N0) L → az_Sh g ad zG zO zX zY zA zB zM zI zL zK zN zF zQ L → va_S (aw_Z N0) s.heap H locs → lv_has ls 5 [(0, .ref (aw_r ad 2)), (1, .int (nI k)), (2, .long ((v_Ru_readBlockV_L5 zB k t))), (4, .int (nI t))] → W p l e (headSpec ws_Ru_readBlockV rm_Ru_readBlockV).room s m ([.ref (aw_r ad 2), .int (nI k)] : List Value).toArray below meth c H locs 0 0 (MQ below (va_Ql (fun r (_ : Unit) => r = v_Ru_readBlockV zB k) (fun (_ : Unit) t => ag_H D N0 (az_Sh g ad zG zO zX zY zA zB zM zI zL zK zN zF zQ) t.heap) (aw_Z N0)) ([.ref (aw_r ad 2), .int (nI k)] : List Value).toArray s 0 0 (aw_Z N0)) (F0 m 5 ls []) := by
    clear hl hP hD hSh hS
    intro d
    induction d with
    | zero =>
      intro t H locs L ls ht0 hP hD hSh hS hl
      have ht1 : t = 8 := by omega
      subst ht1
      refine lv_iload hx hb d_Ru_readBlock_5 (lv_at hl 3 rfl) ?_
      refine lv_bipush (v := nI 8) hx hb d_Ru_readBlock_7 (by decide +kernel) ?_
      refine lv_icmp_ge (tgt := 31) hx hb d_Ru_readBlock_9 (by decide) (fun _ => ?_) (fun h => absurd (show nI 8 ≤ nI 8 from (nI_leI (by omega) (by omega)).mpr (by omega)) h)
      refine lv_lload_n hx hb d_Ru_readBlock_31 rfl (lv_at hl 2 rfl) ?_
      exact W.lret hx hb hr (fun t ht hW => ⟨⟨_, (), rfl, (by rfl), ag_Hr ht hP hD hSh⟩, hS.F ht⟩) hS.2.2 d_Ru_readBlock_32
    | succ d ih =>
      intro t H locs L ls ht0 hP hD hSh hS hl
      refine lv_iload hx hb d_Ru_readBlock_5 (lv_at hl 3 rfl) ?_
      refine lv_bipush (v := nI 8) hx hb d_Ru_readBlock_7 (by decide +kernel) ?_
      refine lv_icmp_ge (tgt := 31) hx hb d_Ru_readBlock_9 (by decide) (fun h => absurd h (show ¬ nI 8 ≤ nI t from fun h9 => absurd ((nI_leI (by omega) (by omega)).mp h9) (by omega))) (fun _ => ?_)
      refine lv_lload_n hx hb d_Ru_readBlock_12 rfl (lv_at hl 2 rfl) ?_
      refine lv_bipush (v := nI 8) hx hb d_Ru_readBlock_13 (by decide +kernel) ?_
      refine lv_lshl hx hb d_Ru_readBlock_15 rfl ?_
      refine ag_topl (fun y1 ey1 => ?_)
      refine lv_aload_n hx hb d_Ru_readBlock_16 rfl (lv_at hl 0 rfl) ?_
      refine lv_iload_n hx hb d_Ru_readBlock_17 rfl (lv_at hl 1 rfl) ?_
      refine lv_iload hx hb d_Ru_readBlock_18 (lv_at hl 3 rfl) ?_
      refine lv_iadd hx hb d_Ru_readBlock_20 ?_
      refine aw_ti (nI_add k t) ?_
      have he2 := zr_R2 hSh
      refine aw_ild hx hb hK hP 2 0 he2 rfl (k := (k + t)) (by omega) (by decide) d_Ru_readBlock_21 ?_
      clear he2
      refine ag_topi (fun x3 ex3 => ?_)
      refine lv_i2l hx hb d_Ru_readBlock_22 rfl ?_
      refine ag_topl (fun y4 ey4 => ?_)
      refine lv_lor hx hb d_Ru_readBlock_23 ?_
      refine ag_topl (fun y5 ey5 => ?_)
      refine lv_lstore_n hx hb d_Ru_readBlock_24 rfl hl (by decide) rfl (fun ls hl => ?_)
      have hl : lv_has ls 5 [(2, .long y5), (0, .ref (aw_r ad 2)), (1, .int (nI k)), (4, .int (nI t))] := hl
      refine lv_iinc (k := 3) (v := nI (t + 1)) hx hb d_Ru_readBlock_25 hl rfl (aw_inc t 1 1 (by decide +kernel)) (by decide) rfl (fun ls hl => ?_)
      have hl : lv_has ls 5 [(4, .int (nI (t + 1))), (2, .long y5), (0, .ref (aw_r ad 2)), (1, .int (nI k))] := hl
      refine lv_goto (tgt := 5) hx hb d_Ru_readBlock_28 (by decide) ?_
      have hl := lv_sub hl (l' := [(0, .ref (aw_r ad 2)), (1, .int (nI k)), (2, .long y5), (4, .int (nI (t + 1)))]) [2, 3, 1, 0] rfl
      have g0 : y5 = (v_Ru_readBlockV_L5 zB k (t + 1)) := by subst ey5 ey4 ex3 ey1; (rw [v_Ru_readBlockV_L5_s]) <;> rfl
      have hl : lv_has ls 5 [(0, .ref (aw_r ad 2)), (1, .int (nI k)), (2, .long ((v_Ru_readBlockV_L5 zB k (t + 1)))), (4, .int (nI (t + 1)))] := by rw [← g0]; exact hl
      exact ih (t + 1) H locs L ls (by omega) hP hD hSh hS (by first | exact hl | simpa [Nat.add_assoc, Nat.mul_add, Nat.add_comm] using hl)
  have hl := lv_sub hl (l' := [(0, .ref (aw_r ad 2)), (1, .int (nI k)), (2, .long 0), (4, .int (nI 0))]) [2, 3, 1, 0] rfl
  have g0 : 0 = (v_Ru_readBlockV_L5 zB k 0) := by (rw [v_Ru_readBlockV_L5_z]) <;> rfl
  have hl : lv_has ls 5 [(0, .ref (aw_r ad 2)), (1, .int (nI k)), (2, .long ((v_Ru_readBlockV_L5 zB k 0))), (4, .int (nI 0))] := by rw [← g0]; exact hl
  exact L5 8 0 _ _ L ls (by omega) hP hD hSh hS (by first | exact hl | simpa using hl)
noncomputable def v_Ru_writeBlockV_L3 (zB : Nat → Int32) (k : Nat) (b : Int64) (t : Nat) : (Nat → Int32) := Nat.rec (motive := fun _ => (Nat → Int32)) (zB) (fun t s => upd ((s)) (k + t) (v_Ru_byteOfV b (nI t))) t
theorem v_Ru_writeBlockV_L3_z (zB : Nat → Int32) (k : Nat) (b : Int64) : v_Ru_writeBlockV_L3 zB k b 0 = (zB) := rfl
theorem v_Ru_writeBlockV_L3_s (zB : Nat → Int32) (k : Nat) (b : Int64) (t : Nat) : v_Ru_writeBlockV_L3 zB k b (t + 1) = upd (((v_Ru_writeBlockV_L3 zB k b t))) (k + t) (v_Ru_byteOfV b (nI t)) := rfl
noncomputable def v_Ru_writeBlockV_zB (zB : Nat → Int32) (k : Nat) (b : Int64) : Nat → Int32 := (v_Ru_writeBlockV_L3 zB k b 8)
abbrev ws_Ru_writeBlockV : List Cond := Cond.code y_Ru_writeBlock b_Ru_writeBlock 5 none :: aw_G
abbrev rm_Ru_writeBlockV : Room := { frames := 1, cells := 0, slots := 0, locals := 22 }
set_option maxHeartbeats 4000000 in
set_option maxRecDepth 100000 in
theorem k_Ru_writeBlockV (l : Launch) (D : va_G) (g : Nat → ClassId) (ad : Nat → Nat) (N0 : Nat) (zG : Nat → Nat × Nat) (zO : Nat → Nat) (zX : Nat → Nat → Int64) (zY : Nat → Nat → Int32) (zA : Nat → Nat → Nat → Int32) (zB : Nat → Int32) (zM : Nat → Nat × Nat) (zI : Nat → Nat → Int32) (zL : Nat → Nat → Int64) (zK : Int32) (zN : Nat) (zF : Int32) (zQ : Int64) (k : Nat) (b : Int64) (hk : k ≤ 56) : Met l y_Ru_writeBlock ws_Ru_writeBlockV rm_Ru_writeBlockV (va_Pc ([.ref (aw_r ad 2), .int (nI k), .long b] : List Value) (ag_B D g N0 (az_Sh g ad zG zO zX zY zA zB zM zI zL zK zN zF zQ))) (va_Qv (fun (_ : Unit) => True) (fun (_ : Unit) t => ag_H D N0 (az_Sh g ad zG zO zX zY zA (v_Ru_writeBlockV_zB zB k b) zM zI zL zK zN zF zQ) t.heap) (aw_Z N0)) 0 0 (aw_Z N0) := by
  refine Met.ofW (cc := b_Ru_writeBlock) (maxL := 5) (ret := none) (by decide) rfl ?_
  intro p e s m args below meth c s₁ B hml hv
  obtain ⟨rfl, ⟨L, hP, hD, hSh⟩, hU⟩ := hv
  have hx := B.exec
  have hb := B.bytes
  have hr := B.returns
  have hG : ∀ w ∈ aw_G, w.before _ s = true := fun w h => atoms_spec (ws := ws_Ru_writeBlockV) B.pre w (List.mem_cons_of_mem _ h)
  have hown : s.vm.findClass "RuleCiphers" = some m.cls := findClass_of_methodNamed B.named
  have hlocks := B.notSynchronized
  have hE := hU.1
  have hK := hE.1
  have hN := hE.2.1
  have hS : va_S (aw_Z N0) s.heap s.heap [] := va_S.rf
  have hl := lv_entry ([.ref (aw_r ad 2), .int (nI k), .long b] : List Value) (n := 5) (Nat.le_of_ble_eq_true rfl)
  rw [lg_entry_eq]
  generalize (lg_sl ([.ref (aw_r ad 2), .int (nI k), .long b] : List Value) ++ List.replicate (5 - (lg_sl ([.ref (aw_r ad 2), .int (nI k), .long b] : List Value)).length) Slot.unset).toArray = ls at hl ⊢
  have hl : lv_has ls 5 [(0, .ref (aw_r ad 2)), (1, .int (nI k)), (2, .long b)] := hl
  refine lv_iconst (v := nI 0) hx hb d_Ru_writeBlock_0 (by decide +kernel) ?_
  refine lv_istore hx hb d_Ru_writeBlock_1 hl (by decide) rfl (fun ls hl => ?_)
  have hl : lv_has ls 5 [(4, .int (nI 0)), (0, .ref (aw_r ad 2)), (1, .int (nI k)), (2, .long b)] := hl
  have L3 : ∀ (d t : Nat) (H : Heap) (locs : List Loc) (L : va_W) (ls : Array Slot), t + d = 8 → va_P D aw_C L H → va_D (aw_Z N0) L → az_Sh g ad zG zO zX zY zA ((v_Ru_writeBlockV_L3 zB k b t)) zM zI zL zK zN zF zQ L → va_S (aw_Z N0) s.heap H locs → lv_has ls 5 [(0, .ref (aw_r ad 2)), (1, .int (nI k)), (2, .long b), (4, .int (nI t))] → W p l e (headSpec ws_Ru_writeBlockV rm_Ru_writeBlockV).room s m ([.ref (aw_r ad 2), .int (nI k), .long b] : List Value).toArray below meth c H locs 0 0 (MQ below (va_Qv (fun (_ : Unit) => True) (fun (_ : Unit) t => ag_H D N0 (az_Sh g ad zG zO zX zY zA (v_Ru_writeBlockV_zB zB k b) zM zI zL zK zN zF zQ) t.heap) (aw_Z N0)) ([.ref (aw_r ad 2), .int (nI k), .long b] : List Value).toArray s 0 0 (aw_Z N0)) (F0 m 3 ls []) := by
    clear hl hP hD hSh hS
    intro d
    induction d with
    | zero =>
      intro t H locs L ls ht0 hP hD hSh hS hl
      have ht1 : t = 8 := by omega
      subst ht1
      refine lv_iload hx hb d_Ru_writeBlock_3 (lv_at hl 3 rfl) ?_
      refine lv_bipush (v := nI 8) hx hb d_Ru_writeBlock_5 (by decide +kernel) ?_
      refine lv_icmp_ge (tgt := 28) hx hb d_Ru_writeBlock_7 (by decide) (fun _ => ?_) (fun h => absurd (show nI 8 ≤ nI 8 from (nI_leI (by omega) (by omega)).mpr (by omega)) h)
      have gzB : (v_Ru_writeBlockV_L3 zB k b 8) = v_Ru_writeBlockV_zB zB k b := by rfl
      have hSh : az_Sh g ad zG zO zX zY zA (v_Ru_writeBlockV_zB zB k b) zM zI zL zK zN zF zQ L := by rw [← gzB]; exact hSh
      exact W.vret hx hb hr (fun t ht hW => ⟨⟨(), rfl, trivial, ag_Hr ht hP hD hSh⟩, hS.F ht⟩) hS.2.2 d_Ru_writeBlock_28
    | succ d ih =>
      intro t H locs L ls ht0 hP hD hSh hS hl
      refine lv_iload hx hb d_Ru_writeBlock_3 (lv_at hl 3 rfl) ?_
      refine lv_bipush (v := nI 8) hx hb d_Ru_writeBlock_5 (by decide +kernel) ?_
      refine lv_icmp_ge (tgt := 28) hx hb d_Ru_writeBlock_7 (by decide) (fun h => absurd h (show ¬ nI 8 ≤ nI t from fun h9 => absurd ((nI_leI (by omega) (by omega)).mp h9) (by omega))) (fun _ => ?_)
      refine lv_aload_n hx hb d_Ru_writeBlock_10 rfl (lv_at hl 0 rfl) ?_
      refine lv_iload_n hx hb d_Ru_writeBlock_11 rfl (lv_at hl 1 rfl) ?_
      refine lv_iload hx hb d_Ru_writeBlock_12 (lv_at hl 3 rfl) ?_
      refine lv_iadd hx hb d_Ru_writeBlock_14 ?_
      refine aw_ti (nI_add k t) ?_
      refine lv_lload_n hx hb d_Ru_writeBlock_15 rfl (lv_at hl 2 rfl) ?_
      refine lv_iload hx hb d_Ru_writeBlock_16 (lv_at hl 3 rfl) ?_
      refine aw_ci ((va_runS (As := [.long b, .int (nI t)]) (rest := [.int (nI (k + t)), .ref (aw_r ad 2)]) ⟨hx, hb, hml, hown, hG⟩ (k_Ru_byteOfV l b (nI t)) (aw_wS 2 hG gw_8_9 gw_8_7 gw_0_1 gw_8_8 rfl rfl hd_Ru_byteOf ⟨Nat.le_of_ble_eq_true rfl, Nat.le_of_ble_eq_true rfl⟩) aw_p0 rfl rfl hl.1 rfl (lv_room (Nat.le_of_ble_eq_true rfl)) d_Ru_writeBlock_18 ⟨Nat.le_of_ble_eq_true rfl, Nat.le_of_ble_eq_true rfl⟩).run) (fun x1 ex1 => ?_)
      have ex1 := ex1.symm
      have he2 := zr_R2 hSh
      refine ag_ist hx hb hK hP hD hS 2 0 he2 rfl (k := (k + t)) (by omega) (by decide) d_Ru_writeBlock_21 (zw_B hSh (upd (((v_Ru_writeBlockV_L3 zB k b t))) (k + t) x1)) ?_
      clear hP hD hSh hS he2
      intro H locs L hP hD hSh hS
      obtain ⟨zB3, ezB3⟩ : ∃ z : Nat → Int32, upd (((v_Ru_writeBlockV_L3 zB k b t))) (k + t) x1 = z := ⟨_, rfl⟩
      rw [ezB3] at hSh
      refine lv_iinc (k := 3) (v := nI (t + 1)) hx hb d_Ru_writeBlock_22 hl rfl (aw_inc t 1 1 (by decide +kernel)) (by decide) rfl (fun ls hl => ?_)
      have hl : lv_has ls 5 [(4, .int (nI (t + 1))), (0, .ref (aw_r ad 2)), (1, .int (nI k)), (2, .long b)] := hl
      refine lv_goto (tgt := 3) hx hb d_Ru_writeBlock_25 (by decide) ?_
      have hl := lv_sub hl (l' := [(0, .ref (aw_r ad 2)), (1, .int (nI k)), (2, .long b), (4, .int (nI (t + 1)))]) [1, 2, 3, 0] rfl
      have g0 : zB3 = (v_Ru_writeBlockV_L3 zB k b (t + 1)) := by subst ezB3 ex1; (rw [v_Ru_writeBlockV_L3_s]) <;> rfl
      have hSh : az_Sh g ad zG zO zX zY zA ((v_Ru_writeBlockV_L3 zB k b (t + 1))) zM zI zL zK zN zF zQ L := by rw [← g0]; exact hSh
      exact ih (t + 1) H locs L ls (by omega) hP hD hSh hS (by first | exact hl | simpa [Nat.add_assoc, Nat.mul_add, Nat.add_comm] using hl)
  have hl := lv_sub hl (l' := [(0, .ref (aw_r ad 2)), (1, .int (nI k)), (2, .long b), (4, .int (nI 0))]) [1, 2, 3, 0] rfl
  have g0 : zB = (v_Ru_writeBlockV_L3 zB k b 0) := by (rw [v_Ru_writeBlockV_L3_z]) <;> rfl
  have hSh : az_Sh g ad zG zO zX zY zA ((v_Ru_writeBlockV_L3 zB k b 0)) zM zI zL zK zN zF zQ L := by rw [← g0]; exact hSh
  exact L3 8 0 _ _ L ls (by omega) hP hD hSh hS (by first | exact hl | simpa using hl)
noncomputable def v_Ci_onOrBackV (zA : Nat → Nat → Nat → Int32) (j : Nat) (o : Nat) (bk : Int32) (b : Int64) : Int64 := (if bk = 0 then v_Ci_onV zA j o b else v_Ci_backV zA j o b)
abbrev ws_Ci_onOrBackV : List Cond := Cond.code y_Ci_onOrBack b_Ci_onOrBack 4 (some .long) :: aw_G
abbrev rm_Ci_onOrBackV : Room := { frames := 3, cells := 0, slots := 0, locals := 79 }
set_option maxHeartbeats 4000000 in
set_option maxRecDepth 100000 in
theorem k_Ci_onOrBackV (l : Launch) (D : va_G) (g : Nat → ClassId) (ad : Nat → Nat) (N0 : Nat) (zG : Nat → Nat × Nat) (zO : Nat → Nat) (zX : Nat → Nat → Int64) (zY : Nat → Nat → Int32) (zA : Nat → Nat → Nat → Int32) (zB : Nat → Int32) (zM : Nat → Nat × Nat) (zI : Nat → Nat → Int32) (zL : Nat → Nat → Int64) (zK : Int32) (zN : Nat) (zF : Int32) (zQ : Int64) (j : Nat) (o : Nat) (bk : Int32) (b : Int64) (hj : j < 4) (ho : aw_cof o) : Met l y_Ci_onOrBack ws_Ci_onOrBackV rm_Ci_onOrBackV (va_Pc ([.ref (aw_c ad j o), .int bk, .long b] : List Value) (ag_B D g N0 (az_Sh g ad zG zO zX zY zA zB zM zI zL zK zN zF zQ))) (va_Ql (fun r (_ : Unit) => r = v_Ci_onOrBackV zA j o bk b) (fun (_ : Unit) t => ag_H D N0 (az_Sh g ad zG zO zX zY zA zB zM zI zL zK zN zF zQ) t.heap) (aw_Z N0)) 0 0 (aw_Z N0) := by
  refine Met.ofW (cc := b_Ci_onOrBack) (maxL := 4) (ret := (some .long)) (by decide) rfl ?_
  intro p e s m args below meth c s₁ B hml hv
  obtain ⟨rfl, ⟨L, hP, hD, hSh⟩, hU⟩ := hv
  have hx := B.exec
  have hb := B.bytes
  have hr := B.returns
  have hG : ∀ w ∈ aw_G, w.before _ s = true := fun w h => atoms_spec (ws := ws_Ci_onOrBackV) B.pre w (List.mem_cons_of_mem _ h)
  have hown : s.vm.findClass "RuleCiphers$Cipher" = some m.cls := findClass_of_methodNamed B.named
  have hlocks := B.notSynchronized
  have hE := hU.1
  have hK := hE.1
  have hN := hE.2.1
  have hS : va_S (aw_Z N0) s.heap s.heap [] := va_S.rf
  have hl := lv_entry ([.ref (aw_c ad j o), .int bk, .long b] : List Value) (n := 4) (Nat.le_of_ble_eq_true rfl)
  rw [lg_entry_eq]
  generalize (lg_sl ([.ref (aw_c ad j o), .int bk, .long b] : List Value) ++ List.replicate (4 - (lg_sl ([.ref (aw_c ad j o), .int bk, .long b] : List Value)).length) Slot.unset).toArray = ls at hl ⊢
  have hl : lv_has ls 4 [(0, .ref (aw_c ad j o)), (1, .int bk), (2, .long b)] := hl
  refine lv_iload_n hx hb d_Ci_onOrBack_0 rfl (lv_at hl 1 rfl) ?_
  refine lv_if_eq (tgt := 12) hx hb d_Ci_onOrBack_1 (by decide) (fun hb1 => ?_) (fun hb1 => ?_)
  · refine lv_aload_n hx hb d_Ci_onOrBack_12 rfl (lv_at hl 0 rfl) ?_
    refine lv_lload_n hx hb d_Ci_onOrBack_13 rfl (lv_at hl 2 rfl) ?_
    have hrun2 : va_Run p l e (headSpec ws_Ci_onOrBackV rm_Ci_onOrBackV).room s m ([.ref (aw_c ad j o), .int bk, .long b] : List Value).toArray below meth c s.heap [] 0 0 0 0 (F0 m 14 ls [.long b, .ref (aw_c ad j o)]) [] (va_Ql (fun r (_ : Unit) => r = v_Ci_onV zA j o b) (fun (_ : Unit) t => ag_H D N0 (az_Sh g ad zG zO zX zY zA zB zM zI zL zK zN zF zQ) t.heap) (aw_Z N0) ([.ref (aw_c ad j o), .long b] : List Value).toArray) (aw_Z N0) := by
      rcases ho with rfl | rfl | rfl | rfl | rfl
      · rw [v_Ci_onV_2]
        have he3 := zr_C2 hSh hj
        exact va_runU (As := [.long b]) (rest := []) ⟨hx, hb, hml, hown, hG⟩ (k_Rc_onV l D g ad N0 zG zO zX zY zA zB zM zI zL zK zN zF zQ j b hj) (aw_wA (owner := "RuleCiphers$Cipher") 1 hG hN gw_6_57 gw_6_50 gw_6_51 gw_6_55 gw_6_56 gw_0_4 nw_36 rfl rfl hd_Ci_on ⟨Nat.le_of_ble_eq_true rfl, Nat.le_of_ble_eq_true rfl⟩) (ag_qV (va_recv hK hP rfl he3) hP hD hSh hU hS) rfl rfl hl.1 rfl (lv_room (Nat.le_of_ble_eq_true rfl)) d_Ci_onOrBack_14 ⟨Nat.le_of_ble_eq_true rfl, Nat.le_of_ble_eq_true rfl⟩
      · rw [v_Ci_onV_5]
        have he4 := zr_C5 hSh hj
        exact va_runU (As := [.long b]) (rest := []) ⟨hx, hb, hml, hown, hG⟩ (k_Xt_onV l D g ad N0 zG zO zX zY zA zB zM zI zL zK zN zF zQ j b hj) (aw_wA (owner := "RuleCiphers$Cipher") 1 hG hN gw_7_6 gw_6_50 gw_6_51 gw_7_4 gw_7_5 gw_0_5 nw_36 rfl rfl hd_Ci_on ⟨Nat.le_of_ble_eq_true rfl, Nat.le_of_ble_eq_true rfl⟩) (ag_qV (va_recv hK hP rfl he4) hP hD hSh hU hS) rfl rfl hl.1 rfl (lv_room (Nat.le_of_ble_eq_true rfl)) d_Ci_onOrBack_14 ⟨Nat.le_of_ble_eq_true rfl, Nat.le_of_ble_eq_true rfl⟩
      · rw [v_Ci_onV_7]
        have he5 := zr_C7 hSh hj
        exact va_runU (As := [.long b]) (rest := []) ⟨hx, hb, hml, hown, hG⟩ (k_Sp_onV l D g ad N0 zG zO zX zY zA zB zM zI zL zK zN zF zQ j b hj) (aw_wA (owner := "RuleCiphers$Cipher") 1 hG hN gw_7_3 gw_6_50 gw_6_51 gw_7_1 gw_7_2 gw_0_6 nw_36 rfl rfl hd_Ci_on ⟨Nat.le_of_ble_eq_true rfl, Nat.le_of_ble_eq_true rfl⟩) (ag_qV (va_recv hK hP rfl he5) hP hD hSh hU hS) rfl rfl hl.1 rfl (lv_room (Nat.le_of_ble_eq_true rfl)) d_Ci_onOrBack_14 ⟨Nat.le_of_ble_eq_true rfl, Nat.le_of_ble_eq_true rfl⟩
      · rw [v_Ci_onV_10]
        have he6 := zr_C10 hSh hj
        exact va_runU (As := [.long b]) (rest := []) ⟨hx, hb, hml, hown, hG⟩ (k_Si_onV l D g ad N0 zG zO zX zY zA zB zM zI zL zK zN zF zQ j b hj) (aw_wA (owner := "RuleCiphers$Cipher") 1 hG hN gw_7_0 gw_6_50 gw_6_51 gw_6_58 gw_6_59 gw_0_7 nw_36 rfl rfl hd_Ci_on ⟨Nat.le_of_ble_eq_true rfl, Nat.le_of_ble_eq_true rfl⟩) (ag_qV (va_recv hK hP rfl he6) hP hD hSh hU hS) rfl rfl hl.1 rfl (lv_room (Nat.le_of_ble_eq_true rfl)) d_Ci_onOrBack_14 ⟨Nat.le_of_ble_eq_true rfl, Nat.le_of_ble_eq_true rfl⟩
      · rw [v_Ci_onV_12]
        have he7 := zr_C12 hSh hj
        exact va_runU (As := [.long b]) (rest := []) ⟨hx, hb, hml, hown, hG⟩ (k_Id_onV l D g ad N0 zG zO zX zY zA zB zM zI zL zK zN zF zQ j b hj) (aw_wA (owner := "RuleCiphers$Cipher") 1 hG hN gw_6_54 gw_6_50 gw_6_51 gw_6_52 gw_6_53 gw_0_8 nw_36 rfl rfl hd_Ci_on ⟨Nat.le_of_ble_eq_true rfl, Nat.le_of_ble_eq_true rfl⟩) (ag_qV (va_recv hK hP rfl he7) hP hD hSh hU hS) rfl rfl hl.1 rfl (lv_room (Nat.le_of_ble_eq_true rfl)) d_Ci_onOrBack_14 ⟨Nat.le_of_ble_eq_true rfl, Nat.le_of_ble_eq_true rfl⟩
    refine va_calll hrun2 hS (fun _ _ h => h) (fun _ h => h) ?_
    clear hP hD hSh hS hrun2
    intro y8 u8 t8 H locs ht _ ey8 hB _ _ hS
    obtain ⟨L, hP, hD, hSh⟩ := hB
    rw [ht] at hP
    clear ht
    have ey8 := ey8.symm
    exact W.lret hx hb hr (fun t ht hW => ⟨⟨_, (), rfl, (by subst ey8; unfold v_Ci_onOrBackV; rw [if_pos hb1]), ag_Hr ht hP hD hSh⟩, hS.F ht⟩) hS.2.2 d_Ci_onOrBack_17
  · refine lv_aload_n hx hb d_Ci_onOrBack_4 rfl (lv_at hl 0 rfl) ?_
    refine lv_lload_n hx hb d_Ci_onOrBack_5 rfl (lv_at hl 2 rfl) ?_
    have hrun9 : va_Run p l e (headSpec ws_Ci_onOrBackV rm_Ci_onOrBackV).room s m ([.ref (aw_c ad j o), .int bk, .long b] : List Value).toArray below meth c s.heap [] 0 0 0 0 (F0 m 6 ls [.long b, .ref (aw_c ad j o)]) [] (va_Ql (fun r (_ : Unit) => r = v_Ci_backV zA j o b) (fun (_ : Unit) t => ag_H D N0 (az_Sh g ad zG zO zX zY zA zB zM zI zL zK zN zF zQ) t.heap) (aw_Z N0) ([.ref (aw_c ad j o), .long b] : List Value).toArray) (aw_Z N0) := by
      rcases ho with rfl | rfl | rfl | rfl | rfl
      · rw [v_Ci_backV_2]
        have he10 := zr_C2 hSh hj
        exact va_runU (As := [.long b]) (rest := []) ⟨hx, hb, hml, hown, hG⟩ (k_Rc_backV l D g ad N0 zG zO zX zY zA zB zM zI zL zK zN zF zQ j b hj) (aw_wA (owner := "RuleCiphers$Cipher") 1 hG hN gw_6_29 gw_6_9 gw_6_10 gw_6_27 gw_6_28 gw_0_4 nw_21 rfl rfl hd_Ci_back ⟨Nat.le_of_ble_eq_true rfl, Nat.le_of_ble_eq_true rfl⟩) (ag_qV (va_recv hK hP rfl he10) hP hD hSh hU hS) rfl rfl hl.1 rfl (lv_room (Nat.le_of_ble_eq_true rfl)) d_Ci_onOrBack_6 ⟨Nat.le_of_ble_eq_true rfl, Nat.le_of_ble_eq_true rfl⟩
      · rw [v_Ci_backV_5]
        have he11 := zr_C5 hSh hj
        exact va_runU (As := [.long b]) (rest := []) ⟨hx, hb, hml, hown, hG⟩ (k_Xt_backV l D g ad N0 zG zO zX zY zA zB zM zI zL zK zN zF zQ j b hj) (aw_wA (owner := "RuleCiphers$Cipher") 1 hG hN gw_6_44 gw_6_9 gw_6_10 gw_6_42 gw_6_43 gw_0_5 nw_21 rfl rfl hd_Ci_back ⟨Nat.le_of_ble_eq_true rfl, Nat.le_of_ble_eq_true rfl⟩) (ag_qV (va_recv hK hP rfl he11) hP hD hSh hU hS) rfl rfl hl.1 rfl (lv_room (Nat.le_of_ble_eq_true rfl)) d_Ci_onOrBack_6 ⟨Nat.le_of_ble_eq_true rfl, Nat.le_of_ble_eq_true rfl⟩
      · rw [v_Ci_backV_7]
        have he12 := zr_C7 hSh hj
        exact va_runU (As := [.long b]) (rest := []) ⟨hx, hb, hml, hown, hG⟩ (k_Sp_backV l D g ad N0 zG zO zX zY zA zB zM zI zL zK zN zF zQ j b hj) (aw_wA (owner := "RuleCiphers$Cipher") 1 hG hN gw_6_41 gw_6_9 gw_6_10 gw_6_39 gw_6_40 gw_0_6 nw_21 rfl rfl hd_Ci_back ⟨Nat.le_of_ble_eq_true rfl, Nat.le_of_ble_eq_true rfl⟩) (ag_qV (va_recv hK hP rfl he12) hP hD hSh hU hS) rfl rfl hl.1 rfl (lv_room (Nat.le_of_ble_eq_true rfl)) d_Ci_onOrBack_6 ⟨Nat.le_of_ble_eq_true rfl, Nat.le_of_ble_eq_true rfl⟩
      · rw [v_Ci_backV_10]
        have he13 := zr_C10 hSh hj
        exact va_runU (As := [.long b]) (rest := []) ⟨hx, hb, hml, hown, hG⟩ (k_Si_backV l D g ad N0 zG zO zX zY zA zB zM zI zL zK zN zF zQ j b hj) (aw_wA (owner := "RuleCiphers$Cipher") 1 hG hN gw_6_35 gw_6_9 gw_6_10 gw_6_33 gw_6_34 gw_0_7 nw_21 rfl rfl hd_Ci_back ⟨Nat.le_of_ble_eq_true rfl, Nat.le_of_ble_eq_true rfl⟩) (ag_qV (va_recv hK hP rfl he13) hP hD hSh hU hS) rfl rfl hl.1 rfl (lv_room (Nat.le_of_ble_eq_true rfl)) d_Ci_onOrBack_6 ⟨Nat.le_of_ble_eq_true rfl, Nat.le_of_ble_eq_true rfl⟩
      · rw [v_Ci_backV_12]
        have he14 := zr_C12 hSh hj
        exact va_runU (As := [.long b]) (rest := []) ⟨hx, hb, hml, hown, hG⟩ (k_Id_backV l D g ad N0 zG zO zX zY zA zB zM zI zL zK zN zF zQ j b hj) (aw_wA (owner := "RuleCiphers$Cipher") 1 hG hN gw_6_13 gw_6_9 gw_6_10 gw_6_11 gw_6_12 gw_0_8 nw_21 rfl rfl hd_Ci_back ⟨Nat.le_of_ble_eq_true rfl, Nat.le_of_ble_eq_true rfl⟩) (ag_qV (va_recv hK hP rfl he14) hP hD hSh hU hS) rfl rfl hl.1 rfl (lv_room (Nat.le_of_ble_eq_true rfl)) d_Ci_onOrBack_6 ⟨Nat.le_of_ble_eq_true rfl, Nat.le_of_ble_eq_true rfl⟩
    refine va_calll hrun9 hS (fun _ _ h => h) (fun _ h => h) ?_
    clear hP hD hSh hS hrun9
    intro y15 u8 t8 H locs ht _ ey15 hB _ _ hS
    obtain ⟨L, hP, hD, hSh⟩ := hB
    rw [ht] at hP
    clear ht
    have ey15 := ey15.symm
    refine lv_goto (tgt := 17) hx hb d_Ci_onOrBack_9 (by decide) ?_
    exact W.lret hx hb hr (fun t ht hW => ⟨⟨_, (), rfl, (by subst ey15; unfold v_Ci_onOrBackV; rw [if_neg hb1]), ag_Hr ht hP hD hSh⟩, hS.F ht⟩) hS.2.2 d_Ci_onOrBack_17
noncomputable def v_Ci_wordAtV (zA : Nat → Nat → Nat → Int32) (j : Nat) (o : Nat) (i : Int32) : Int32 := (if o = 2 then (if i < 0 then (-1) else (if i < (nI 26) then zA j 3 ((i).toNatClampNeg) else (-1))) else (if o = 5 then (if i < 0 then (-1) else (if i < (nI 4) then zA j 6 ((i).toNatClampNeg) else (-1))) else (if o = 7 then (if i < 0 then (-1) else (if i < (nI 27) then zA j 8 ((i).toNatClampNeg) else (-1))) else (if o = 10 then (if i < 0 then (-1) else (if i < (nI 44) then zA j 11 ((i).toNatClampNeg) else (-1))) else (if i < 0 then (-1) else (if i < (nI 52) then zA j 13 ((i).toNatClampNeg) else (-1)))))))
abbrev ws_Ci_wordAtV : List Cond := Cond.code y_Ci_wordAt b_Ci_wordAt 2 (some .int) :: aw_G
abbrev rm_Ci_wordAtV : Room := { frames := 0, cells := 0, slots := 0, locals := 0 }
set_option maxHeartbeats 4000000 in
set_option maxRecDepth 100000 in
theorem k_Ci_wordAtV (l : Launch) (D : va_G) (g : Nat → ClassId) (ad : Nat → Nat) (N0 : Nat) (zG : Nat → Nat × Nat) (zO : Nat → Nat) (zX : Nat → Nat → Int64) (zY : Nat → Nat → Int32) (zA : Nat → Nat → Nat → Int32) (zB : Nat → Int32) (zM : Nat → Nat × Nat) (zI : Nat → Nat → Int32) (zL : Nat → Nat → Int64) (zK : Int32) (zN : Nat) (zF : Int32) (zQ : Int64) (j : Nat) (o : Nat) (i : Int32) (hj : j < 4) (ho : aw_cof o) : Met l y_Ci_wordAt ws_Ci_wordAtV rm_Ci_wordAtV (va_Pc ([.ref (aw_c ad j o), .int i] : List Value) (ag_B D g N0 (az_Sh g ad zG zO zX zY zA zB zM zI zL zK zN zF zQ))) (va_Qi (fun r (_ : Unit) => r = v_Ci_wordAtV zA j o i) (fun (_ : Unit) t => ag_H D N0 (az_Sh g ad zG zO zX zY zA zB zM zI zL zK zN zF zQ) t.heap) (aw_Z N0)) 0 0 (aw_Z N0) := by
  refine Met.ofW (cc := b_Ci_wordAt) (maxL := 2) (ret := (some .int)) (by decide) rfl ?_
  intro p e s m args below meth c s₁ B hml hv
  obtain ⟨rfl, ⟨L, hP, hD, hSh⟩, hU⟩ := hv
  have hx := B.exec
  have hb := B.bytes
  have hr := B.returns
  have hG : ∀ w ∈ aw_G, w.before _ s = true := fun w h => atoms_spec (ws := ws_Ci_wordAtV) B.pre w (List.mem_cons_of_mem _ h)
  have hown : s.vm.findClass "RuleCiphers$Cipher" = some m.cls := findClass_of_methodNamed B.named
  have hlocks := B.notSynchronized
  have hE := hU.1
  have hK := hE.1
  have hN := hE.2.1
  have hS : va_S (aw_Z N0) s.heap s.heap [] := va_S.rf
  have hl := lv_entry ([.ref (aw_c ad j o), .int i] : List Value) (n := 2) (Nat.le_of_ble_eq_true rfl)
  rw [lg_entry_eq]
  generalize (lg_sl ([.ref (aw_c ad j o), .int i] : List Value) ++ List.replicate (2 - (lg_sl ([.ref (aw_c ad j o), .int i] : List Value)).length) Slot.unset).toArray = ls at hl ⊢
  have hl : lv_has ls 2 [(0, .ref (aw_c ad j o)), (1, .int i)] := hl
  rcases ho with rfl | rfl | rfl | rfl | rfl
  · refine lv_iload_n hx hb d_Ci_wordAt_0 rfl (lv_at hl 1 rfl) ?_
    refine lv_if_lt (tgt := 13) hx hb d_Ci_wordAt_1 (by decide) (fun hb1 => ?_) (fun hb1 => ?_)
    · refine lv_iconst (v := (-1)) hx hb d_Ci_wordAt_13 (by decide +kernel) ?_
      refine lv_goto (tgt := 23) hx hb d_Ci_wordAt_14 (by decide) ?_
      exact W.iret hx hb hr (fun t ht hW => ⟨⟨_, (), rfl, (by unfold v_Ci_wordAtV; rw [if_pos (show 2 = 2 by decide), if_pos hb1]), ag_Hr ht hP hD hSh⟩, hS.F ht⟩) hS.2.2 d_Ci_wordAt_23
    · refine lv_iload_n hx hb d_Ci_wordAt_4 rfl (lv_at hl 1 rfl) ?_
      refine lv_aload_n hx hb d_Ci_wordAt_5 rfl (lv_at hl 0 rfl) ?_
      have he2 := zr_C2 hSh hj
      refine va_get (C := R_Rc) (T := T_Rc) (N := 2) (v := .ref (aw_c ad j 3)) hx hb hG in_Rc hown hK hP (3 + 16 * j + 2) he2 rfl 0 (by decide) (hG _ gw_0_41) (fun _ h => h) rfl d_Ci_wordAt_6 ?_
      clear he2
      have he3 := zr_C3 hSh hj
      refine va_alen (v := nI 26) hx hb hK hP (3 + 16 * j + 3) 0 he3 rfl rfl d_Ci_wordAt_9 ?_
      refine lv_icmp_lt (tgt := 17) hx hb d_Ci_wordAt_10 (by decide) (fun hb4 => ?_) (fun hb4 => ?_)
      · refine lv_aload_n hx hb d_Ci_wordAt_17 rfl (lv_at hl 0 rfl) ?_
        have he5 := zr_C2 hSh hj
        refine va_get (C := R_Rc) (T := T_Rc) (N := 2) (v := .ref (aw_c ad j 3)) hx hb hG in_Rc hown hK hP (3 + 16 * j + 2) he5 rfl 0 (by decide) (hG _ gw_0_41) (fun _ h => h) rfl d_Ci_wordAt_18 ?_
        clear he5
        refine lv_iload_n hx hb d_Ci_wordAt_21 rfl (lv_at hl 1 rfl) ?_
        have he6 := zr_C3 hSh hj
        obtain ⟨k7, hk7, ek7⟩ := aw_place (n := 26) hb1 hb4 (by omega)
        refine aw_ti (y := nI k7) ek7 ?_
        have fk7 : (i).toNatClampNeg = k7 := by rw [ek7, nI_clamp (by omega)]
        refine aw_ild hx hb hK hP (3 + 16 * j + 3) 0 he6 rfl (k := k7) (by omega) (by decide) d_Ci_wordAt_22 ?_
        clear he6
        refine ag_topi (fun x8 ex8 => ?_)
        exact W.iret hx hb hr (fun t ht hW => ⟨⟨_, (), rfl, (by subst ex8 fk7; unfold v_Ci_wordAtV; rw [if_pos (show 2 = 2 by decide), if_neg hb1, if_pos hb4]), ag_Hr ht hP hD hSh⟩, hS.F ht⟩) hS.2.2 d_Ci_wordAt_23
      · refine lv_iconst (v := (-1)) hx hb d_Ci_wordAt_13 (by decide +kernel) ?_
        refine lv_goto (tgt := 23) hx hb d_Ci_wordAt_14 (by decide) ?_
        exact W.iret hx hb hr (fun t ht hW => ⟨⟨_, (), rfl, (by unfold v_Ci_wordAtV; rw [if_pos (show 2 = 2 by decide), if_neg hb1, if_neg hb4]), ag_Hr ht hP hD hSh⟩, hS.F ht⟩) hS.2.2 d_Ci_wordAt_23
  · refine lv_iload_n hx hb d_Ci_wordAt_0 rfl (lv_at hl 1 rfl) ?_
    refine lv_if_lt (tgt := 13) hx hb d_Ci_wordAt_1 (by decide) (fun hb9 => ?_) (fun hb9 => ?_)
    · refine lv_iconst (v := (-1)) hx hb d_Ci_wordAt_13 (by decide +kernel) ?_
      refine lv_goto (tgt := 23) hx hb d_Ci_wordAt_14 (by decide) ?_
      exact W.iret hx hb hr (fun t ht hW => ⟨⟨_, (), rfl, (by unfold v_Ci_wordAtV; rw [if_neg (show ¬ 5 = 2 by decide), if_pos (show 5 = 5 by decide), if_pos hb9]), ag_Hr ht hP hD hSh⟩, hS.F ht⟩) hS.2.2 d_Ci_wordAt_23
    · refine lv_iload_n hx hb d_Ci_wordAt_4 rfl (lv_at hl 1 rfl) ?_
      refine lv_aload_n hx hb d_Ci_wordAt_5 rfl (lv_at hl 0 rfl) ?_
      have he10 := zr_C5 hSh hj
      refine va_get (C := R_Xt) (T := T_Xt) (N := 1) (v := .ref (aw_c ad j 6)) hx hb hG in_Xt hown hK hP (3 + 16 * j + 5) he10 rfl 0 (by decide) (hG _ gw_0_41) (fun _ h => h) rfl d_Ci_wordAt_6 ?_
      clear he10
      have he11 := zr_C6 hSh hj
      refine va_alen (v := nI 4) hx hb hK hP (3 + 16 * j + 6) 0 he11 rfl rfl d_Ci_wordAt_9 ?_
      refine lv_icmp_lt (tgt := 17) hx hb d_Ci_wordAt_10 (by decide) (fun hb12 => ?_) (fun hb12 => ?_)
      · refine lv_aload_n hx hb d_Ci_wordAt_17 rfl (lv_at hl 0 rfl) ?_
        have he13 := zr_C5 hSh hj
        refine va_get (C := R_Xt) (T := T_Xt) (N := 1) (v := .ref (aw_c ad j 6)) hx hb hG in_Xt hown hK hP (3 + 16 * j + 5) he13 rfl 0 (by decide) (hG _ gw_0_41) (fun _ h => h) rfl d_Ci_wordAt_18 ?_
        clear he13
        refine lv_iload_n hx hb d_Ci_wordAt_21 rfl (lv_at hl 1 rfl) ?_
        have he14 := zr_C6 hSh hj
        obtain ⟨k15, hk15, ek15⟩ := aw_place (n := 4) hb9 hb12 (by omega)
        refine aw_ti (y := nI k15) ek15 ?_
        have fk15 : (i).toNatClampNeg = k15 := by rw [ek15, nI_clamp (by omega)]
        refine aw_ild hx hb hK hP (3 + 16 * j + 6) 0 he14 rfl (k := k15) (by omega) (by decide) d_Ci_wordAt_22 ?_
        clear he14
        refine ag_topi (fun x16 ex16 => ?_)
        exact W.iret hx hb hr (fun t ht hW => ⟨⟨_, (), rfl, (by subst ex16 fk15; unfold v_Ci_wordAtV; rw [if_neg (show ¬ 5 = 2 by decide), if_pos (show 5 = 5 by decide), if_neg hb9, if_pos hb12]), ag_Hr ht hP hD hSh⟩, hS.F ht⟩) hS.2.2 d_Ci_wordAt_23
      · refine lv_iconst (v := (-1)) hx hb d_Ci_wordAt_13 (by decide +kernel) ?_
        refine lv_goto (tgt := 23) hx hb d_Ci_wordAt_14 (by decide) ?_
        exact W.iret hx hb hr (fun t ht hW => ⟨⟨_, (), rfl, (by unfold v_Ci_wordAtV; rw [if_neg (show ¬ 5 = 2 by decide), if_pos (show 5 = 5 by decide), if_neg hb9, if_neg hb12]), ag_Hr ht hP hD hSh⟩, hS.F ht⟩) hS.2.2 d_Ci_wordAt_23
  · refine lv_iload_n hx hb d_Ci_wordAt_0 rfl (lv_at hl 1 rfl) ?_
    refine lv_if_lt (tgt := 13) hx hb d_Ci_wordAt_1 (by decide) (fun hb17 => ?_) (fun hb17 => ?_)
    · refine lv_iconst (v := (-1)) hx hb d_Ci_wordAt_13 (by decide +kernel) ?_
      refine lv_goto (tgt := 23) hx hb d_Ci_wordAt_14 (by decide) ?_
      exact W.iret hx hb hr (fun t ht hW => ⟨⟨_, (), rfl, (by unfold v_Ci_wordAtV; rw [if_neg (show ¬ 7 = 2 by decide), if_neg (show ¬ 7 = 5 by decide), if_pos (show 7 = 7 by decide), if_pos hb17]), ag_Hr ht hP hD hSh⟩, hS.F ht⟩) hS.2.2 d_Ci_wordAt_23
    · refine lv_iload_n hx hb d_Ci_wordAt_4 rfl (lv_at hl 1 rfl) ?_
      refine lv_aload_n hx hb d_Ci_wordAt_5 rfl (lv_at hl 0 rfl) ?_
      have he18 := zr_C7 hSh hj
      refine va_get (C := R_Sp) (T := T_Sp) (N := 2) (v := .ref (aw_c ad j 8)) hx hb hG in_Sp hown hK hP (3 + 16 * j + 7) he18 rfl 0 (by decide) (hG _ gw_0_41) (fun _ h => h) rfl d_Ci_wordAt_6 ?_
      clear he18
      have he19 := zr_C8 hSh hj
      refine va_alen (v := nI 27) hx hb hK hP (3 + 16 * j + 8) 0 he19 rfl rfl d_Ci_wordAt_9 ?_
      refine lv_icmp_lt (tgt := 17) hx hb d_Ci_wordAt_10 (by decide) (fun hb20 => ?_) (fun hb20 => ?_)
      · refine lv_aload_n hx hb d_Ci_wordAt_17 rfl (lv_at hl 0 rfl) ?_
        have he21 := zr_C7 hSh hj
        refine va_get (C := R_Sp) (T := T_Sp) (N := 2) (v := .ref (aw_c ad j 8)) hx hb hG in_Sp hown hK hP (3 + 16 * j + 7) he21 rfl 0 (by decide) (hG _ gw_0_41) (fun _ h => h) rfl d_Ci_wordAt_18 ?_
        clear he21
        refine lv_iload_n hx hb d_Ci_wordAt_21 rfl (lv_at hl 1 rfl) ?_
        have he22 := zr_C8 hSh hj
        obtain ⟨k23, hk23, ek23⟩ := aw_place (n := 27) hb17 hb20 (by omega)
        refine aw_ti (y := nI k23) ek23 ?_
        have fk23 : (i).toNatClampNeg = k23 := by rw [ek23, nI_clamp (by omega)]
        refine aw_ild hx hb hK hP (3 + 16 * j + 8) 0 he22 rfl (k := k23) (by omega) (by decide) d_Ci_wordAt_22 ?_
        clear he22
        refine ag_topi (fun x24 ex24 => ?_)
        exact W.iret hx hb hr (fun t ht hW => ⟨⟨_, (), rfl, (by subst ex24 fk23; unfold v_Ci_wordAtV; rw [if_neg (show ¬ 7 = 2 by decide), if_neg (show ¬ 7 = 5 by decide), if_pos (show 7 = 7 by decide), if_neg hb17, if_pos hb20]), ag_Hr ht hP hD hSh⟩, hS.F ht⟩) hS.2.2 d_Ci_wordAt_23
      · refine lv_iconst (v := (-1)) hx hb d_Ci_wordAt_13 (by decide +kernel) ?_
        refine lv_goto (tgt := 23) hx hb d_Ci_wordAt_14 (by decide) ?_
        exact W.iret hx hb hr (fun t ht hW => ⟨⟨_, (), rfl, (by unfold v_Ci_wordAtV; rw [if_neg (show ¬ 7 = 2 by decide), if_neg (show ¬ 7 = 5 by decide), if_pos (show 7 = 7 by decide), if_neg hb17, if_neg hb20]), ag_Hr ht hP hD hSh⟩, hS.F ht⟩) hS.2.2 d_Ci_wordAt_23
  · refine lv_iload_n hx hb d_Ci_wordAt_0 rfl (lv_at hl 1 rfl) ?_
    refine lv_if_lt (tgt := 13) hx hb d_Ci_wordAt_1 (by decide) (fun hb25 => ?_) (fun hb25 => ?_)
    · refine lv_iconst (v := (-1)) hx hb d_Ci_wordAt_13 (by decide +kernel) ?_
      refine lv_goto (tgt := 23) hx hb d_Ci_wordAt_14 (by decide) ?_
      exact W.iret hx hb hr (fun t ht hW => ⟨⟨_, (), rfl, (by unfold v_Ci_wordAtV; rw [if_neg (show ¬ 10 = 2 by decide), if_neg (show ¬ 10 = 5 by decide), if_neg (show ¬ 10 = 7 by decide), if_pos (show 10 = 10 by decide), if_pos hb25]), ag_Hr ht hP hD hSh⟩, hS.F ht⟩) hS.2.2 d_Ci_wordAt_23
    · refine lv_iload_n hx hb d_Ci_wordAt_4 rfl (lv_at hl 1 rfl) ?_
      refine lv_aload_n hx hb d_Ci_wordAt_5 rfl (lv_at hl 0 rfl) ?_
      have he26 := zr_C10 hSh hj
      refine va_get (C := R_Si) (T := T_Si) (N := 1) (v := .ref (aw_c ad j 11)) hx hb hG in_Si hown hK hP (3 + 16 * j + 10) he26 rfl 0 (by decide) (hG _ gw_0_41) (fun _ h => h) rfl d_Ci_wordAt_6 ?_
      clear he26
      have he27 := zr_C11 hSh hj
      refine va_alen (v := nI 44) hx hb hK hP (3 + 16 * j + 11) 0 he27 rfl rfl d_Ci_wordAt_9 ?_
      refine lv_icmp_lt (tgt := 17) hx hb d_Ci_wordAt_10 (by decide) (fun hb28 => ?_) (fun hb28 => ?_)
      · refine lv_aload_n hx hb d_Ci_wordAt_17 rfl (lv_at hl 0 rfl) ?_
        have he29 := zr_C10 hSh hj
        refine va_get (C := R_Si) (T := T_Si) (N := 1) (v := .ref (aw_c ad j 11)) hx hb hG in_Si hown hK hP (3 + 16 * j + 10) he29 rfl 0 (by decide) (hG _ gw_0_41) (fun _ h => h) rfl d_Ci_wordAt_18 ?_
        clear he29
        refine lv_iload_n hx hb d_Ci_wordAt_21 rfl (lv_at hl 1 rfl) ?_
        have he30 := zr_C11 hSh hj
        obtain ⟨k31, hk31, ek31⟩ := aw_place (n := 44) hb25 hb28 (by omega)
        refine aw_ti (y := nI k31) ek31 ?_
        have fk31 : (i).toNatClampNeg = k31 := by rw [ek31, nI_clamp (by omega)]
        refine aw_ild hx hb hK hP (3 + 16 * j + 11) 0 he30 rfl (k := k31) (by omega) (by decide) d_Ci_wordAt_22 ?_
        clear he30
        refine ag_topi (fun x32 ex32 => ?_)
        exact W.iret hx hb hr (fun t ht hW => ⟨⟨_, (), rfl, (by subst ex32 fk31; unfold v_Ci_wordAtV; rw [if_neg (show ¬ 10 = 2 by decide), if_neg (show ¬ 10 = 5 by decide), if_neg (show ¬ 10 = 7 by decide), if_pos (show 10 = 10 by decide), if_neg hb25, if_pos hb28]), ag_Hr ht hP hD hSh⟩, hS.F ht⟩) hS.2.2 d_Ci_wordAt_23
      · refine lv_iconst (v := (-1)) hx hb d_Ci_wordAt_13 (by decide +kernel) ?_
        refine lv_goto (tgt := 23) hx hb d_Ci_wordAt_14 (by decide) ?_
        exact W.iret hx hb hr (fun t ht hW => ⟨⟨_, (), rfl, (by unfold v_Ci_wordAtV; rw [if_neg (show ¬ 10 = 2 by decide), if_neg (show ¬ 10 = 5 by decide), if_neg (show ¬ 10 = 7 by decide), if_pos (show 10 = 10 by decide), if_neg hb25, if_neg hb28]), ag_Hr ht hP hD hSh⟩, hS.F ht⟩) hS.2.2 d_Ci_wordAt_23
  · refine lv_iload_n hx hb d_Ci_wordAt_0 rfl (lv_at hl 1 rfl) ?_
    refine lv_if_lt (tgt := 13) hx hb d_Ci_wordAt_1 (by decide) (fun hb33 => ?_) (fun hb33 => ?_)
    · refine lv_iconst (v := (-1)) hx hb d_Ci_wordAt_13 (by decide +kernel) ?_
      refine lv_goto (tgt := 23) hx hb d_Ci_wordAt_14 (by decide) ?_
      exact W.iret hx hb hr (fun t ht hW => ⟨⟨_, (), rfl, (by unfold v_Ci_wordAtV; rw [if_neg (show ¬ 12 = 2 by decide), if_neg (show ¬ 12 = 5 by decide), if_neg (show ¬ 12 = 7 by decide), if_neg (show ¬ 12 = 10 by decide), if_pos hb33]), ag_Hr ht hP hD hSh⟩, hS.F ht⟩) hS.2.2 d_Ci_wordAt_23
    · refine lv_iload_n hx hb d_Ci_wordAt_4 rfl (lv_at hl 1 rfl) ?_
      refine lv_aload_n hx hb d_Ci_wordAt_5 rfl (lv_at hl 0 rfl) ?_
      have he34 := zr_C12 hSh hj
      refine va_get (C := R_Id) (T := T_Id) (N := 2) (v := .ref (aw_c ad j 13)) hx hb hG in_Id hown hK hP (3 + 16 * j + 12) he34 rfl 0 (by decide) (hG _ gw_0_41) (fun _ h => h) rfl d_Ci_wordAt_6 ?_
      clear he34
      have he35 := zr_C13 hSh hj
      refine va_alen (v := nI 52) hx hb hK hP (3 + 16 * j + 13) 0 he35 rfl rfl d_Ci_wordAt_9 ?_
      refine lv_icmp_lt (tgt := 17) hx hb d_Ci_wordAt_10 (by decide) (fun hb36 => ?_) (fun hb36 => ?_)
      · refine lv_aload_n hx hb d_Ci_wordAt_17 rfl (lv_at hl 0 rfl) ?_
        have he37 := zr_C12 hSh hj
        refine va_get (C := R_Id) (T := T_Id) (N := 2) (v := .ref (aw_c ad j 13)) hx hb hG in_Id hown hK hP (3 + 16 * j + 12) he37 rfl 0 (by decide) (hG _ gw_0_41) (fun _ h => h) rfl d_Ci_wordAt_18 ?_
        clear he37
        refine lv_iload_n hx hb d_Ci_wordAt_21 rfl (lv_at hl 1 rfl) ?_
        have he38 := zr_C13 hSh hj
        obtain ⟨k39, hk39, ek39⟩ := aw_place (n := 52) hb33 hb36 (by omega)
        refine aw_ti (y := nI k39) ek39 ?_
        have fk39 : (i).toNatClampNeg = k39 := by rw [ek39, nI_clamp (by omega)]
        refine aw_ild hx hb hK hP (3 + 16 * j + 13) 0 he38 rfl (k := k39) (by omega) (by decide) d_Ci_wordAt_22 ?_
        clear he38
        refine ag_topi (fun x40 ex40 => ?_)
        exact W.iret hx hb hr (fun t ht hW => ⟨⟨_, (), rfl, (by subst ex40 fk39; unfold v_Ci_wordAtV; rw [if_neg (show ¬ 12 = 2 by decide), if_neg (show ¬ 12 = 5 by decide), if_neg (show ¬ 12 = 7 by decide), if_neg (show ¬ 12 = 10 by decide), if_neg hb33, if_pos hb36]), ag_Hr ht hP hD hSh⟩, hS.F ht⟩) hS.2.2 d_Ci_wordAt_23
      · refine lv_iconst (v := (-1)) hx hb d_Ci_wordAt_13 (by decide +kernel) ?_
        refine lv_goto (tgt := 23) hx hb d_Ci_wordAt_14 (by decide) ?_
        exact W.iret hx hb hr (fun t ht hW => ⟨⟨_, (), rfl, (by unfold v_Ci_wordAtV; rw [if_neg (show ¬ 12 = 2 by decide), if_neg (show ¬ 12 = 5 by decide), if_neg (show ¬ 12 = 7 by decide), if_neg (show ¬ 12 = 10 by decide), if_neg hb33, if_neg hb36]), ag_Hr ht hP hD hSh⟩, hS.F ht⟩) hS.2.2 d_Ci_wordAt_23
