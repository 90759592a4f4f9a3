abbrev ws_Ru_readBlock : List Cond := Cond.code y_Ru_readBlock b_Ru_readBlock 5 (some .long) :: aw_G
abbrev rm_Ru_readBlock : Room := { frames := 0, cells := 0, slots := 0, locals := 0 }
set_option maxHeartbeats 4000000 in
set_option maxRecDepth 100000 in
theorem k_Ru_readBlock (l : Launch) (D : va_G) (g : Nat → ClassId) (ad : Nat → Nat) (G M : Nat → Nat × Nat) (F : Int32) (N0 : Nat) (k : Nat) (hk : k ≤ 56) : Met l y_Ru_readBlock ws_Ru_readBlock rm_Ru_readBlock (va_Pc ([.ref (aw_r ad 2), .int (nI k)] : List Value) (aw_B D g ad G M F N0)) (va_Ql (fun r (_ : Unit) => True) (fun (_ : Unit) t => aw_H D g ad G M F N0 t.heap) (aw_Z N0)) 0 0 (aw_Z N0) := by
  refine Met.ofW (cc := b_Ru_readBlock) (maxL := 5) (ret := (some .long)) (by decide) rfl ?_
  intro p e s m args below meth c s₁ B hml hv
  obtain ⟨rfl, ⟨L, hP, hD, hSh⟩, hU⟩ := hv
  have hx := B.exec
  have hb := B.bytes
  have hr := B.returns
  have hG : ∀ w ∈ aw_G, w.before _ s = true := fun w h => atoms_spec (ws := ws_Ru_readBlock) B.pre w (List.mem_cons_of_mem _ h)
  have hown : s.vm.findClass "RuleCiphers" = some m.cls := findClass_of_methodNamed B.named
  have hlocks := B.notSynchronized
  have hE := hU.1
  have hK := hE.1
  have hN := hE.2.1
  have hS : va_S (aw_Z N0) s.heap s.heap [] := va_S.rf
  have hl := lv_entry ([.ref (aw_r ad 2), .int (nI k)] : List Value) (n := 5) (Nat.le_of_ble_eq_true rfl)
  rw [lg_entry_eq]
  generalize (lg_sl ([.ref (aw_r ad 2), .int (nI k)] : List Value) ++ List.replicate (5 - (lg_sl ([.ref (aw_r ad 2), .int (nI k)] : List Value)).length) Slot.unset).toArray = ls at hl ⊢
  have hl : lv_has ls 5 [(0, .ref (aw_r ad 2)), (1, .int (nI k))] := hl
  refine lv_lconst (v := 0) hx hb d_Ru_readBlock_0 (by decide +kernel) ?_
  refine lv_lstore_n hx hb d_Ru_readBlock_1 rfl hl (by decide) rfl (fun ls hl => ?_)
  have hl : lv_has ls 5 [(2, .long 0), (0, .ref (aw_r ad 2)), (1, .int (nI k))] := hl
  refine lv_iconst (v := nI 0) hx hb d_Ru_readBlock_2 (by decide +kernel) ?_
  refine lv_istore hx hb d_Ru_readBlock_3 hl (by decide) rfl (fun ls hl => ?_)
  have hl : lv_has ls 5 [(4, .int (nI 0)), (2, .long 0), (0, .ref (aw_r ad 2)), (1, .int (nI k))] := hl
  have L5 : ∀ (d t : Nat) (y1 : Int64) (H : Heap) (locs : List Loc) (L : va_W) (ls : Array Slot), t + d = 8 → va_P D aw_C L H → va_D (aw_Z N0) L → aw_Sh g ad G M F L → va_S (aw_Z N0) s.heap H locs → lv_has ls 5 [(0, .ref (aw_r ad 2)), (1, .int (nI k)), (2, .long y1), (4, .int (nI t))] → W p l e (headSpec ws_Ru_readBlock rm_Ru_readBlock).room s m ([.ref (aw_r ad 2), .int (nI k)] : List Value).toArray below meth c H locs 0 0 (MQ below (va_Ql (fun r (_ : Unit) => True) (fun (_ : Unit) t => aw_H D g ad G M F N0 t.heap) (aw_Z N0)) ([.ref (aw_r ad 2), .int (nI k)] : List Value).toArray s 0 0 (aw_Z N0)) (F0 m 5 ls []) := by
    clear hP hD hSh hS
    clear hl
    intro d
    induction d with
    | zero => 
      intro t y1 H locs L ls ht0 hP hD hSh hS hl
      refine lv_iload hx hb d_Ru_readBlock_5 (lv_at hl 3 rfl) ?_
      refine lv_bipush (v := nI 8) hx hb d_Ru_readBlock_7 (by decide +kernel) ?_
      refine lv_icmp_ge (tgt := 31) hx hb d_Ru_readBlock_9 (by decide) (fun _ => ?_) (fun h => absurd (show nI 8 ≤ nI t from (nI_leI (by omega) (by omega)).mpr (by omega)) h)
      refine lv_lload_n hx hb d_Ru_readBlock_31 rfl (lv_at hl 2 rfl) ?_
      exact W.lret hx hb hr (fun t ht hW => ⟨⟨_, (), rfl, trivial, aw_Hr ht hP hD hSh⟩, hS.F ht⟩) hS.2.2 d_Ru_readBlock_32
    | succ d ih => 
      intro t y1 H locs L ls ht0 hP hD hSh hS hl
      refine lv_iload hx hb d_Ru_readBlock_5 (lv_at hl 3 rfl) ?_
      refine lv_bipush (v := nI 8) hx hb d_Ru_readBlock_7 (by decide +kernel) ?_
      refine lv_icmp_ge (tgt := 31) hx hb d_Ru_readBlock_9 (by decide) (fun h => absurd h (show ¬ nI 8 ≤ nI t from fun h9 => absurd ((nI_leI (by omega) (by omega)).mp h9) (by omega))) (fun _ => ?_)
      refine lv_lload_n hx hb d_Ru_readBlock_12 rfl (lv_at hl 2 rfl) ?_
      refine lv_bipush (v := nI 8) hx hb d_Ru_readBlock_13 (by decide +kernel) ?_
      refine lv_lshl hx hb d_Ru_readBlock_15 rfl ?_
      refine lv_topl (fun y2 _ => ?_)
      refine lv_aload_n hx hb d_Ru_readBlock_16 rfl (lv_at hl 0 rfl) ?_
      refine lv_iload_n hx hb d_Ru_readBlock_17 rfl (lv_at hl 1 rfl) ?_
      refine lv_iload hx hb d_Ru_readBlock_18 (lv_at hl 3 rfl) ?_
      refine lv_iadd hx hb d_Ru_readBlock_20 ?_
      refine aw_ti (nI_add k t) ?_
      obtain ⟨f4, he3⟩ := rd_R2 hSh
      refine aw_ild hx hb hK hP 2 0 he3 rfl (k := (k + t)) (by omega) (by decide) d_Ru_readBlock_21 ?_
      refine lv_topi (fun x5 _ => ?_)
      refine lv_i2l hx hb d_Ru_readBlock_22 rfl ?_
      refine lv_topl (fun y6 _ => ?_)
      refine lv_lor hx hb d_Ru_readBlock_23 ?_
      refine lv_topl (fun y7 _ => ?_)
      refine lv_lstore_n hx hb d_Ru_readBlock_24 rfl hl (by decide) rfl (fun ls hl => ?_)
      have hl : lv_has ls 5 [(2, .long y7), (0, .ref (aw_r ad 2)), (1, .int (nI k)), (4, .int (nI t))] := hl
      refine lv_iinc (k := 3) (v := nI (t + 1)) hx hb d_Ru_readBlock_25 hl rfl (aw_inc t 1 1 (by decide +kernel)) (by decide) rfl (fun ls hl => ?_)
      have hl : lv_has ls 5 [(4, .int (nI (t + 1))), (2, .long y7), (0, .ref (aw_r ad 2)), (1, .int (nI k))] := hl
      refine lv_goto (tgt := 5) hx hb d_Ru_readBlock_28 (by decide) ?_
      have hl := lv_sub hl (l' := [(0, .ref (aw_r ad 2)), (1, .int (nI k)), (2, .long y7), (4, .int (nI (t + 1)))]) [2, 3, 1, 0] rfl
      exact ih (t + 1) y7 H locs L ls (by omega) hP hD hSh hS (by first | exact hl | simpa [Nat.add_assoc, Nat.mul_add, Nat.add_comm] using hl)
  have hl := lv_sub hl (l' := [(0, .ref (aw_r ad 2)), (1, .int (nI k)), (2, .long 0), (4, .int (nI 0))]) [2, 3, 1, 0] rfl
  exact L5 8 0 0 _ _ _ ls (by omega) hP hD hSh hS (by first | exact hl | simpa using hl)
abbrev ws_Ru_writeBlock : List Cond := Cond.code y_Ru_writeBlock b_Ru_writeBlock 5 none :: aw_G
abbrev rm_Ru_writeBlock : Room := { frames := 1, cells := 0, slots := 0, locals := 22 }
set_option maxHeartbeats 4000000 in
set_option maxRecDepth 100000 in
theorem k_Ru_writeBlock (l : Launch) (D : va_G) (g : Nat → ClassId) (ad : Nat → Nat) (G M : Nat → Nat × Nat) (F : Int32) (N0 : Nat) (k : Nat) (b : Int64) (hk : k ≤ 56) : Met l y_Ru_writeBlock ws_Ru_writeBlock rm_Ru_writeBlock (va_Pc ([.ref (aw_r ad 2), .int (nI k), .long b] : List Value) (aw_B D g ad G M F N0)) (va_Qv (fun (_ : Unit) => True) (fun (_ : Unit) t => aw_H D g ad G M F N0 t.heap) (aw_Z N0)) 0 0 (aw_Z N0) := by
  refine Met.ofW (cc := b_Ru_writeBlock) (maxL := 5) (ret := none) (by decide) rfl ?_
  intro p e s m args below meth c s₁ B hml hv
  obtain ⟨rfl, ⟨L, hP, hD, hSh⟩, hU⟩ := hv
  have hx := B.exec
  have hb := B.bytes
  have hr := B.returns
  have hG : ∀ w ∈ aw_G, w.before _ s = true := fun w h => atoms_spec (ws := ws_Ru_writeBlock) B.pre w (List.mem_cons_of_mem _ h)
  have hown : s.vm.findClass "RuleCiphers" = some m.cls := findClass_of_methodNamed B.named
  have hlocks := B.notSynchronized
  have hE := hU.1
  have hK := hE.1
  have hN := hE.2.1
  have hS : va_S (aw_Z N0) s.heap s.heap [] := va_S.rf
  have hl := lv_entry ([.ref (aw_r ad 2), .int (nI k), .long b] : List Value) (n := 5) (Nat.le_of_ble_eq_true rfl)
  rw [lg_entry_eq]
  generalize (lg_sl ([.ref (aw_r ad 2), .int (nI k), .long b] : List Value) ++ List.replicate (5 - (lg_sl ([.ref (aw_r ad 2), .int (nI k), .long b] : List Value)).length) Slot.unset).toArray = ls at hl ⊢
  have hl : lv_has ls 5 [(0, .ref (aw_r ad 2)), (1, .int (nI k)), (2, .long b)] := hl
  refine lv_iconst (v := nI 0) hx hb d_Ru_writeBlock_0 (by decide +kernel) ?_
  refine lv_istore hx hb d_Ru_writeBlock_1 hl (by decide) rfl (fun ls hl => ?_)
  have hl : lv_has ls 5 [(4, .int (nI 0)), (0, .ref (aw_r ad 2)), (1, .int (nI k)), (2, .long b)] := hl
  have L3 : ∀ (d t : Nat)  (H : Heap) (locs : List Loc) (L : va_W) (ls : Array Slot), t + d = 8 → va_P D aw_C L H → va_D (aw_Z N0) L → aw_Sh g ad G M F L → va_S (aw_Z N0) s.heap H locs → lv_has ls 5 [(0, .ref (aw_r ad 2)), (1, .int (nI k)), (2, .long b), (4, .int (nI t))] → W p l e (headSpec ws_Ru_writeBlock rm_Ru_writeBlock).room s m ([.ref (aw_r ad 2), .int (nI k), .long b] : List Value).toArray below meth c H locs 0 0 (MQ below (va_Qv (fun (_ : Unit) => True) (fun (_ : Unit) t => aw_H D g ad G M F N0 t.heap) (aw_Z N0)) ([.ref (aw_r ad 2), .int (nI k), .long b] : List Value).toArray s 0 0 (aw_Z N0)) (F0 m 3 ls []) := by
    clear hP hD hSh hS
    clear hl
    intro d
    induction d with
    | zero => 
      intro t  H locs L ls ht0 hP hD hSh hS hl
      refine lv_iload hx hb d_Ru_writeBlock_3 (lv_at hl 3 rfl) ?_
      refine lv_bipush (v := nI 8) hx hb d_Ru_writeBlock_5 (by decide +kernel) ?_
      refine lv_icmp_ge (tgt := 28) hx hb d_Ru_writeBlock_7 (by decide) (fun _ => ?_) (fun h => absurd (show nI 8 ≤ nI t from (nI_leI (by omega) (by omega)).mpr (by omega)) h)
      exact W.vret hx hb hr (fun t ht hW => ⟨⟨(), rfl, trivial, aw_Hr ht hP hD hSh⟩, hS.F ht⟩) hS.2.2 d_Ru_writeBlock_28
    | succ d ih => 
      intro t  H locs L ls ht0 hP hD hSh hS hl
      refine lv_iload hx hb d_Ru_writeBlock_3 (lv_at hl 3 rfl) ?_
      refine lv_bipush (v := nI 8) hx hb d_Ru_writeBlock_5 (by decide +kernel) ?_
      refine lv_icmp_ge (tgt := 28) hx hb d_Ru_writeBlock_7 (by decide) (fun h => absurd h (show ¬ nI 8 ≤ nI t from fun h9 => absurd ((nI_leI (by omega) (by omega)).mp h9) (by omega))) (fun _ => ?_)
      refine lv_aload_n hx hb d_Ru_writeBlock_10 rfl (lv_at hl 0 rfl) ?_
      refine lv_iload_n hx hb d_Ru_writeBlock_11 rfl (lv_at hl 1 rfl) ?_
      refine lv_iload hx hb d_Ru_writeBlock_12 (lv_at hl 3 rfl) ?_
      refine lv_iadd hx hb d_Ru_writeBlock_14 ?_
      refine aw_ti (nI_add k t) ?_
      refine lv_lload_n hx hb d_Ru_writeBlock_15 rfl (lv_at hl 2 rfl) ?_
      refine lv_iload hx hb d_Ru_writeBlock_16 (lv_at hl 3 rfl) ?_
      refine aw_ci ((va_runS (As := [.long b, .int (nI t)]) (rest := [.int (nI (k + t)), .ref (aw_r ad 2)]) ⟨hx, hb, hml, hown, hG⟩ (k_Ru_byteOf l b (nI t)) (aw_wS 2 hG gw_8_9 gw_8_7 gw_0_1 gw_8_8 rfl rfl hd_Ru_byteOf ⟨Nat.le_of_ble_eq_true rfl, Nat.le_of_ble_eq_true rfl⟩) aw_p0 rfl rfl hl.1 rfl (lv_room (Nat.le_of_ble_eq_true rfl)) d_Ru_writeBlock_18 ⟨Nat.le_of_ble_eq_true rfl, Nat.le_of_ble_eq_true rfl⟩).run) (fun x1 hx1 => ?_)
      obtain ⟨f3, he2⟩ := rd_R2 hSh
      refine aw_istI hx hb hK hP hD hS 2 0 he2 rfl (k := (k + t)) (by omega) (by decide) d_Ru_writeBlock_21 (wr_R2 hSh _) (fun H locs L hP hD hSh hS => ?_)
      refine lv_iinc (k := 3) (v := nI (t + 1)) hx hb d_Ru_writeBlock_22 hl rfl (aw_inc t 1 1 (by decide +kernel)) (by decide) rfl (fun ls hl => ?_)
      have hl : lv_has ls 5 [(4, .int (nI (t + 1))), (0, .ref (aw_r ad 2)), (1, .int (nI k)), (2, .long b)] := hl
      refine lv_goto (tgt := 3) hx hb d_Ru_writeBlock_25 (by decide) ?_
      have hl := lv_sub hl (l' := [(0, .ref (aw_r ad 2)), (1, .int (nI k)), (2, .long b), (4, .int (nI (t + 1)))]) [1, 2, 3, 0] rfl
      exact ih (t + 1)  H locs L ls (by omega) hP hD hSh hS (by first | exact hl | simpa [Nat.add_assoc, Nat.mul_add, Nat.add_comm] using hl)
  have hl := lv_sub hl (l' := [(0, .ref (aw_r ad 2)), (1, .int (nI k)), (2, .long b), (4, .int (nI 0))]) [1, 2, 3, 0] rfl
  exact L3 8 0  _ _ _ ls (by omega) hP hD hSh hS (by first | exact hl | simpa using hl)
abbrev ws_Ci_onOrBack : List Cond := Cond.code y_Ci_onOrBack b_Ci_onOrBack 4 (some .long) :: aw_G
abbrev rm_Ci_onOrBack : Room := { frames := 3, cells := 0, slots := 0, locals := 79 }
set_option maxHeartbeats 4000000 in
set_option maxRecDepth 100000 in
theorem k_Ci_onOrBack (l : Launch) (D : va_G) (g : Nat → ClassId) (ad : Nat → Nat) (G M : Nat → Nat × Nat) (F : Int32) (N0 : Nat) (j : Nat) (o : Nat) (bk : Int32) (b : Int64) (hj : j < 4) (ho : aw_cof o) : Met l y_Ci_onOrBack ws_Ci_onOrBack rm_Ci_onOrBack (va_Pc ([.ref (aw_c ad j o), .int bk, .long b] : List Value) (aw_B D g ad G M F N0)) (va_Ql (fun r (_ : Unit) => True) (fun (_ : Unit) t => aw_H D g ad G M F N0 t.heap) (aw_Z N0)) 0 0 (aw_Z N0) := by
  refine Met.ofW (cc := b_Ci_onOrBack) (maxL := 4) (ret := (some .long)) (by decide) rfl ?_
  intro p e s m args below meth c s₁ B hml hv
  obtain ⟨rfl, ⟨L, hP, hD, hSh⟩, hU⟩ := hv
  have hx := B.exec
  have hb := B.bytes
  have hr := B.returns
  have hG : ∀ w ∈ aw_G, w.before _ s = true := fun w h => atoms_spec (ws := ws_Ci_onOrBack) B.pre w (List.mem_cons_of_mem _ h)
  have hown : s.vm.findClass "RuleCiphers$Cipher" = some m.cls := findClass_of_methodNamed B.named
  have hlocks := B.notSynchronized
  have hE := hU.1
  have hK := hE.1
  have hN := hE.2.1
  have hS : va_S (aw_Z N0) s.heap s.heap [] := va_S.rf
  have hl := lv_entry ([.ref (aw_c ad j o), .int bk, .long b] : List Value) (n := 4) (Nat.le_of_ble_eq_true rfl)
  rw [lg_entry_eq]
  generalize (lg_sl ([.ref (aw_c ad j o), .int bk, .long b] : List Value) ++ List.replicate (4 - (lg_sl ([.ref (aw_c ad j o), .int bk, .long b] : List Value)).length) Slot.unset).toArray = ls at hl ⊢
  have hl : lv_has ls 4 [(0, .ref (aw_c ad j o)), (1, .int bk), (2, .long b)] := hl
  refine lv_iload_n hx hb d_Ci_onOrBack_0 rfl (lv_at hl 1 rfl) ?_
  refine lv_if_eq (tgt := 12) hx hb d_Ci_onOrBack_1 (by decide) (fun hb1 => ?_) (fun hb1 => ?_)
  · refine lv_aload_n hx hb d_Ci_onOrBack_12 rfl (lv_at hl 0 rfl) ?_
    refine lv_lload_n hx hb d_Ci_onOrBack_13 rfl (lv_at hl 2 rfl) ?_
    have hrun2 : va_Run p l e (headSpec ws_Ci_onOrBack rm_Ci_onOrBack).room s m ([.ref (aw_c ad j o), .int bk, .long b] : List Value).toArray below meth c s.heap [] 0 0 0 0 (F0 m 14 ls [.long b, .ref (aw_c ad j o)]) [] (va_Ql (fun r (_ : Unit) => True) (fun (_ : Unit) t => aw_H D g ad G M F N0 t.heap) (aw_Z N0) ([.ref (aw_c ad j o), .long b] : List Value).toArray) (aw_Z N0) := by
      rcases ho with rfl | rfl | rfl | rfl | rfl
      · have he3 := rd_C2 hSh hj
        exact va_runU (As := [.long b]) (rest := []) ⟨hx, hb, hml, hown, hG⟩ (k_Rc_on l D g ad G M F N0 j b hj) (aw_wA (owner := "RuleCiphers$Cipher") 1 hG hN gw_6_57 gw_6_50 gw_6_51 gw_6_55 gw_6_56 gw_0_4 nw_36 rfl rfl hd_Ci_on ⟨Nat.le_of_ble_eq_true rfl, Nat.le_of_ble_eq_true rfl⟩) (aw_qV (va_recv hK hP rfl he3) hP hD hSh hU hS) rfl rfl hl.1 rfl (lv_room (Nat.le_of_ble_eq_true rfl)) d_Ci_onOrBack_14 ⟨Nat.le_of_ble_eq_true rfl, Nat.le_of_ble_eq_true rfl⟩
      · have he4 := rd_C5 hSh hj
        exact va_runU (As := [.long b]) (rest := []) ⟨hx, hb, hml, hown, hG⟩ (k_Xt_on l D g ad G M F N0 j b hj) (aw_wA (owner := "RuleCiphers$Cipher") 1 hG hN gw_7_6 gw_6_50 gw_6_51 gw_7_4 gw_7_5 gw_0_5 nw_36 rfl rfl hd_Ci_on ⟨Nat.le_of_ble_eq_true rfl, Nat.le_of_ble_eq_true rfl⟩) (aw_qV (va_recv hK hP rfl he4) hP hD hSh hU hS) rfl rfl hl.1 rfl (lv_room (Nat.le_of_ble_eq_true rfl)) d_Ci_onOrBack_14 ⟨Nat.le_of_ble_eq_true rfl, Nat.le_of_ble_eq_true rfl⟩
      · have he5 := rd_C7 hSh hj
        exact va_runU (As := [.long b]) (rest := []) ⟨hx, hb, hml, hown, hG⟩ (k_Sp_on l D g ad G M F N0 j b hj) (aw_wA (owner := "RuleCiphers$Cipher") 1 hG hN gw_7_3 gw_6_50 gw_6_51 gw_7_1 gw_7_2 gw_0_6 nw_36 rfl rfl hd_Ci_on ⟨Nat.le_of_ble_eq_true rfl, Nat.le_of_ble_eq_true rfl⟩) (aw_qV (va_recv hK hP rfl he5) hP hD hSh hU hS) rfl rfl hl.1 rfl (lv_room (Nat.le_of_ble_eq_true rfl)) d_Ci_onOrBack_14 ⟨Nat.le_of_ble_eq_true rfl, Nat.le_of_ble_eq_true rfl⟩
      · have he6 := rd_C10 hSh hj
        exact va_runU (As := [.long b]) (rest := []) ⟨hx, hb, hml, hown, hG⟩ (k_Si_on l D g ad G M F N0 j b hj) (aw_wA (owner := "RuleCiphers$Cipher") 1 hG hN gw_7_0 gw_6_50 gw_6_51 gw_6_58 gw_6_59 gw_0_7 nw_36 rfl rfl hd_Ci_on ⟨Nat.le_of_ble_eq_true rfl, Nat.le_of_ble_eq_true rfl⟩) (aw_qV (va_recv hK hP rfl he6) hP hD hSh hU hS) rfl rfl hl.1 rfl (lv_room (Nat.le_of_ble_eq_true rfl)) d_Ci_onOrBack_14 ⟨Nat.le_of_ble_eq_true rfl, Nat.le_of_ble_eq_true rfl⟩
      · have he7 := rd_C12 hSh hj
        exact va_runU (As := [.long b]) (rest := []) ⟨hx, hb, hml, hown, hG⟩ (k_Id_on l D g ad G M F N0 j b hj) (aw_wA (owner := "RuleCiphers$Cipher") 1 hG hN gw_6_54 gw_6_50 gw_6_51 gw_6_52 gw_6_53 gw_0_8 nw_36 rfl rfl hd_Ci_on ⟨Nat.le_of_ble_eq_true rfl, Nat.le_of_ble_eq_true rfl⟩) (aw_qV (va_recv hK hP rfl he7) hP hD hSh hU hS) rfl rfl hl.1 rfl (lv_room (Nat.le_of_ble_eq_true rfl)) d_Ci_onOrBack_14 ⟨Nat.le_of_ble_eq_true rfl, Nat.le_of_ble_eq_true rfl⟩
    refine va_calll hrun2 hS (fun _ _ h => h) (fun _ h => h) (fun y8 u8 t8 H locs ht _ _ hB _ _ hS => ?_)
    obtain ⟨L, hP, hD, hSh⟩ := hB
    rw [ht] at hP
    clear ht
    exact W.lret hx hb hr (fun t ht hW => ⟨⟨_, (), rfl, trivial, aw_Hr ht hP hD hSh⟩, hS.F ht⟩) hS.2.2 d_Ci_onOrBack_17
  · refine lv_aload_n hx hb d_Ci_onOrBack_4 rfl (lv_at hl 0 rfl) ?_
    refine lv_lload_n hx hb d_Ci_onOrBack_5 rfl (lv_at hl 2 rfl) ?_
    have hrun9 : va_Run p l e (headSpec ws_Ci_onOrBack rm_Ci_onOrBack).room s m ([.ref (aw_c ad j o), .int bk, .long b] : List Value).toArray below meth c s.heap [] 0 0 0 0 (F0 m 6 ls [.long b, .ref (aw_c ad j o)]) [] (va_Ql (fun r (_ : Unit) => True) (fun (_ : Unit) t => aw_H D g ad G M F N0 t.heap) (aw_Z N0) ([.ref (aw_c ad j o), .long b] : List Value).toArray) (aw_Z N0) := by
      rcases ho with rfl | rfl | rfl | rfl | rfl
      · have he10 := rd_C2 hSh hj
        exact va_runU (As := [.long b]) (rest := []) ⟨hx, hb, hml, hown, hG⟩ (k_Rc_back l D g ad G M F N0 j b hj) (aw_wA (owner := "RuleCiphers$Cipher") 1 hG hN gw_6_29 gw_6_9 gw_6_10 gw_6_27 gw_6_28 gw_0_4 nw_21 rfl rfl hd_Ci_back ⟨Nat.le_of_ble_eq_true rfl, Nat.le_of_ble_eq_true rfl⟩) (aw_qV (va_recv hK hP rfl he10) hP hD hSh hU hS) rfl rfl hl.1 rfl (lv_room (Nat.le_of_ble_eq_true rfl)) d_Ci_onOrBack_6 ⟨Nat.le_of_ble_eq_true rfl, Nat.le_of_ble_eq_true rfl⟩
      · have he11 := rd_C5 hSh hj
        exact va_runU (As := [.long b]) (rest := []) ⟨hx, hb, hml, hown, hG⟩ (k_Xt_back l D g ad G M F N0 j b hj) (aw_wA (owner := "RuleCiphers$Cipher") 1 hG hN gw_6_44 gw_6_9 gw_6_10 gw_6_42 gw_6_43 gw_0_5 nw_21 rfl rfl hd_Ci_back ⟨Nat.le_of_ble_eq_true rfl, Nat.le_of_ble_eq_true rfl⟩) (aw_qV (va_recv hK hP rfl he11) hP hD hSh hU hS) rfl rfl hl.1 rfl (lv_room (Nat.le_of_ble_eq_true rfl)) d_Ci_onOrBack_6 ⟨Nat.le_of_ble_eq_true rfl, Nat.le_of_ble_eq_true rfl⟩
      · have he12 := rd_C7 hSh hj
        exact va_runU (As := [.long b]) (rest := []) ⟨hx, hb, hml, hown, hG⟩ (k_Sp_back l D g ad G M F N0 j b hj) (aw_wA (owner := "RuleCiphers$Cipher") 1 hG hN gw_6_41 gw_6_9 gw_6_10 gw_6_39 gw_6_40 gw_0_6 nw_21 rfl rfl hd_Ci_back ⟨Nat.le_of_ble_eq_true rfl, Nat.le_of_ble_eq_true rfl⟩) (aw_qV (va_recv hK hP rfl he12) hP hD hSh hU hS) rfl rfl hl.1 rfl (lv_room (Nat.le_of_ble_eq_true rfl)) d_Ci_onOrBack_6 ⟨Nat.le_of_ble_eq_true rfl, Nat.le_of_ble_eq_true rfl⟩
      · have he13 := rd_C10 hSh hj
        exact va_runU (As := [.long b]) (rest := []) ⟨hx, hb, hml, hown, hG⟩ (k_Si_back l D g ad G M F N0 j b hj) (aw_wA (owner := "RuleCiphers$Cipher") 1 hG hN gw_6_35 gw_6_9 gw_6_10 gw_6_33 gw_6_34 gw_0_7 nw_21 rfl rfl hd_Ci_back ⟨Nat.le_of_ble_eq_true rfl, Nat.le_of_ble_eq_true rfl⟩) (aw_qV (va_recv hK hP rfl he13) hP hD hSh hU hS) rfl rfl hl.1 rfl (lv_room (Nat.le_of_ble_eq_true rfl)) d_Ci_onOrBack_6 ⟨Nat.le_of_ble_eq_true rfl, Nat.le_of_ble_eq_true rfl⟩
      · have he14 := rd_C12 hSh hj
        exact va_runU (As := [.long b]) (rest := []) ⟨hx, hb, hml, hown, hG⟩ (k_Id_back l D g ad G M F N0 j b hj) (aw_wA (owner := "RuleCiphers$Cipher") 1 hG hN gw_6_13 gw_6_9 gw_6_10 gw_6_11 gw_6_12 gw_0_8 nw_21 rfl rfl hd_Ci_back ⟨Nat.le_of_ble_eq_true rfl, Nat.le_of_ble_eq_true rfl⟩) (aw_qV (va_recv hK hP rfl he14) hP hD hSh hU hS) rfl rfl hl.1 rfl (lv_room (Nat.le_of_ble_eq_true rfl)) d_Ci_onOrBack_6 ⟨Nat.le_of_ble_eq_true rfl, Nat.le_of_ble_eq_true rfl⟩
    refine va_calll hrun9 hS (fun _ _ h => h) (fun _ h => h) (fun y15 u8 t8 H locs ht _ _ hB _ _ hS => ?_)
    obtain ⟨L, hP, hD, hSh⟩ := hB
    rw [ht] at hP
    clear ht
    refine lv_goto (tgt := 17) hx hb d_Ci_onOrBack_9 (by decide) ?_
    exact W.lret hx hb hr (fun t ht hW => ⟨⟨_, (), rfl, trivial, aw_Hr ht hP hD hSh⟩, hS.F ht⟩) hS.2.2 d_Ci_onOrBack_17
abbrev ws_Ci_wordAt : List Cond := Cond.code y_Ci_wordAt b_Ci_wordAt 2 (some .int) :: aw_G
abbrev rm_Ci_wordAt : Room := { frames := 0, cells := 0, slots := 0, locals := 0 }
set_option maxHeartbeats 4000000 in
set_option maxRecDepth 100000 in
theorem k_Ci_wordAt (l : Launch) (D : va_G) (g : Nat → ClassId) (ad : Nat → Nat) (G M : Nat → Nat × Nat) (F : Int32) (N0 : Nat) (j : Nat) (o : Nat) (i : Int32) (hj : j < 4) (ho : aw_cof o) : Met l y_Ci_wordAt ws_Ci_wordAt rm_Ci_wordAt (va_Pc ([.ref (aw_c ad j o), .int i] : List Value) (aw_B D g ad G M F N0)) (va_Qi (fun r (_ : Unit) => True) (fun (_ : Unit) t => aw_H D g ad G M F N0 t.heap) (aw_Z N0)) 0 0 (aw_Z N0) := by
  refine Met.ofW (cc := b_Ci_wordAt) (maxL := 2) (ret := (some .int)) (by decide) rfl ?_
  intro p e s m args below meth c s₁ B hml hv
  obtain ⟨rfl, ⟨L, hP, hD, hSh⟩, hU⟩ := hv
  have hx := B.exec
  have hb := B.bytes
  have hr := B.returns
  have hG : ∀ w ∈ aw_G, w.before _ s = true := fun w h => atoms_spec (ws := ws_Ci_wordAt) B.pre w (List.mem_cons_of_mem _ h)
  have hown : s.vm.findClass "RuleCiphers$Cipher" = some m.cls := findClass_of_methodNamed B.named
  have hlocks := B.notSynchronized
  have hE := hU.1
  have hK := hE.1
  have hN := hE.2.1
  have hS : va_S (aw_Z N0) s.heap s.heap [] := va_S.rf
  have hl := lv_entry ([.ref (aw_c ad j o), .int i] : List Value) (n := 2) (Nat.le_of_ble_eq_true rfl)
  rw [lg_entry_eq]
  generalize (lg_sl ([.ref (aw_c ad j o), .int i] : List Value) ++ List.replicate (2 - (lg_sl ([.ref (aw_c ad j o), .int i] : List Value)).length) Slot.unset).toArray = ls at hl ⊢
  have hl : lv_has ls 2 [(0, .ref (aw_c ad j o)), (1, .int i)] := hl
  rcases ho with rfl | rfl | rfl | rfl | rfl
  · refine lv_iload_n hx hb d_Ci_wordAt_0 rfl (lv_at hl 1 rfl) ?_
    refine lv_if_lt (tgt := 13) hx hb d_Ci_wordAt_1 (by decide) (fun hb1 => ?_) (fun hb1 => ?_)
    · refine lv_iconst (v := (-1)) hx hb d_Ci_wordAt_13 (by decide +kernel) ?_
      refine lv_goto (tgt := 23) hx hb d_Ci_wordAt_14 (by decide) ?_
      exact W.iret hx hb hr (fun t ht hW => ⟨⟨_, (), rfl, trivial, aw_Hr ht hP hD hSh⟩, hS.F ht⟩) hS.2.2 d_Ci_wordAt_23
    · refine lv_iload_n hx hb d_Ci_wordAt_4 rfl (lv_at hl 1 rfl) ?_
      refine lv_aload_n hx hb d_Ci_wordAt_5 rfl (lv_at hl 0 rfl) ?_
      have he2 := rd_C2 hSh hj
      refine va_get (C := R_Rc) (T := T_Rc) (N := 2) (v := .ref (aw_c ad j 3)) hx hb hG in_Rc hown hK hP (3 + 16 * j + 2) he2 rfl 0 (by decide) (hG _ gw_0_41) (fun _ h => h) rfl d_Ci_wordAt_6 ?_
      obtain ⟨f4, he3⟩ := rd_C3 hSh hj
      refine va_alen (v := nI 26) hx hb hK hP (3 + 16 * j + 3) 0 he3 rfl rfl d_Ci_wordAt_9 ?_
      refine lv_icmp_lt (tgt := 17) hx hb d_Ci_wordAt_10 (by decide) (fun hb5 => ?_) (fun hb5 => ?_)
      · refine lv_aload_n hx hb d_Ci_wordAt_17 rfl (lv_at hl 0 rfl) ?_
        have he6 := rd_C2 hSh hj
        refine va_get (C := R_Rc) (T := T_Rc) (N := 2) (v := .ref (aw_c ad j 3)) hx hb hG in_Rc hown hK hP (3 + 16 * j + 2) he6 rfl 0 (by decide) (hG _ gw_0_41) (fun _ h => h) rfl d_Ci_wordAt_18 ?_
        refine lv_iload_n hx hb d_Ci_wordAt_21 rfl (lv_at hl 1 rfl) ?_
        obtain ⟨f8, he7⟩ := rd_C3 hSh hj
        obtain ⟨k9, hk9, ek9⟩ := aw_place (n := 26) hb1 hb5 (by omega)
        refine aw_ti (y := nI k9) ek9 ?_
        refine aw_ild hx hb hK hP (3 + 16 * j + 3) 0 he7 rfl (k := k9) (by omega) (by decide) d_Ci_wordAt_22 ?_
        refine lv_topi (fun x10 _ => ?_)
        exact W.iret hx hb hr (fun t ht hW => ⟨⟨_, (), rfl, trivial, aw_Hr ht hP hD hSh⟩, hS.F ht⟩) hS.2.2 d_Ci_wordAt_23
      · refine lv_iconst (v := (-1)) hx hb d_Ci_wordAt_13 (by decide +kernel) ?_
        refine lv_goto (tgt := 23) hx hb d_Ci_wordAt_14 (by decide) ?_
        exact W.iret hx hb hr (fun t ht hW => ⟨⟨_, (), rfl, trivial, aw_Hr ht hP hD hSh⟩, hS.F ht⟩) hS.2.2 d_Ci_wordAt_23
  · refine lv_iload_n hx hb d_Ci_wordAt_0 rfl (lv_at hl 1 rfl) ?_
    refine lv_if_lt (tgt := 13) hx hb d_Ci_wordAt_1 (by decide) (fun hb11 => ?_) (fun hb11 => ?_)
    · refine lv_iconst (v := (-1)) hx hb d_Ci_wordAt_13 (by decide +kernel) ?_
      refine lv_goto (tgt := 23) hx hb d_Ci_wordAt_14 (by decide) ?_
      exact W.iret hx hb hr (fun t ht hW => ⟨⟨_, (), rfl, trivial, aw_Hr ht hP hD hSh⟩, hS.F ht⟩) hS.2.2 d_Ci_wordAt_23
    · refine lv_iload_n hx hb d_Ci_wordAt_4 rfl (lv_at hl 1 rfl) ?_
      refine lv_aload_n hx hb d_Ci_wordAt_5 rfl (lv_at hl 0 rfl) ?_
      have he12 := rd_C5 hSh hj
      refine va_get (C := R_Xt) (T := T_Xt) (N := 1) (v := .ref (aw_c ad j 6)) hx hb hG in_Xt hown hK hP (3 + 16 * j + 5) he12 rfl 0 (by decide) (hG _ gw_0_41) (fun _ h => h) rfl d_Ci_wordAt_6 ?_
      obtain ⟨f14, he13⟩ := rd_C6 hSh hj
      refine va_alen (v := nI 4) hx hb hK hP (3 + 16 * j + 6) 0 he13 rfl rfl d_Ci_wordAt_9 ?_
      refine lv_icmp_lt (tgt := 17) hx hb d_Ci_wordAt_10 (by decide) (fun hb15 => ?_) (fun hb15 => ?_)
      · refine lv_aload_n hx hb d_Ci_wordAt_17 rfl (lv_at hl 0 rfl) ?_
        have he16 := rd_C5 hSh hj
        refine va_get (C := R_Xt) (T := T_Xt) (N := 1) (v := .ref (aw_c ad j 6)) hx hb hG in_Xt hown hK hP (3 + 16 * j + 5) he16 rfl 0 (by decide) (hG _ gw_0_41) (fun _ h => h) rfl d_Ci_wordAt_18 ?_
        refine lv_iload_n hx hb d_Ci_wordAt_21 rfl (lv_at hl 1 rfl) ?_
        obtain ⟨f18, he17⟩ := rd_C6 hSh hj
        obtain ⟨k19, hk19, ek19⟩ := aw_place (n := 4) hb11 hb15 (by omega)
        refine aw_ti (y := nI k19) ek19 ?_
        refine aw_ild hx hb hK hP (3 + 16 * j + 6) 0 he17 rfl (k := k19) (by omega) (by decide) d_Ci_wordAt_22 ?_
        refine lv_topi (fun x20 _ => ?_)
        exact W.iret hx hb hr (fun t ht hW => ⟨⟨_, (), rfl, trivial, aw_Hr ht hP hD hSh⟩, hS.F ht⟩) hS.2.2 d_Ci_wordAt_23
      · refine lv_iconst (v := (-1)) hx hb d_Ci_wordAt_13 (by decide +kernel) ?_
        refine lv_goto (tgt := 23) hx hb d_Ci_wordAt_14 (by decide) ?_
        exact W.iret hx hb hr (fun t ht hW => ⟨⟨_, (), rfl, trivial, aw_Hr ht hP hD hSh⟩, hS.F ht⟩) hS.2.2 d_Ci_wordAt_23
  · refine lv_iload_n hx hb d_Ci_wordAt_0 rfl (lv_at hl 1 rfl) ?_
    refine lv_if_lt (tgt := 13) hx hb d_Ci_wordAt_1 (by decide) (fun hb21 => ?_) (fun hb21 => ?_)
    · refine lv_iconst (v := (-1)) hx hb d_Ci_wordAt_13 (by decide +kernel) ?_
      refine lv_goto (tgt := 23) hx hb d_Ci_wordAt_14 (by decide) ?_
      exact W.iret hx hb hr (fun t ht hW => ⟨⟨_, (), rfl, trivial, aw_Hr ht hP hD hSh⟩, hS.F ht⟩) hS.2.2 d_Ci_wordAt_23
    · refine lv_iload_n hx hb d_Ci_wordAt_4 rfl (lv_at hl 1 rfl) ?_
      refine lv_aload_n hx hb d_Ci_wordAt_5 rfl (lv_at hl 0 rfl) ?_
      have he22 := rd_C7 hSh hj
      refine va_get (C := R_Sp) (T := T_Sp) (N := 2) (v := .ref (aw_c ad j 8)) hx hb hG in_Sp hown hK hP (3 + 16 * j + 7) he22 rfl 0 (by decide) (hG _ gw_0_41) (fun _ h => h) rfl d_Ci_wordAt_6 ?_
      obtain ⟨f24, he23⟩ := rd_C8 hSh hj
      refine va_alen (v := nI 27) hx hb hK hP (3 + 16 * j + 8) 0 he23 rfl rfl d_Ci_wordAt_9 ?_
      refine lv_icmp_lt (tgt := 17) hx hb d_Ci_wordAt_10 (by decide) (fun hb25 => ?_) (fun hb25 => ?_)
      · refine lv_aload_n hx hb d_Ci_wordAt_17 rfl (lv_at hl 0 rfl) ?_
        have he26 := rd_C7 hSh hj
        refine va_get (C := R_Sp) (T := T_Sp) (N := 2) (v := .ref (aw_c ad j 8)) hx hb hG in_Sp hown hK hP (3 + 16 * j + 7) he26 rfl 0 (by decide) (hG _ gw_0_41) (fun _ h => h) rfl d_Ci_wordAt_18 ?_
        refine lv_iload_n hx hb d_Ci_wordAt_21 rfl (lv_at hl 1 rfl) ?_
        obtain ⟨f28, he27⟩ := rd_C8 hSh hj
        obtain ⟨k29, hk29, ek29⟩ := aw_place (n := 27) hb21 hb25 (by omega)
        refine aw_ti (y := nI k29) ek29 ?_
        refine aw_ild hx hb hK hP (3 + 16 * j + 8) 0 he27 rfl (k := k29) (by omega) (by decide) d_Ci_wordAt_22 ?_
        refine lv_topi (fun x30 _ => ?_)
        exact W.iret hx hb hr (fun t ht hW => ⟨⟨_, (), rfl, trivial, aw_Hr ht hP hD hSh⟩, hS.F ht⟩) hS.2.2 d_Ci_wordAt_23
      · refine lv_iconst (v := (-1)) hx hb d_Ci_wordAt_13 (by decide +kernel) ?_
        refine lv_goto (tgt := 23) hx hb d_Ci_wordAt_14 (by decide) ?_
        exact W.iret hx hb hr (fun t ht hW => ⟨⟨_, (), rfl, trivial, aw_Hr ht hP hD hSh⟩, hS.F ht⟩) hS.2.2 d_Ci_wordAt_23
  · refine lv_iload_n hx hb d_Ci_wordAt_0 rfl (lv_at hl 1 rfl) ?_
    refine lv_if_lt (tgt := 13) hx hb d_Ci_wordAt_1 (by decide) (fun hb31 => ?_) (fun hb31 => ?_)
    · refine lv_iconst (v := (-1)) hx hb d_Ci_wordAt_13 (by decide +kernel) ?_
      refine lv_goto (tgt := 23) hx hb d_Ci_wordAt_14 (by decide) ?_
      exact W.iret hx hb hr (fun t ht hW => ⟨⟨_, (), rfl, trivial, aw_Hr ht hP hD hSh⟩, hS.F ht⟩) hS.2.2 d_Ci_wordAt_23
    · refine lv_iload_n hx hb d_Ci_wordAt_4 rfl (lv_at hl 1 rfl) ?_
      refine lv_aload_n hx hb d_Ci_wordAt_5 rfl (lv_at hl 0 rfl) ?_
      have he32 := rd_C10 hSh hj
      refine va_get (C := R_Si) (T := T_Si) (N := 1) (v := .ref (aw_c ad j 11)) hx hb hG in_Si hown hK hP (3 + 16 * j + 10) he32 rfl 0 (by decide) (hG _ gw_0_41) (fun _ h => h) rfl d_Ci_wordAt_6 ?_
      obtain ⟨f34, he33⟩ := rd_C11 hSh hj
      refine va_alen (v := nI 44) hx hb hK hP (3 + 16 * j + 11) 0 he33 rfl rfl d_Ci_wordAt_9 ?_
      refine lv_icmp_lt (tgt := 17) hx hb d_Ci_wordAt_10 (by decide) (fun hb35 => ?_) (fun hb35 => ?_)
      · refine lv_aload_n hx hb d_Ci_wordAt_17 rfl (lv_at hl 0 rfl) ?_
        have he36 := rd_C10 hSh hj
        refine va_get (C := R_Si) (T := T_Si) (N := 1) (v := .ref (aw_c ad j 11)) hx hb hG in_Si hown hK hP (3 + 16 * j + 10) he36 rfl 0 (by decide) (hG _ gw_0_41) (fun _ h => h) rfl d_Ci_wordAt_18 ?_
        refine lv_iload_n hx hb d_Ci_wordAt_21 rfl (lv_at hl 1 rfl) ?_
        obtain ⟨f38, he37⟩ := rd_C11 hSh hj
        obtain ⟨k39, hk39, ek39⟩ := aw_place (n := 44) hb31 hb35 (by omega)
        refine aw_ti (y := nI k39) ek39 ?_
        refine aw_ild hx hb hK hP (3 + 16 * j + 11) 0 he37 rfl (k := k39) (by omega) (by decide) d_Ci_wordAt_22 ?_
        refine lv_topi (fun x40 _ => ?_)
        exact W.iret hx hb hr (fun t ht hW => ⟨⟨_, (), rfl, trivial, aw_Hr ht hP hD hSh⟩, hS.F ht⟩) hS.2.2 d_Ci_wordAt_23
      · refine lv_iconst (v := (-1)) hx hb d_Ci_wordAt_13 (by decide +kernel) ?_
        refine lv_goto (tgt := 23) hx hb d_Ci_wordAt_14 (by decide) ?_
        exact W.iret hx hb hr (fun t ht hW => ⟨⟨_, (), rfl, trivial, aw_Hr ht hP hD hSh⟩, hS.F ht⟩) hS.2.2 d_Ci_wordAt_23
  · refine lv_iload_n hx hb d_Ci_wordAt_0 rfl (lv_at hl 1 rfl) ?_
    refine lv_if_lt (tgt := 13) hx hb d_Ci_wordAt_1 (by decide) (fun hb41 => ?_) (fun hb41 => ?_)
    · refine lv_iconst (v := (-1)) hx hb d_Ci_wordAt_13 (by decide +kernel) ?_
      refine lv_goto (tgt := 23) hx hb d_Ci_wordAt_14 (by decide) ?_
      exact W.iret hx hb hr (fun t ht hW => ⟨⟨_, (), rfl, trivial, aw_Hr ht hP hD hSh⟩, hS.F ht⟩) hS.2.2 d_Ci_wordAt_23
    · refine lv_iload_n hx hb d_Ci_wordAt_4 rfl (lv_at hl 1 rfl) ?_
      refine lv_aload_n hx hb d_Ci_wordAt_5 rfl (lv_at hl 0 rfl) ?_
      have he42 := rd_C12 hSh hj
      refine va_get (C := R_Id) (T := T_Id) (N := 2) (v := .ref (aw_c ad j 13)) hx hb hG in_Id hown hK hP (3 + 16 * j + 12) he42 rfl 0 (by decide) (hG _ gw_0_41) (fun _ h => h) rfl d_Ci_wordAt_6 ?_
      obtain ⟨f44, he43⟩ := rd_C13 hSh hj
      refine va_alen (v := nI 52) hx hb hK hP (3 + 16 * j + 13) 0 he43 rfl rfl d_Ci_wordAt_9 ?_
      refine lv_icmp_lt (tgt := 17) hx hb d_Ci_wordAt_10 (by decide) (fun hb45 => ?_) (fun hb45 => ?_)
      · refine lv_aload_n hx hb d_Ci_wordAt_17 rfl (lv_at hl 0 rfl) ?_
        have he46 := rd_C12 hSh hj
        refine va_get (C := R_Id) (T := T_Id) (N := 2) (v := .ref (aw_c ad j 13)) hx hb hG in_Id hown hK hP (3 + 16 * j + 12) he46 rfl 0 (by decide) (hG _ gw_0_41) (fun _ h => h) rfl d_Ci_wordAt_18 ?_
        refine lv_iload_n hx hb d_Ci_wordAt_21 rfl (lv_at hl 1 rfl) ?_
        obtain ⟨f48, he47⟩ := rd_C13 hSh hj
        obtain ⟨k49, hk49, ek49⟩ := aw_place (n := 52) hb41 hb45 (by omega)
        refine aw_ti (y := nI k49) ek49 ?_
        refine aw_ild hx hb hK hP (3 + 16 * j + 13) 0 he47 rfl (k := k49) (by omega) (by decide) d_Ci_wordAt_22 ?_
        refine lv_topi (fun x50 _ => ?_)
        exact W.iret hx hb hr (fun t ht hW => ⟨⟨_, (), rfl, trivial, aw_Hr ht hP hD hSh⟩, hS.F ht⟩) hS.2.2 d_Ci_wordAt_23
      · refine lv_iconst (v := (-1)) hx hb d_Ci_wordAt_13 (by decide +kernel) ?_
        refine lv_goto (tgt := 23) hx hb d_Ci_wordAt_14 (by decide) ?_
        exact W.iret hx hb hr (fun t ht hW => ⟨⟨_, (), rfl, trivial, aw_Hr ht hP hD hSh⟩, hS.F ht⟩) hS.2.2 d_Ci_wordAt_23
