abbrev ws_Si_stirred : List Cond := Cond.code y_Si_stirred b_Si_stirred 1 (some .int) :: aw_G
abbrev rm_Si_stirred : Room := { frames := 1, cells := 0, slots := 0, locals := 21 }
set_option maxHeartbeats 4000000 in
set_option maxRecDepth 100000 in
theorem k_Si_stirred (l : Launch) (D : va_G) (g : Nat → ClassId) (ad : Nat → Nat) (G M : Nat → Nat × Nat) (F : Int32) (N0 : Nat) (a0 : Int32) : Met l y_Si_stirred ws_Si_stirred rm_Si_stirred (va_Pc ([.int a0] : List Value) (aw_B D g ad G M F N0)) (va_Qi (fun r (_ : Unit) => True) (fun (_ : Unit) t => aw_H D g ad G M F N0 t.heap) (aw_Z N0)) 0 0 (aw_Z N0) := by
  refine Met.ofW (cc := b_Si_stirred) (maxL := 1) (ret := (some .int)) (by decide) rfl ?_
  intro p e s m args below meth c s₁ B hml hv
  obtain ⟨rfl, ⟨L, hP, hD, hSh⟩, hU⟩ := hv
  have hx := B.exec
  have hb := B.bytes
  have hr := B.returns
  have hG : ∀ w ∈ aw_G, w.before _ s = true := fun w h => atoms_spec (ws := ws_Si_stirred) B.pre w (List.mem_cons_of_mem _ h)
  have hown : s.vm.findClass "RuleCiphers$Simon" = some m.cls := findClass_of_methodNamed B.named
  have hlocks := B.notSynchronized
  have hE := hU.1
  have hK := hE.1
  have hN := hE.2.1
  have hS : va_S (aw_Z N0) s.heap s.heap [] := va_S.rf
  have hl := lv_entry ([.int a0] : List Value) (n := 1) (Nat.le_of_ble_eq_true rfl)
  rw [lg_entry_eq]
  generalize (lg_sl ([.int a0] : List Value) ++ List.replicate (1 - (lg_sl ([.int a0] : List Value)).length) Slot.unset).toArray = ls at hl ⊢
  have hl : lv_has ls 1 [(0, .int a0)] := hl
  refine lv_iload_n hx hb d_Si_stirred_0 rfl (lv_at hl 0 rfl) ?_
  refine lv_iconst (v := nI 1) hx hb d_Si_stirred_1 (by decide +kernel) ?_
  refine aw_ci ((va_runSN (As := [.int a0, .int (nI 1)]) (rest := []) ⟨hx, hb, hml, hown, hG⟩ (k_Ru_turnLeft l a0 (nI 1)) (aw_wSN 2 hG hN gw_5_5 nw_28 gw_0_1 gw_5_4 rfl rfl hd_Ru_turnLeft ⟨Nat.le_of_ble_eq_true rfl, Nat.le_of_ble_eq_true rfl⟩) aw_p0 rfl rfl hl.1 rfl (lv_room (Nat.le_of_ble_eq_true rfl)) d_Si_stirred_2 ⟨Nat.le_of_ble_eq_true rfl, Nat.le_of_ble_eq_true rfl⟩).run) (fun x1 hx1 => ?_)
  refine lv_iload_n hx hb d_Si_stirred_5 rfl (lv_at hl 0 rfl) ?_
  refine lv_bipush (v := nI 8) hx hb d_Si_stirred_6 (by decide +kernel) ?_
  refine aw_ci ((va_runSN (As := [.int a0, .int (nI 8)]) (rest := [.int x1]) ⟨hx, hb, hml, hown, hG⟩ (k_Ru_turnLeft l a0 (nI 8)) (aw_wSN 2 hG hN gw_5_5 nw_28 gw_0_1 gw_5_4 rfl rfl hd_Ru_turnLeft ⟨Nat.le_of_ble_eq_true rfl, Nat.le_of_ble_eq_true rfl⟩) aw_p0 rfl rfl hl.1 rfl (lv_room (Nat.le_of_ble_eq_true rfl)) d_Si_stirred_8 ⟨Nat.le_of_ble_eq_true rfl, Nat.le_of_ble_eq_true rfl⟩).run) (fun x2 hx2 => ?_)
  refine lv_iand hx hb d_Si_stirred_11 ?_
  refine lv_topi (fun x3 _ => ?_)
  refine lv_iload_n hx hb d_Si_stirred_12 rfl (lv_at hl 0 rfl) ?_
  refine lv_iconst (v := nI 2) hx hb d_Si_stirred_13 (by decide +kernel) ?_
  refine aw_ci ((va_runSN (As := [.int a0, .int (nI 2)]) (rest := [.int x3]) ⟨hx, hb, hml, hown, hG⟩ (k_Ru_turnLeft l a0 (nI 2)) (aw_wSN 2 hG hN gw_5_5 nw_28 gw_0_1 gw_5_4 rfl rfl hd_Ru_turnLeft ⟨Nat.le_of_ble_eq_true rfl, Nat.le_of_ble_eq_true rfl⟩) aw_p0 rfl rfl hl.1 rfl (lv_room (Nat.le_of_ble_eq_true rfl)) d_Si_stirred_14 ⟨Nat.le_of_ble_eq_true rfl, Nat.le_of_ble_eq_true rfl⟩).run) (fun x4 hx4 => ?_)
  refine lv_ixor hx hb d_Si_stirred_17 ?_
  refine lv_topi (fun x5 _ => ?_)
  exact W.iret hx hb hr (fun t ht hW => ⟨⟨_, (), rfl, trivial, aw_Hr ht hP hD hSh⟩, hS.F ht⟩) hS.2.2 d_Si_stirred_18
abbrev ws_Rc_on : List Cond := Cond.code y_Rc_on b_Rc_on 6 (some .long) :: aw_G
abbrev rm_Rc_on : Room := { frames := 1, cells := 0, slots := 0, locals := 21 }
set_option maxHeartbeats 4000000 in
set_option maxRecDepth 100000 in
theorem k_Rc_on (l : Launch) (D : va_G) (g : Nat → ClassId) (ad : Nat → Nat) (G M : Nat → Nat × Nat) (F : Int32) (N0 : Nat) (j : Nat) (b : Int64) (hj : j < 4) : Met l y_Rc_on ws_Rc_on rm_Rc_on (va_Pc ([.ref (aw_c ad j 2), .long b] : List Value) (aw_B D g ad G M F N0)) (va_Ql (fun r (_ : Unit) => True) (fun (_ : Unit) t => aw_H D g ad G M F N0 t.heap) (aw_Z N0)) 0 0 (aw_Z N0) := by
  refine Met.ofW (cc := b_Rc_on) (maxL := 6) (ret := (some .long)) (by decide) rfl ?_
  intro p e s m args below meth c s₁ B hml hv
  obtain ⟨rfl, ⟨L, hP, hD, hSh⟩, hU⟩ := hv
  have hx := B.exec
  have hb := B.bytes
  have hr := B.returns
  have hG : ∀ w ∈ aw_G, w.before _ s = true := fun w h => atoms_spec (ws := ws_Rc_on) B.pre w (List.mem_cons_of_mem _ h)
  have hown : s.vm.findClass "RuleCiphers$Rc5" = some m.cls := findClass_of_methodNamed B.named
  have hlocks := B.notSynchronized
  have hE := hU.1
  have hK := hE.1
  have hN := hE.2.1
  have hS : va_S (aw_Z N0) s.heap s.heap [] := va_S.rf
  have hl := lv_entry ([.ref (aw_c ad j 2), .long b] : List Value) (n := 6) (Nat.le_of_ble_eq_true rfl)
  rw [lg_entry_eq]
  generalize (lg_sl ([.ref (aw_c ad j 2), .long b] : List Value) ++ List.replicate (6 - (lg_sl ([.ref (aw_c ad j 2), .long b] : List Value)).length) Slot.unset).toArray = ls at hl ⊢
  have hl : lv_has ls 6 [(0, .ref (aw_c ad j 2)), (1, .long b)] := hl
  refine lv_lload_n hx hb d_Rc_on_0 rfl (lv_at hl 1 rfl) ?_
  refine aw_ci ((va_runSN (As := [.long b]) (rest := []) ⟨hx, hb, hml, hown, hG⟩ (k_Ru_firstHalf l b) (aw_wSN 1 hG hN gw_4_52 nw_22 gw_0_1 gw_4_51 rfl rfl hd_Ru_firstHalf ⟨Nat.le_of_ble_eq_true rfl, Nat.le_of_ble_eq_true rfl⟩) aw_p0 rfl rfl hl.1 rfl (lv_room (Nat.le_of_ble_eq_true rfl)) d_Rc_on_1 ⟨Nat.le_of_ble_eq_true rfl, Nat.le_of_ble_eq_true rfl⟩).run) (fun x1 hx1 => ?_)
  refine aw_ci ((va_runSN (As := [.int x1]) (rest := []) ⟨hx, hb, hml, hown, hG⟩ (k_Ru_bytesReversed l x1) (aw_wSN 1 hG hN gw_4_57 nw_13 gw_0_1 gw_4_56 rfl rfl hd_Ru_bytesReversed ⟨Nat.le_of_ble_eq_true rfl, Nat.le_of_ble_eq_true rfl⟩) aw_p0 rfl rfl hl.1 rfl (lv_room (Nat.le_of_ble_eq_true rfl)) d_Rc_on_4 ⟨Nat.le_of_ble_eq_true rfl, Nat.le_of_ble_eq_true rfl⟩).run) (fun x2 hx2 => ?_)
  refine lv_aload_n hx hb d_Rc_on_7 rfl (lv_at hl 0 rfl) ?_
  have he3 := rd_C2 hSh hj
  refine va_get (C := R_Rc) (T := T_Rc) (N := 2) (v := .ref (aw_c ad j 3)) hx hb hG in_Rc hown hK hP (3 + 16 * j + 2) he3 rfl 0 (by decide) (hG _ gw_0_50) (fun x9 h9 => u_same (hG _ gw_0_51) x9 h9) rfl d_Rc_on_8 ?_
  refine lv_iconst (v := nI 0) hx hb d_Rc_on_11 (by decide +kernel) ?_
  obtain ⟨f5, he4⟩ := rd_C3 hSh hj
  refine aw_ild hx hb hK hP (3 + 16 * j + 3) 0 he4 rfl (k := 0) (by omega) (by decide) d_Rc_on_12 ?_
  refine lv_topi (fun x6 _ => ?_)
  refine lv_iadd hx hb d_Rc_on_13 ?_
  refine lv_topi (fun x7 _ => ?_)
  refine lv_istore_n hx hb d_Rc_on_14 rfl hl (by decide) rfl (fun ls hl => ?_)
  have hl : lv_has ls 6 [(3, .int x7), (0, .ref (aw_c ad j 2)), (1, .long b)] := hl
  refine lv_lload_n hx hb d_Rc_on_15 rfl (lv_at hl 2 rfl) ?_
  refine aw_ci ((va_runSN (As := [.long b]) (rest := []) ⟨hx, hb, hml, hown, hG⟩ (k_Ru_secondHalf l b) (aw_wSN 1 hG hN gw_4_55 nw_23 gw_0_1 gw_4_54 rfl rfl hd_Ru_secondHalf ⟨Nat.le_of_ble_eq_true rfl, Nat.le_of_ble_eq_true rfl⟩) aw_p0 rfl rfl hl.1 rfl (lv_room (Nat.le_of_ble_eq_true rfl)) d_Rc_on_16 ⟨Nat.le_of_ble_eq_true rfl, Nat.le_of_ble_eq_true rfl⟩).run) (fun x8 hx8 => ?_)
  refine aw_ci ((va_runSN (As := [.int x8]) (rest := []) ⟨hx, hb, hml, hown, hG⟩ (k_Ru_bytesReversed l x8) (aw_wSN 1 hG hN gw_4_57 nw_13 gw_0_1 gw_4_56 rfl rfl hd_Ru_bytesReversed ⟨Nat.le_of_ble_eq_true rfl, Nat.le_of_ble_eq_true rfl⟩) aw_p0 rfl rfl hl.1 rfl (lv_room (Nat.le_of_ble_eq_true rfl)) d_Rc_on_19 ⟨Nat.le_of_ble_eq_true rfl, Nat.le_of_ble_eq_true rfl⟩).run) (fun x9 hx9 => ?_)
  refine lv_aload_n hx hb d_Rc_on_22 rfl (lv_at hl 1 rfl) ?_
  have he10 := rd_C2 hSh hj
  refine va_get (C := R_Rc) (T := T_Rc) (N := 2) (v := .ref (aw_c ad j 3)) hx hb hG in_Rc hown hK hP (3 + 16 * j + 2) he10 rfl 0 (by decide) (hG _ gw_0_50) (fun x9 h9 => u_same (hG _ gw_0_51) x9 h9) rfl d_Rc_on_23 ?_
  refine lv_iconst (v := nI 1) hx hb d_Rc_on_26 (by decide +kernel) ?_
  obtain ⟨f12, he11⟩ := rd_C3 hSh hj
  refine aw_ild hx hb hK hP (3 + 16 * j + 3) 0 he11 rfl (k := 1) (by omega) (by decide) d_Rc_on_27 ?_
  refine lv_topi (fun x13 _ => ?_)
  refine lv_iadd hx hb d_Rc_on_28 ?_
  refine lv_topi (fun x14 _ => ?_)
  refine lv_istore hx hb d_Rc_on_29 hl (by decide) rfl (fun ls hl => ?_)
  have hl : lv_has ls 6 [(4, .int x14), (3, .int x7), (0, .ref (aw_c ad j 2)), (1, .long b)] := hl
  refine lv_iconst (v := nI 1) hx hb d_Rc_on_31 (by decide +kernel) ?_
  refine lv_istore hx hb d_Rc_on_32 hl (by decide) rfl (fun ls hl => ?_)
  have hl : lv_has ls 6 [(5, .int (nI 1)), (4, .int x14), (3, .int x7), (0, .ref (aw_c ad j 2)), (1, .long b)] := hl
  have L34 : ∀ (d t : Nat) (x15 : Int32) (x16 : Int32) (H : Heap) (locs : List Loc) (L : va_W) (ls : Array Slot), t + d = 12 → va_P D aw_C L H → va_D (aw_Z N0) L → aw_Sh g ad G M F L → va_S (aw_Z N0) s.heap H locs → lv_has ls 6 [(0, .ref (aw_c ad j 2)), (1, .long b), (3, .int x15), (4, .int x16), (5, .int (nI (1 + t)))] → W p l e (headSpec ws_Rc_on rm_Rc_on).room s m ([.ref (aw_c ad j 2), .long b] : List Value).toArray below meth c H locs 0 0 (MQ below (va_Ql (fun r (_ : Unit) => True) (fun (_ : Unit) t => aw_H D g ad G M F N0 t.heap) (aw_Z N0)) ([.ref (aw_c ad j 2), .long b] : List Value).toArray s 0 0 (aw_Z N0)) (F0 m 34 ls []) := by
    clear hP hD hSh hS
    clear hl
    intro d
    induction d with
    | zero => 
      intro t x15 x16 H locs L ls ht0 hP hD hSh hS hl
      refine lv_iload hx hb d_Rc_on_34 (lv_at hl 4 rfl) ?_
      refine lv_bipush (v := nI 12) hx hb d_Rc_on_36 (by decide +kernel) ?_
      refine lv_icmp_gt (tgt := 89) hx hb d_Rc_on_38 (by decide) (fun _ => ?_) (fun h => absurd (show nI 12 < nI (1 + t) from (nI_ltI (by omega) (by omega)).mpr (by omega)) h)
      refine lv_iload_n hx hb d_Rc_on_89 rfl (lv_at hl 2 rfl) ?_
      refine aw_ci ((va_runSN (As := [.int x15]) (rest := []) ⟨hx, hb, hml, hown, hG⟩ (k_Ru_bytesReversed l x15) (aw_wSN 1 hG hN gw_4_57 nw_13 gw_0_1 gw_4_56 rfl rfl hd_Ru_bytesReversed ⟨Nat.le_of_ble_eq_true rfl, Nat.le_of_ble_eq_true rfl⟩) aw_p0 rfl rfl hl.1 rfl (lv_room (Nat.le_of_ble_eq_true rfl)) d_Rc_on_90 ⟨Nat.le_of_ble_eq_true rfl, Nat.le_of_ble_eq_true rfl⟩).run) (fun x17 hx17 => ?_)
      refine lv_iload hx hb d_Rc_on_93 (lv_at hl 3 rfl) ?_
      refine aw_ci ((va_runSN (As := [.int x16]) (rest := [.int x17]) ⟨hx, hb, hml, hown, hG⟩ (k_Ru_bytesReversed l x16) (aw_wSN 1 hG hN gw_4_57 nw_13 gw_0_1 gw_4_56 rfl rfl hd_Ru_bytesReversed ⟨Nat.le_of_ble_eq_true rfl, Nat.le_of_ble_eq_true rfl⟩) aw_p0 rfl rfl hl.1 rfl (lv_room (Nat.le_of_ble_eq_true rfl)) d_Rc_on_95 ⟨Nat.le_of_ble_eq_true rfl, Nat.le_of_ble_eq_true rfl⟩).run) (fun x18 hx18 => ?_)
      refine aw_cl ((va_runSN (As := [.int x17, .int x18]) (rest := []) ⟨hx, hb, hml, hown, hG⟩ (k_Ru_joined l x17 x18) (aw_wSN 2 hG hN gw_6_31 nw_25 gw_0_1 gw_6_30 rfl rfl hd_Ru_joined ⟨Nat.le_of_ble_eq_true rfl, Nat.le_of_ble_eq_true rfl⟩) aw_p0 rfl rfl hl.1 rfl (lv_room (Nat.le_of_ble_eq_true rfl)) d_Rc_on_98 ⟨Nat.le_of_ble_eq_true rfl, Nat.le_of_ble_eq_true rfl⟩).run) (fun y19 hy19 => ?_)
      exact W.lret hx hb hr (fun t ht hW => ⟨⟨_, (), rfl, trivial, aw_Hr ht hP hD hSh⟩, hS.F ht⟩) hS.2.2 d_Rc_on_101
    | succ d ih => 
      intro t x15 x16 H locs L ls ht0 hP hD hSh hS hl
      refine lv_iload hx hb d_Rc_on_34 (lv_at hl 4 rfl) ?_
      refine lv_bipush (v := nI 12) hx hb d_Rc_on_36 (by decide +kernel) ?_
      refine lv_icmp_gt (tgt := 89) hx hb d_Rc_on_38 (by decide) (fun h => absurd h (show ¬ nI 12 < nI (1 + t) from fun h9 => absurd ((nI_ltI (by omega) (by omega)).mp h9) (by omega))) (fun _ => ?_)
      refine lv_iload_n hx hb d_Rc_on_41 rfl (lv_at hl 2 rfl) ?_
      refine lv_iload hx hb d_Rc_on_42 (lv_at hl 3 rfl) ?_
      refine lv_ixor hx hb d_Rc_on_44 ?_
      refine lv_topi (fun x20 _ => ?_)
      refine lv_iload hx hb d_Rc_on_45 (lv_at hl 3 rfl) ?_
      refine aw_ci ((va_runSN (As := [.int x20, .int x16]) (rest := []) ⟨hx, hb, hml, hown, hG⟩ (k_Ru_turnLeft l x20 x16) (aw_wSN 2 hG hN gw_5_5 nw_14 gw_0_1 gw_5_4 rfl rfl hd_Ru_turnLeft ⟨Nat.le_of_ble_eq_true rfl, Nat.le_of_ble_eq_true rfl⟩) aw_p0 rfl rfl hl.1 rfl (lv_room (Nat.le_of_ble_eq_true rfl)) d_Rc_on_47 ⟨Nat.le_of_ble_eq_true rfl, Nat.le_of_ble_eq_true rfl⟩).run) (fun x21 hx21 => ?_)
      refine lv_aload_n hx hb d_Rc_on_50 rfl (lv_at hl 0 rfl) ?_
      have he22 := rd_C2 hSh hj
      refine va_get (C := R_Rc) (T := T_Rc) (N := 2) (v := .ref (aw_c ad j 3)) hx hb hG in_Rc hown hK hP (3 + 16 * j + 2) he22 rfl 0 (by decide) (hG _ gw_0_50) (fun x9 h9 => u_same (hG _ gw_0_51) x9 h9) rfl d_Rc_on_51 ?_
      refine lv_iconst (v := nI 2) hx hb d_Rc_on_54 (by decide +kernel) ?_
      refine lv_iload hx hb d_Rc_on_55 (lv_at hl 4 rfl) ?_
      refine lv_imul hx hb d_Rc_on_57 ?_
      refine aw_ti (pk_mul 2 (1 + t)) ?_
      obtain ⟨f24, he23⟩ := rd_C3 hSh hj
      refine aw_ild hx hb hK hP (3 + 16 * j + 3) 0 he23 rfl (k := (2 * (1 + t))) (by omega) (by decide) d_Rc_on_58 ?_
      refine lv_topi (fun x25 _ => ?_)
      refine lv_iadd hx hb d_Rc_on_59 ?_
      refine lv_topi (fun x26 _ => ?_)
      refine lv_istore_n hx hb d_Rc_on_60 rfl hl (by decide) rfl (fun ls hl => ?_)
      have hl : lv_has ls 6 [(3, .int x26), (0, .ref (aw_c ad j 2)), (1, .long b), (4, .int x16), (5, .int (nI (1 + t)))] := hl
      refine lv_iload hx hb d_Rc_on_61 (lv_at hl 3 rfl) ?_
      refine lv_iload_n hx hb d_Rc_on_63 rfl (lv_at hl 0 rfl) ?_
      refine lv_ixor hx hb d_Rc_on_64 ?_
      refine lv_topi (fun x27 _ => ?_)
      refine lv_iload_n hx hb d_Rc_on_65 rfl (lv_at hl 0 rfl) ?_
      refine aw_ci ((va_runSN (As := [.int x27, .int x26]) (rest := []) ⟨hx, hb, hml, hown, hG⟩ (k_Ru_turnLeft l x27 x26) (aw_wSN 2 hG hN gw_5_5 nw_14 gw_0_1 gw_5_4 rfl rfl hd_Ru_turnLeft ⟨Nat.le_of_ble_eq_true rfl, Nat.le_of_ble_eq_true rfl⟩) aw_p0 rfl rfl hl.1 rfl (lv_room (Nat.le_of_ble_eq_true rfl)) d_Rc_on_66 ⟨Nat.le_of_ble_eq_true rfl, Nat.le_of_ble_eq_true rfl⟩).run) (fun x28 hx28 => ?_)
      refine lv_aload_n hx hb d_Rc_on_69 rfl (lv_at hl 1 rfl) ?_
      have he29 := rd_C2 hSh hj
      refine va_get (C := R_Rc) (T := T_Rc) (N := 2) (v := .ref (aw_c ad j 3)) hx hb hG in_Rc hown hK hP (3 + 16 * j + 2) he29 rfl 0 (by decide) (hG _ gw_0_50) (fun x9 h9 => u_same (hG _ gw_0_51) x9 h9) rfl d_Rc_on_70 ?_
      refine lv_iconst (v := nI 2) hx hb d_Rc_on_73 (by decide +kernel) ?_
      refine lv_iload hx hb d_Rc_on_74 (lv_at hl 4 rfl) ?_
      refine lv_imul hx hb d_Rc_on_76 ?_
      refine aw_ti (pk_mul 2 (1 + t)) ?_
      refine lv_iconst (v := nI 1) hx hb d_Rc_on_77 (by decide +kernel) ?_
      refine lv_iadd hx hb d_Rc_on_78 ?_
      refine aw_ti (nI_add (2 * (1 + t)) 1) ?_
      obtain ⟨f31, he30⟩ := rd_C3 hSh hj
      refine aw_ild hx hb hK hP (3 + 16 * j + 3) 0 he30 rfl (k := ((2 * (1 + t)) + 1)) (by omega) (by decide) d_Rc_on_79 ?_
      refine lv_topi (fun x32 _ => ?_)
      refine lv_iadd hx hb d_Rc_on_80 ?_
      refine lv_topi (fun x33 _ => ?_)
      refine lv_istore hx hb d_Rc_on_81 hl (by decide) rfl (fun ls hl => ?_)
      have hl : lv_has ls 6 [(4, .int x33), (3, .int x26), (0, .ref (aw_c ad j 2)), (1, .long b), (5, .int (nI (1 + t)))] := hl
      refine lv_iinc (k := 4) (v := nI (1 + t + 1)) hx hb d_Rc_on_83 hl rfl (aw_inc (1 + t) 1 1 (by decide +kernel)) (by decide) rfl (fun ls hl => ?_)
      have hl : lv_has ls 6 [(5, .int (nI (1 + t + 1))), (4, .int x33), (3, .int x26), (0, .ref (aw_c ad j 2)), (1, .long b)] := hl
      refine lv_goto (tgt := 34) hx hb d_Rc_on_86 (by decide) ?_
      have hl := lv_sub hl (l' := [(0, .ref (aw_c ad j 2)), (1, .long b), (3, .int x26), (4, .int x33), (5, .int (nI (1 + t + 1)))]) [3, 4, 2, 1, 0] rfl
      exact ih (t + 1) x26 x33 H locs L ls (by omega) hP hD hSh hS (by first | exact hl | simpa [Nat.add_assoc, Nat.mul_add, Nat.add_comm] using hl)
  have hl := lv_sub hl (l' := [(0, .ref (aw_c ad j 2)), (1, .long b), (3, .int x7), (4, .int x14), (5, .int (nI 1))]) [3, 4, 2, 1, 0] rfl
  exact L34 12 0 x7 x14 _ _ _ ls (by omega) hP hD hSh hS (by first | exact hl | simpa using hl)
abbrev ws_Rc_back : List Cond := Cond.code y_Rc_back b_Rc_back 6 (some .long) :: aw_G
abbrev rm_Rc_back : Room := { frames := 1, cells := 0, slots := 0, locals := 21 }
set_option maxHeartbeats 4000000 in
set_option maxRecDepth 100000 in
theorem k_Rc_back (l : Launch) (D : va_G) (g : Nat → ClassId) (ad : Nat → Nat) (G M : Nat → Nat × Nat) (F : Int32) (N0 : Nat) (j : Nat) (b : Int64) (hj : j < 4) : Met l y_Rc_back ws_Rc_back rm_Rc_back (va_Pc ([.ref (aw_c ad j 2), .long b] : List Value) (aw_B D g ad G M F N0)) (va_Ql (fun r (_ : Unit) => True) (fun (_ : Unit) t => aw_H D g ad G M F N0 t.heap) (aw_Z N0)) 0 0 (aw_Z N0) := by
  refine Met.ofW (cc := b_Rc_back) (maxL := 6) (ret := (some .long)) (by decide) rfl ?_
  intro p e s m args below meth c s₁ B hml hv
  obtain ⟨rfl, ⟨L, hP, hD, hSh⟩, hU⟩ := hv
  have hx := B.exec
  have hb := B.bytes
  have hr := B.returns
  have hG : ∀ w ∈ aw_G, w.before _ s = true := fun w h => atoms_spec (ws := ws_Rc_back) B.pre w (List.mem_cons_of_mem _ h)
  have hown : s.vm.findClass "RuleCiphers$Rc5" = some m.cls := findClass_of_methodNamed B.named
  have hlocks := B.notSynchronized
  have hE := hU.1
  have hK := hE.1
  have hN := hE.2.1
  have hS : va_S (aw_Z N0) s.heap s.heap [] := va_S.rf
  have hl := lv_entry ([.ref (aw_c ad j 2), .long b] : List Value) (n := 6) (Nat.le_of_ble_eq_true rfl)
  rw [lg_entry_eq]
  generalize (lg_sl ([.ref (aw_c ad j 2), .long b] : List Value) ++ List.replicate (6 - (lg_sl ([.ref (aw_c ad j 2), .long b] : List Value)).length) Slot.unset).toArray = ls at hl ⊢
  have hl : lv_has ls 6 [(0, .ref (aw_c ad j 2)), (1, .long b)] := hl
  refine lv_lload_n hx hb d_Rc_back_0 rfl (lv_at hl 1 rfl) ?_
  refine aw_ci ((va_runSN (As := [.long b]) (rest := []) ⟨hx, hb, hml, hown, hG⟩ (k_Ru_firstHalf l b) (aw_wSN 1 hG hN gw_4_52 nw_22 gw_0_1 gw_4_51 rfl rfl hd_Ru_firstHalf ⟨Nat.le_of_ble_eq_true rfl, Nat.le_of_ble_eq_true rfl⟩) aw_p0 rfl rfl hl.1 rfl (lv_room (Nat.le_of_ble_eq_true rfl)) d_Rc_back_1 ⟨Nat.le_of_ble_eq_true rfl, Nat.le_of_ble_eq_true rfl⟩).run) (fun x1 hx1 => ?_)
  refine aw_ci ((va_runSN (As := [.int x1]) (rest := []) ⟨hx, hb, hml, hown, hG⟩ (k_Ru_bytesReversed l x1) (aw_wSN 1 hG hN gw_4_57 nw_13 gw_0_1 gw_4_56 rfl rfl hd_Ru_bytesReversed ⟨Nat.le_of_ble_eq_true rfl, Nat.le_of_ble_eq_true rfl⟩) aw_p0 rfl rfl hl.1 rfl (lv_room (Nat.le_of_ble_eq_true rfl)) d_Rc_back_4 ⟨Nat.le_of_ble_eq_true rfl, Nat.le_of_ble_eq_true rfl⟩).run) (fun x2 hx2 => ?_)
  refine lv_istore_n hx hb d_Rc_back_7 rfl hl (by decide) rfl (fun ls hl => ?_)
  have hl : lv_has ls 6 [(3, .int x2), (0, .ref (aw_c ad j 2)), (1, .long b)] := hl
  refine lv_lload_n hx hb d_Rc_back_8 rfl (lv_at hl 2 rfl) ?_
  refine aw_ci ((va_runSN (As := [.long b]) (rest := []) ⟨hx, hb, hml, hown, hG⟩ (k_Ru_secondHalf l b) (aw_wSN 1 hG hN gw_4_55 nw_23 gw_0_1 gw_4_54 rfl rfl hd_Ru_secondHalf ⟨Nat.le_of_ble_eq_true rfl, Nat.le_of_ble_eq_true rfl⟩) aw_p0 rfl rfl hl.1 rfl (lv_room (Nat.le_of_ble_eq_true rfl)) d_Rc_back_9 ⟨Nat.le_of_ble_eq_true rfl, Nat.le_of_ble_eq_true rfl⟩).run) (fun x3 hx3 => ?_)
  refine aw_ci ((va_runSN (As := [.int x3]) (rest := []) ⟨hx, hb, hml, hown, hG⟩ (k_Ru_bytesReversed l x3) (aw_wSN 1 hG hN gw_4_57 nw_13 gw_0_1 gw_4_56 rfl rfl hd_Ru_bytesReversed ⟨Nat.le_of_ble_eq_true rfl, Nat.le_of_ble_eq_true rfl⟩) aw_p0 rfl rfl hl.1 rfl (lv_room (Nat.le_of_ble_eq_true rfl)) d_Rc_back_12 ⟨Nat.le_of_ble_eq_true rfl, Nat.le_of_ble_eq_true rfl⟩).run) (fun x4 hx4 => ?_)
  refine lv_istore hx hb d_Rc_back_15 hl (by decide) rfl (fun ls hl => ?_)
  have hl : lv_has ls 6 [(4, .int x4), (3, .int x2), (0, .ref (aw_c ad j 2)), (1, .long b)] := hl
  refine lv_bipush (v := nI 12) hx hb d_Rc_back_17 (by decide +kernel) ?_
  refine lv_istore hx hb d_Rc_back_19 hl (by decide) rfl (fun ls hl => ?_)
  have hl : lv_has ls 6 [(5, .int (nI 12)), (4, .int x4), (3, .int x2), (0, .ref (aw_c ad j 2)), (1, .long b)] := hl
  have L21 : ∀ (d t : Nat) (x5 : Int32) (x6 : Int32) (H : Heap) (locs : List Loc) (L : va_W) (ls : Array Slot), t + d = 12 → va_P D aw_C L H → va_D (aw_Z N0) L → aw_Sh g ad G M F L → va_S (aw_Z N0) s.heap H locs → lv_has ls 6 [(0, .ref (aw_c ad j 2)), (1, .long b), (3, .int x5), (4, .int x6), (5, .int (nI d))] → W p l e (headSpec ws_Rc_back rm_Rc_back).room s m ([.ref (aw_c ad j 2), .long b] : List Value).toArray below meth c H locs 0 0 (MQ below (va_Ql (fun r (_ : Unit) => True) (fun (_ : Unit) t => aw_H D g ad G M F N0 t.heap) (aw_Z N0)) ([.ref (aw_c ad j 2), .long b] : List Value).toArray s 0 0 (aw_Z N0)) (F0 m 21 ls []) := by
    clear hP hD hSh hS
    clear hl
    intro d
    induction d with
    | zero => 
      intro t x5 x6 H locs L ls ht0 hP hD hSh hS hl
      refine lv_iload hx hb d_Rc_back_21 (lv_at hl 4 rfl) ?_
      refine lv_iconst (v := nI 1) hx hb d_Rc_back_23 (by decide +kernel) ?_
      refine lv_icmp_lt (tgt := 75) hx hb d_Rc_back_24 (by decide) (fun _ => ?_) (fun h => absurd (show nI 0 < nI 1 from (nI_ltI (by omega) (by omega)).mpr (by omega)) h)
      refine lv_iload_n hx hb d_Rc_back_75 rfl (lv_at hl 2 rfl) ?_
      refine lv_aload_n hx hb d_Rc_back_76 rfl (lv_at hl 0 rfl) ?_
      have he7 := rd_C2 hSh hj
      refine va_get (C := R_Rc) (T := T_Rc) (N := 2) (v := .ref (aw_c ad j 3)) hx hb hG in_Rc hown hK hP (3 + 16 * j + 2) he7 rfl 0 (by decide) (hG _ gw_0_50) (fun x9 h9 => u_same (hG _ gw_0_51) x9 h9) rfl d_Rc_back_77 ?_
      refine lv_iconst (v := nI 0) hx hb d_Rc_back_80 (by decide +kernel) ?_
      obtain ⟨f9, he8⟩ := rd_C3 hSh hj
      refine aw_ild hx hb hK hP (3 + 16 * j + 3) 0 he8 rfl (k := 0) (by omega) (by decide) d_Rc_back_81 ?_
      refine lv_topi (fun x10 _ => ?_)
      refine lv_isub hx hb d_Rc_back_82 ?_
      refine lv_topi (fun x11 _ => ?_)
      refine aw_ci ((va_runSN (As := [.int x11]) (rest := []) ⟨hx, hb, hml, hown, hG⟩ (k_Ru_bytesReversed l x11) (aw_wSN 1 hG hN gw_4_57 nw_13 gw_0_1 gw_4_56 rfl rfl hd_Ru_bytesReversed ⟨Nat.le_of_ble_eq_true rfl, Nat.le_of_ble_eq_true rfl⟩) aw_p0 rfl rfl hl.1 rfl (lv_room (Nat.le_of_ble_eq_true rfl)) d_Rc_back_83 ⟨Nat.le_of_ble_eq_true rfl, Nat.le_of_ble_eq_true rfl⟩).run) (fun x12 hx12 => ?_)
      refine lv_iload hx hb d_Rc_back_86 (lv_at hl 3 rfl) ?_
      refine lv_aload_n hx hb d_Rc_back_88 rfl (lv_at hl 0 rfl) ?_
      have he13 := rd_C2 hSh hj
      refine va_get (C := R_Rc) (T := T_Rc) (N := 2) (v := .ref (aw_c ad j 3)) hx hb hG in_Rc hown hK hP (3 + 16 * j + 2) he13 rfl 0 (by decide) (hG _ gw_0_50) (fun x9 h9 => u_same (hG _ gw_0_51) x9 h9) rfl d_Rc_back_89 ?_
      refine lv_iconst (v := nI 1) hx hb d_Rc_back_92 (by decide +kernel) ?_
      obtain ⟨f15, he14⟩ := rd_C3 hSh hj
      refine aw_ild hx hb hK hP (3 + 16 * j + 3) 0 he14 rfl (k := 1) (by omega) (by decide) d_Rc_back_93 ?_
      refine lv_topi (fun x16 _ => ?_)
      refine lv_isub hx hb d_Rc_back_94 ?_
      refine lv_topi (fun x17 _ => ?_)
      refine aw_ci ((va_runSN (As := [.int x17]) (rest := [.int x12]) ⟨hx, hb, hml, hown, hG⟩ (k_Ru_bytesReversed l x17) (aw_wSN 1 hG hN gw_4_57 nw_13 gw_0_1 gw_4_56 rfl rfl hd_Ru_bytesReversed ⟨Nat.le_of_ble_eq_true rfl, Nat.le_of_ble_eq_true rfl⟩) aw_p0 rfl rfl hl.1 rfl (lv_room (Nat.le_of_ble_eq_true rfl)) d_Rc_back_95 ⟨Nat.le_of_ble_eq_true rfl, Nat.le_of_ble_eq_true rfl⟩).run) (fun x18 hx18 => ?_)
      refine aw_cl ((va_runSN (As := [.int x12, .int x18]) (rest := []) ⟨hx, hb, hml, hown, hG⟩ (k_Ru_joined l x12 x18) (aw_wSN 2 hG hN gw_6_31 nw_25 gw_0_1 gw_6_30 rfl rfl hd_Ru_joined ⟨Nat.le_of_ble_eq_true rfl, Nat.le_of_ble_eq_true rfl⟩) aw_p0 rfl rfl hl.1 rfl (lv_room (Nat.le_of_ble_eq_true rfl)) d_Rc_back_98 ⟨Nat.le_of_ble_eq_true rfl, Nat.le_of_ble_eq_true rfl⟩).run) (fun y19 hy19 => ?_)
      exact W.lret hx hb hr (fun t ht hW => ⟨⟨_, (), rfl, trivial, aw_Hr ht hP hD hSh⟩, hS.F ht⟩) hS.2.2 d_Rc_back_101
    | succ d ih => 
      intro t x5 x6 H locs L ls ht0 hP hD hSh hS hl
      refine lv_iload hx hb d_Rc_back_21 (lv_at hl 4 rfl) ?_
      refine lv_iconst (v := nI 1) hx hb d_Rc_back_23 (by decide +kernel) ?_
      refine lv_icmp_lt (tgt := 75) hx hb d_Rc_back_24 (by decide) (fun h => absurd h (show ¬ nI (d + 1) < nI 1 from fun h9 => absurd ((nI_ltI (by omega) (by omega)).mp h9) (by omega))) (fun _ => ?_)
      refine lv_iload hx hb d_Rc_back_27 (lv_at hl 3 rfl) ?_
      refine lv_aload_n hx hb d_Rc_back_29 rfl (lv_at hl 0 rfl) ?_
      have he20 := rd_C2 hSh hj
      refine va_get (C := R_Rc) (T := T_Rc) (N := 2) (v := .ref (aw_c ad j 3)) hx hb hG in_Rc hown hK hP (3 + 16 * j + 2) he20 rfl 0 (by decide) (hG _ gw_0_50) (fun x9 h9 => u_same (hG _ gw_0_51) x9 h9) rfl d_Rc_back_30 ?_
      refine lv_iconst (v := nI 2) hx hb d_Rc_back_33 (by decide +kernel) ?_
      refine lv_iload hx hb d_Rc_back_34 (lv_at hl 4 rfl) ?_
      refine lv_imul hx hb d_Rc_back_36 ?_
      refine aw_ti (pk_mul 2 (d + 1)) ?_
      refine lv_iconst (v := nI 1) hx hb d_Rc_back_37 (by decide +kernel) ?_
      refine lv_iadd hx hb d_Rc_back_38 ?_
      refine aw_ti (nI_add (2 * (d + 1)) 1) ?_
      obtain ⟨f22, he21⟩ := rd_C3 hSh hj
      refine aw_ild hx hb hK hP (3 + 16 * j + 3) 0 he21 rfl (k := ((2 * (d + 1)) + 1)) (by omega) (by decide) d_Rc_back_39 ?_
      refine lv_topi (fun x23 _ => ?_)
      refine lv_isub hx hb d_Rc_back_40 ?_
      refine lv_topi (fun x24 _ => ?_)
      refine lv_iload_n hx hb d_Rc_back_41 rfl (lv_at hl 2 rfl) ?_
      refine aw_ci ((va_runSN (As := [.int x24, .int x5]) (rest := []) ⟨hx, hb, hml, hown, hG⟩ (k_Ru_turnRight l x24 x5) (aw_wSN 2 hG hN gw_5_10 nw_24 gw_0_1 gw_5_9 rfl rfl hd_Ru_turnRight ⟨Nat.le_of_ble_eq_true rfl, Nat.le_of_ble_eq_true rfl⟩) aw_p0 rfl rfl hl.1 rfl (lv_room (Nat.le_of_ble_eq_true rfl)) d_Rc_back_42 ⟨Nat.le_of_ble_eq_true rfl, Nat.le_of_ble_eq_true rfl⟩).run) (fun x25 hx25 => ?_)
      refine lv_iload_n hx hb d_Rc_back_45 rfl (lv_at hl 2 rfl) ?_
      refine lv_ixor hx hb d_Rc_back_46 ?_
      refine lv_topi (fun x26 _ => ?_)
      refine lv_istore hx hb d_Rc_back_47 hl (by decide) rfl (fun ls hl => ?_)
      have hl : lv_has ls 6 [(4, .int x26), (0, .ref (aw_c ad j 2)), (1, .long b), (3, .int x5), (5, .int (nI (d + 1)))] := hl
      refine lv_iload_n hx hb d_Rc_back_49 rfl (lv_at hl 3 rfl) ?_
      refine lv_aload_n hx hb d_Rc_back_50 rfl (lv_at hl 1 rfl) ?_
      have he27 := rd_C2 hSh hj
      refine va_get (C := R_Rc) (T := T_Rc) (N := 2) (v := .ref (aw_c ad j 3)) hx hb hG in_Rc hown hK hP (3 + 16 * j + 2) he27 rfl 0 (by decide) (hG _ gw_0_50) (fun x9 h9 => u_same (hG _ gw_0_51) x9 h9) rfl d_Rc_back_51 ?_
      refine lv_iconst (v := nI 2) hx hb d_Rc_back_54 (by decide +kernel) ?_
      refine lv_iload hx hb d_Rc_back_55 (lv_at hl 4 rfl) ?_
      refine lv_imul hx hb d_Rc_back_57 ?_
      refine aw_ti (pk_mul 2 (d + 1)) ?_
      obtain ⟨f29, he28⟩ := rd_C3 hSh hj
      refine aw_ild hx hb hK hP (3 + 16 * j + 3) 0 he28 rfl (k := (2 * (d + 1))) (by omega) (by decide) d_Rc_back_58 ?_
      refine lv_topi (fun x30 _ => ?_)
      refine lv_isub hx hb d_Rc_back_59 ?_
      refine lv_topi (fun x31 _ => ?_)
      refine lv_iload hx hb d_Rc_back_60 (lv_at hl 0 rfl) ?_
      refine aw_ci ((va_runSN (As := [.int x31, .int x26]) (rest := []) ⟨hx, hb, hml, hown, hG⟩ (k_Ru_turnRight l x31 x26) (aw_wSN 2 hG hN gw_5_10 nw_24 gw_0_1 gw_5_9 rfl rfl hd_Ru_turnRight ⟨Nat.le_of_ble_eq_true rfl, Nat.le_of_ble_eq_true rfl⟩) aw_p0 rfl rfl hl.1 rfl (lv_room (Nat.le_of_ble_eq_true rfl)) d_Rc_back_62 ⟨Nat.le_of_ble_eq_true rfl, Nat.le_of_ble_eq_true rfl⟩).run) (fun x32 hx32 => ?_)
      refine lv_iload hx hb d_Rc_back_65 (lv_at hl 0 rfl) ?_
      refine lv_ixor hx hb d_Rc_back_67 ?_
      refine lv_topi (fun x33 _ => ?_)
      refine lv_istore_n hx hb d_Rc_back_68 rfl hl (by decide) rfl (fun ls hl => ?_)
      have hl : lv_has ls 6 [(3, .int x33), (4, .int x26), (0, .ref (aw_c ad j 2)), (1, .long b), (5, .int (nI (d + 1)))] := hl
      refine lv_iinc (k := 4) (v := nI d) hx hb d_Rc_back_69 hl rfl (aw_dec d) (by decide) rfl (fun ls hl => ?_)
      have hl : lv_has ls 6 [(5, .int (nI d)), (3, .int x33), (4, .int x26), (0, .ref (aw_c ad j 2)), (1, .long b)] := hl
      refine lv_goto (tgt := 21) hx hb d_Rc_back_72 (by decide) ?_
      have hl := lv_sub hl (l' := [(0, .ref (aw_c ad j 2)), (1, .long b), (3, .int x33), (4, .int x26), (5, .int (nI d))]) [3, 4, 1, 2, 0] rfl
      exact ih (t + 1) x33 x26 H locs L ls (by omega) hP hD hSh hS (by first | exact hl | simpa [Nat.add_assoc, Nat.mul_add, Nat.add_comm] using hl)
  have hl := lv_sub hl (l' := [(0, .ref (aw_c ad j 2)), (1, .long b), (3, .int x2), (4, .int x4), (5, .int (nI 12))]) [3, 4, 2, 1, 0] rfl
  exact L21 12 0 x2 x4 _ _ _ ls (by omega) hP hD hSh hS (by first | exact hl | simpa using hl)
abbrev ws_Xt_on : List Cond := Cond.code y_Xt_on b_Xt_on 7 (some .long) :: aw_G
abbrev rm_Xt_on : Room := { frames := 1, cells := 0, slots := 0, locals := 21 }
set_option maxHeartbeats 4000000 in
set_option maxRecDepth 100000 in
theorem k_Xt_on (l : Launch) (D : va_G) (g : Nat → ClassId) (ad : Nat → Nat) (G M : Nat → Nat × Nat) (F : Int32) (N0 : Nat) (j : Nat) (b : Int64) (hj : j < 4) : Met l y_Xt_on ws_Xt_on rm_Xt_on (va_Pc ([.ref (aw_c ad j 5), .long b] : List Value) (aw_B D g ad G M F N0)) (va_Ql (fun r (_ : Unit) => True) (fun (_ : Unit) t => aw_H D g ad G M F N0 t.heap) (aw_Z N0)) 0 0 (aw_Z N0) := by
  refine Met.ofW (cc := b_Xt_on) (maxL := 7) (ret := (some .long)) (by decide) rfl ?_
  intro p e s m args below meth c s₁ B hml hv
  obtain ⟨rfl, ⟨L, hP, hD, hSh⟩, hU⟩ := hv
  have hx := B.exec
  have hb := B.bytes
  have hr := B.returns
  have hG : ∀ w ∈ aw_G, w.before _ s = true := fun w h => atoms_spec (ws := ws_Xt_on) B.pre w (List.mem_cons_of_mem _ h)
  have hown : s.vm.findClass "RuleCiphers$Xtea" = some m.cls := findClass_of_methodNamed B.named
  have hlocks := B.notSynchronized
  have hE := hU.1
  have hK := hE.1
  have hN := hE.2.1
  have hS : va_S (aw_Z N0) s.heap s.heap [] := va_S.rf
  have hl := lv_entry ([.ref (aw_c ad j 5), .long b] : List Value) (n := 7) (Nat.le_of_ble_eq_true rfl)
  rw [lg_entry_eq]
  generalize (lg_sl ([.ref (aw_c ad j 5), .long b] : List Value) ++ List.replicate (7 - (lg_sl ([.ref (aw_c ad j 5), .long b] : List Value)).length) Slot.unset).toArray = ls at hl ⊢
  have hl : lv_has ls 7 [(0, .ref (aw_c ad j 5)), (1, .long b)] := hl
  refine lv_lload_n hx hb d_Xt_on_0 rfl (lv_at hl 1 rfl) ?_
  refine aw_ci ((va_runSN (As := [.long b]) (rest := []) ⟨hx, hb, hml, hown, hG⟩ (k_Ru_firstHalf l b) (aw_wSN 1 hG hN gw_4_52 nw_33 gw_0_1 gw_4_51 rfl rfl hd_Ru_firstHalf ⟨Nat.le_of_ble_eq_true rfl, Nat.le_of_ble_eq_true rfl⟩) aw_p0 rfl rfl hl.1 rfl (lv_room (Nat.le_of_ble_eq_true rfl)) d_Xt_on_1 ⟨Nat.le_of_ble_eq_true rfl, Nat.le_of_ble_eq_true rfl⟩).run) (fun x1 hx1 => ?_)
  refine lv_istore_n hx hb d_Xt_on_4 rfl hl (by decide) rfl (fun ls hl => ?_)
  have hl : lv_has ls 7 [(3, .int x1), (0, .ref (aw_c ad j 5)), (1, .long b)] := hl
  refine lv_lload_n hx hb d_Xt_on_5 rfl (lv_at hl 2 rfl) ?_
  refine aw_ci ((va_runSN (As := [.long b]) (rest := []) ⟨hx, hb, hml, hown, hG⟩ (k_Ru_secondHalf l b) (aw_wSN 1 hG hN gw_4_55 nw_34 gw_0_1 gw_4_54 rfl rfl hd_Ru_secondHalf ⟨Nat.le_of_ble_eq_true rfl, Nat.le_of_ble_eq_true rfl⟩) aw_p0 rfl rfl hl.1 rfl (lv_room (Nat.le_of_ble_eq_true rfl)) d_Xt_on_6 ⟨Nat.le_of_ble_eq_true rfl, Nat.le_of_ble_eq_true rfl⟩).run) (fun x2 hx2 => ?_)
  refine lv_istore hx hb d_Xt_on_9 hl (by decide) rfl (fun ls hl => ?_)
  have hl : lv_has ls 7 [(4, .int x2), (3, .int x1), (0, .ref (aw_c ad j 5)), (1, .long b)] := hl
  refine lv_iconst (v := nI 0) hx hb d_Xt_on_11 (by decide +kernel) ?_
  refine lv_istore hx hb d_Xt_on_12 hl (by decide) rfl (fun ls hl => ?_)
  have hl : lv_has ls 7 [(5, .int (nI 0)), (4, .int x2), (3, .int x1), (0, .ref (aw_c ad j 5)), (1, .long b)] := hl
  refine lv_iconst (v := nI 0) hx hb d_Xt_on_14 (by decide +kernel) ?_
  refine lv_istore hx hb d_Xt_on_15 hl (by decide) rfl (fun ls hl => ?_)
  have hl : lv_has ls 7 [(6, .int (nI 0)), (5, .int (nI 0)), (4, .int x2), (3, .int x1), (0, .ref (aw_c ad j 5)), (1, .long b)] := hl
  have L17 : ∀ (d t : Nat) (x3 : Int32) (x4 : Int32) (x5 : Int32) (H : Heap) (locs : List Loc) (L : va_W) (ls : Array Slot), t + d = 32 → va_P D aw_C L H → va_D (aw_Z N0) L → aw_Sh g ad G M F L → va_S (aw_Z N0) s.heap H locs → lv_has ls 7 [(0, .ref (aw_c ad j 5)), (1, .long b), (3, .int x3), (4, .int x4), (5, .int x5), (6, .int (nI t))] → W p l e (headSpec ws_Xt_on rm_Xt_on).room s m ([.ref (aw_c ad j 5), .long b] : List Value).toArray below meth c H locs 0 0 (MQ below (va_Ql (fun r (_ : Unit) => True) (fun (_ : Unit) t => aw_H D g ad G M F N0 t.heap) (aw_Z N0)) ([.ref (aw_c ad j 5), .long b] : List Value).toArray s 0 0 (aw_Z N0)) (F0 m 17 ls []) := by
    clear hP hD hSh hS
    clear hl
    intro d
    induction d with
    | zero => 
      intro t x3 x4 x5 H locs L ls ht0 hP hD hSh hS hl
      refine lv_iload hx hb d_Xt_on_17 (lv_at hl 5 rfl) ?_
      refine lv_bipush (v := nI 32) hx hb d_Xt_on_19 (by decide +kernel) ?_
      refine lv_icmp_ge (tgt := 83) hx hb d_Xt_on_21 (by decide) (fun _ => ?_) (fun h => absurd (show nI 32 ≤ nI t from (nI_leI (by omega) (by omega)).mpr (by omega)) h)
      refine lv_iload_n hx hb d_Xt_on_83 rfl (lv_at hl 2 rfl) ?_
      refine lv_iload hx hb d_Xt_on_84 (lv_at hl 3 rfl) ?_
      refine aw_cl ((va_runSN (As := [.int x3, .int x4]) (rest := []) ⟨hx, hb, hml, hown, hG⟩ (k_Ru_joined l x3 x4) (aw_wSN 2 hG hN gw_6_31 nw_35 gw_0_1 gw_6_30 rfl rfl hd_Ru_joined ⟨Nat.le_of_ble_eq_true rfl, Nat.le_of_ble_eq_true rfl⟩) aw_p0 rfl rfl hl.1 rfl (lv_room (Nat.le_of_ble_eq_true rfl)) d_Xt_on_86 ⟨Nat.le_of_ble_eq_true rfl, Nat.le_of_ble_eq_true rfl⟩).run) (fun y6 hy6 => ?_)
      exact W.lret hx hb hr (fun t ht hW => ⟨⟨_, (), rfl, trivial, aw_Hr ht hP hD hSh⟩, hS.F ht⟩) hS.2.2 d_Xt_on_89
    | succ d ih => 
      intro t x3 x4 x5 H locs L ls ht0 hP hD hSh hS hl
      refine lv_iload hx hb d_Xt_on_17 (lv_at hl 5 rfl) ?_
      refine lv_bipush (v := nI 32) hx hb d_Xt_on_19 (by decide +kernel) ?_
      refine lv_icmp_ge (tgt := 83) hx hb d_Xt_on_21 (by decide) (fun h => absurd h (show ¬ nI 32 ≤ nI t from fun h9 => absurd ((nI_leI (by omega) (by omega)).mp h9) (by omega))) (fun _ => ?_)
      refine lv_iload_n hx hb d_Xt_on_24 rfl (lv_at hl 2 rfl) ?_
      refine lv_iload hx hb d_Xt_on_25 (lv_at hl 3 rfl) ?_
      refine aw_ci ((va_runS (As := [.int x4]) (rest := [.int x3]) ⟨hx, hb, hml, hown, hG⟩ (k_Xt_stirred l x4) (aw_wS 1 hG gw_6_48 gw_6_46 gw_0_5 gw_6_47 rfl rfl hd_Xt_stirred ⟨Nat.le_of_ble_eq_true rfl, Nat.le_of_ble_eq_true rfl⟩) aw_p0 rfl rfl hl.1 rfl (lv_room (Nat.le_of_ble_eq_true rfl)) d_Xt_on_27 ⟨Nat.le_of_ble_eq_true rfl, Nat.le_of_ble_eq_true rfl⟩).run) (fun x7 hx7 => ?_)
      refine lv_iload hx hb d_Xt_on_30 (lv_at hl 4 rfl) ?_
      refine lv_aload_n hx hb d_Xt_on_32 rfl (lv_at hl 0 rfl) ?_
      have he8 := rd_C5 hSh hj
      refine va_get (C := R_Xt) (T := T_Xt) (N := 1) (v := .ref (aw_c ad j 6)) hx hb hG in_Xt hown hK hP (3 + 16 * j + 5) he8 rfl 0 (by decide) (hG _ gw_0_44) (fun x9 h9 => u_same (hG _ gw_0_45) x9 h9) rfl d_Xt_on_33 ?_
      refine lv_iload hx hb d_Xt_on_36 (lv_at hl 4 rfl) ?_
      refine lv_iconst (v := nI 3) hx hb d_Xt_on_38 (by decide +kernel) ?_
      refine lv_iand hx hb d_Xt_on_39 ?_
      obtain ⟨k9, hk9, ek9⟩ := pk_andE x5 (m := nI 3) 2 (by decide +kernel)
      refine aw_ti ek9 ?_
      obtain ⟨f11, he10⟩ := rd_C6 hSh hj
      refine aw_ild hx hb hK hP (3 + 16 * j + 6) 0 he10 rfl (k := k9) (by omega) (by decide) d_Xt_on_40 ?_
      refine lv_topi (fun x12 _ => ?_)
      refine lv_iadd hx hb d_Xt_on_41 ?_
      refine lv_topi (fun x13 _ => ?_)
      refine lv_ixor hx hb d_Xt_on_42 ?_
      refine lv_topi (fun x14 _ => ?_)
      refine lv_iadd hx hb d_Xt_on_43 ?_
      refine lv_topi (fun x15 _ => ?_)
      refine lv_istore_n hx hb d_Xt_on_44 rfl hl (by decide) rfl (fun ls hl => ?_)
      have hl : lv_has ls 7 [(3, .int x15), (0, .ref (aw_c ad j 5)), (1, .long b), (4, .int x4), (5, .int x5), (6, .int (nI t))] := hl
      refine lv_iload hx hb d_Xt_on_45 (lv_at hl 4 rfl) ?_
      refine lv_ldc (v := 1640531527) hx hb hown (hG _ gw_6_49) d_Xt_on_47 ?_
      refine lv_isub hx hb d_Xt_on_49 ?_
      refine lv_topi (fun x16 _ => ?_)
      refine lv_istore hx hb d_Xt_on_50 hl (by decide) rfl (fun ls hl => ?_)
      have hl : lv_has ls 7 [(5, .int x16), (3, .int x15), (0, .ref (aw_c ad j 5)), (1, .long b), (4, .int x4), (6, .int (nI t))] := hl
      refine lv_iload hx hb d_Xt_on_52 (lv_at hl 4 rfl) ?_
      refine lv_iload_n hx hb d_Xt_on_54 rfl (lv_at hl 1 rfl) ?_
      refine aw_ci ((va_runS (As := [.int x15]) (rest := [.int x4]) ⟨hx, hb, hml, hown, hG⟩ (k_Xt_stirred l x15) (aw_wS 1 hG gw_6_48 gw_6_46 gw_0_5 gw_6_47 rfl rfl hd_Xt_stirred ⟨Nat.le_of_ble_eq_true rfl, Nat.le_of_ble_eq_true rfl⟩) aw_p0 rfl rfl hl.1 rfl (lv_room (Nat.le_of_ble_eq_true rfl)) d_Xt_on_55 ⟨Nat.le_of_ble_eq_true rfl, Nat.le_of_ble_eq_true rfl⟩).run) (fun x17 hx17 => ?_)
      refine lv_iload hx hb d_Xt_on_58 (lv_at hl 0 rfl) ?_
      refine lv_aload_n hx hb d_Xt_on_60 rfl (lv_at hl 2 rfl) ?_
      have he18 := rd_C5 hSh hj
      refine va_get (C := R_Xt) (T := T_Xt) (N := 1) (v := .ref (aw_c ad j 6)) hx hb hG in_Xt hown hK hP (3 + 16 * j + 5) he18 rfl 0 (by decide) (hG _ gw_0_44) (fun x9 h9 => u_same (hG _ gw_0_45) x9 h9) rfl d_Xt_on_61 ?_
      refine lv_iload hx hb d_Xt_on_64 (lv_at hl 0 rfl) ?_
      refine lv_bipush (v := nI 11) hx hb d_Xt_on_66 (by decide +kernel) ?_
      refine lv_iushr hx hb d_Xt_on_68 rfl ?_
      refine lv_topi (fun x19 _ => ?_)
      refine lv_iconst (v := nI 3) hx hb d_Xt_on_69 (by decide +kernel) ?_
      refine lv_iand hx hb d_Xt_on_70 ?_
      obtain ⟨k20, hk20, ek20⟩ := pk_andE x19 (m := nI 3) 2 (by decide +kernel)
      refine aw_ti ek20 ?_
      obtain ⟨f22, he21⟩ := rd_C6 hSh hj
      refine aw_ild hx hb hK hP (3 + 16 * j + 6) 0 he21 rfl (k := k20) (by omega) (by decide) d_Xt_on_71 ?_
      refine lv_topi (fun x23 _ => ?_)
      refine lv_iadd hx hb d_Xt_on_72 ?_
      refine lv_topi (fun x24 _ => ?_)
      refine lv_ixor hx hb d_Xt_on_73 ?_
      refine lv_topi (fun x25 _ => ?_)
      refine lv_iadd hx hb d_Xt_on_74 ?_
      refine lv_topi (fun x26 _ => ?_)
      refine lv_istore hx hb d_Xt_on_75 hl (by decide) rfl (fun ls hl => ?_)
      have hl : lv_has ls 7 [(4, .int x26), (5, .int x16), (3, .int x15), (0, .ref (aw_c ad j 5)), (1, .long b), (6, .int (nI t))] := hl
      refine lv_iinc (k := 5) (v := nI (t + 1)) hx hb d_Xt_on_77 hl rfl (aw_inc t 1 1 (by decide +kernel)) (by decide) rfl (fun ls hl => ?_)
      have hl : lv_has ls 7 [(6, .int (nI (t + 1))), (4, .int x26), (5, .int x16), (3, .int x15), (0, .ref (aw_c ad j 5)), (1, .long b)] := hl
      refine lv_goto (tgt := 17) hx hb d_Xt_on_80 (by decide) ?_
      have hl := lv_sub hl (l' := [(0, .ref (aw_c ad j 5)), (1, .long b), (3, .int x15), (4, .int x26), (5, .int x16), (6, .int (nI (t + 1)))]) [4, 5, 3, 1, 2, 0] rfl
      exact ih (t + 1) x15 x26 x16 H locs L ls (by omega) hP hD hSh hS (by first | exact hl | simpa [Nat.add_assoc, Nat.mul_add, Nat.add_comm] using hl)
  have hl := lv_sub hl (l' := [(0, .ref (aw_c ad j 5)), (1, .long b), (3, .int x1), (4, .int x2), (5, .int (nI 0)), (6, .int (nI 0))]) [4, 5, 3, 2, 1, 0] rfl
  exact L17 32 0 x1 x2 (nI 0) _ _ _ ls (by omega) hP hD hSh hS (by first | exact hl | simpa using hl)
abbrev ws_Xt_back : List Cond := Cond.code y_Xt_back b_Xt_back 7 (some .long) :: aw_G
abbrev rm_Xt_back : Room := { frames := 1, cells := 0, slots := 0, locals := 21 }
set_option maxHeartbeats 4000000 in
set_option maxRecDepth 100000 in
theorem k_Xt_back (l : Launch) (D : va_G) (g : Nat → ClassId) (ad : Nat → Nat) (G M : Nat → Nat × Nat) (F : Int32) (N0 : Nat) (j : Nat) (b : Int64) (hj : j < 4) : Met l y_Xt_back ws_Xt_back rm_Xt_back (va_Pc ([.ref (aw_c ad j 5), .long b] : List Value) (aw_B D g ad G M F N0)) (va_Ql (fun r (_ : Unit) => True) (fun (_ : Unit) t => aw_H D g ad G M F N0 t.heap) (aw_Z N0)) 0 0 (aw_Z N0) := by
  refine Met.ofW (cc := b_Xt_back) (maxL := 7) (ret := (some .long)) (by decide) rfl ?_
  intro p e s m args below meth c s₁ B hml hv
  obtain ⟨rfl, ⟨L, hP, hD, hSh⟩, hU⟩ := hv
  have hx := B.exec
  have hb := B.bytes
  have hr := B.returns
  have hG : ∀ w ∈ aw_G, w.before _ s = true := fun w h => atoms_spec (ws := ws_Xt_back) B.pre w (List.mem_cons_of_mem _ h)
  have hown : s.vm.findClass "RuleCiphers$Xtea" = some m.cls := findClass_of_methodNamed B.named
  have hlocks := B.notSynchronized
  have hE := hU.1
  have hK := hE.1
  have hN := hE.2.1
  have hS : va_S (aw_Z N0) s.heap s.heap [] := va_S.rf
  have hl := lv_entry ([.ref (aw_c ad j 5), .long b] : List Value) (n := 7) (Nat.le_of_ble_eq_true rfl)
  rw [lg_entry_eq]
  generalize (lg_sl ([.ref (aw_c ad j 5), .long b] : List Value) ++ List.replicate (7 - (lg_sl ([.ref (aw_c ad j 5), .long b] : List Value)).length) Slot.unset).toArray = ls at hl ⊢
  have hl : lv_has ls 7 [(0, .ref (aw_c ad j 5)), (1, .long b)] := hl
  refine lv_lload_n hx hb d_Xt_back_0 rfl (lv_at hl 1 rfl) ?_
  refine aw_ci ((va_runSN (As := [.long b]) (rest := []) ⟨hx, hb, hml, hown, hG⟩ (k_Ru_firstHalf l b) (aw_wSN 1 hG hN gw_4_52 nw_33 gw_0_1 gw_4_51 rfl rfl hd_Ru_firstHalf ⟨Nat.le_of_ble_eq_true rfl, Nat.le_of_ble_eq_true rfl⟩) aw_p0 rfl rfl hl.1 rfl (lv_room (Nat.le_of_ble_eq_true rfl)) d_Xt_back_1 ⟨Nat.le_of_ble_eq_true rfl, Nat.le_of_ble_eq_true rfl⟩).run) (fun x1 hx1 => ?_)
  refine lv_istore_n hx hb d_Xt_back_4 rfl hl (by decide) rfl (fun ls hl => ?_)
  have hl : lv_has ls 7 [(3, .int x1), (0, .ref (aw_c ad j 5)), (1, .long b)] := hl
  refine lv_lload_n hx hb d_Xt_back_5 rfl (lv_at hl 2 rfl) ?_
  refine aw_ci ((va_runSN (As := [.long b]) (rest := []) ⟨hx, hb, hml, hown, hG⟩ (k_Ru_secondHalf l b) (aw_wSN 1 hG hN gw_4_55 nw_34 gw_0_1 gw_4_54 rfl rfl hd_Ru_secondHalf ⟨Nat.le_of_ble_eq_true rfl, Nat.le_of_ble_eq_true rfl⟩) aw_p0 rfl rfl hl.1 rfl (lv_room (Nat.le_of_ble_eq_true rfl)) d_Xt_back_6 ⟨Nat.le_of_ble_eq_true rfl, Nat.le_of_ble_eq_true rfl⟩).run) (fun x2 hx2 => ?_)
  refine lv_istore hx hb d_Xt_back_9 hl (by decide) rfl (fun ls hl => ?_)
  have hl : lv_has ls 7 [(4, .int x2), (3, .int x1), (0, .ref (aw_c ad j 5)), (1, .long b)] := hl
  refine lv_ldc (v := (-957401312)) hx hb hown (hG _ gw_6_45) d_Xt_back_11 ?_
  refine lv_istore hx hb d_Xt_back_13 hl (by decide) rfl (fun ls hl => ?_)
  have hl : lv_has ls 7 [(5, .int ((-957401312))), (4, .int x2), (3, .int x1), (0, .ref (aw_c ad j 5)), (1, .long b)] := hl
  refine lv_iconst (v := nI 0) hx hb d_Xt_back_15 (by decide +kernel) ?_
  refine lv_istore hx hb d_Xt_back_16 hl (by decide) rfl (fun ls hl => ?_)
  have hl : lv_has ls 7 [(6, .int (nI 0)), (5, .int ((-957401312))), (4, .int x2), (3, .int x1), (0, .ref (aw_c ad j 5)), (1, .long b)] := hl
  have L18 : ∀ (d t : Nat) (x3 : Int32) (x4 : Int32) (x5 : Int32) (H : Heap) (locs : List Loc) (L : va_W) (ls : Array Slot), t + d = 32 → va_P D aw_C L H → va_D (aw_Z N0) L → aw_Sh g ad G M F L → va_S (aw_Z N0) s.heap H locs → lv_has ls 7 [(0, .ref (aw_c ad j 5)), (1, .long b), (3, .int x3), (4, .int x4), (5, .int x5), (6, .int (nI t))] → W p l e (headSpec ws_Xt_back rm_Xt_back).room s m ([.ref (aw_c ad j 5), .long b] : List Value).toArray below meth c H locs 0 0 (MQ below (va_Ql (fun r (_ : Unit) => True) (fun (_ : Unit) t => aw_H D g ad G M F N0 t.heap) (aw_Z N0)) ([.ref (aw_c ad j 5), .long b] : List Value).toArray s 0 0 (aw_Z N0)) (F0 m 18 ls []) := by
    clear hP hD hSh hS
    clear hl
    intro d
    induction d with
    | zero => 
      intro t x3 x4 x5 H locs L ls ht0 hP hD hSh hS hl
      refine lv_iload hx hb d_Xt_back_18 (lv_at hl 5 rfl) ?_
      refine lv_bipush (v := nI 32) hx hb d_Xt_back_20 (by decide +kernel) ?_
      refine lv_icmp_ge (tgt := 84) hx hb d_Xt_back_22 (by decide) (fun _ => ?_) (fun h => absurd (show nI 32 ≤ nI t from (nI_leI (by omega) (by omega)).mpr (by omega)) h)
      refine lv_iload_n hx hb d_Xt_back_84 rfl (lv_at hl 2 rfl) ?_
      refine lv_iload hx hb d_Xt_back_85 (lv_at hl 3 rfl) ?_
      refine aw_cl ((va_runSN (As := [.int x3, .int x4]) (rest := []) ⟨hx, hb, hml, hown, hG⟩ (k_Ru_joined l x3 x4) (aw_wSN 2 hG hN gw_6_31 nw_35 gw_0_1 gw_6_30 rfl rfl hd_Ru_joined ⟨Nat.le_of_ble_eq_true rfl, Nat.le_of_ble_eq_true rfl⟩) aw_p0 rfl rfl hl.1 rfl (lv_room (Nat.le_of_ble_eq_true rfl)) d_Xt_back_87 ⟨Nat.le_of_ble_eq_true rfl, Nat.le_of_ble_eq_true rfl⟩).run) (fun y6 hy6 => ?_)
      exact W.lret hx hb hr (fun t ht hW => ⟨⟨_, (), rfl, trivial, aw_Hr ht hP hD hSh⟩, hS.F ht⟩) hS.2.2 d_Xt_back_90
    | succ d ih => 
      intro t x3 x4 x5 H locs L ls ht0 hP hD hSh hS hl
      refine lv_iload hx hb d_Xt_back_18 (lv_at hl 5 rfl) ?_
      refine lv_bipush (v := nI 32) hx hb d_Xt_back_20 (by decide +kernel) ?_
      refine lv_icmp_ge (tgt := 84) hx hb d_Xt_back_22 (by decide) (fun h => absurd h (show ¬ nI 32 ≤ nI t from fun h9 => absurd ((nI_leI (by omega) (by omega)).mp h9) (by omega))) (fun _ => ?_)
      refine lv_iload hx hb d_Xt_back_25 (lv_at hl 3 rfl) ?_
      refine lv_iload_n hx hb d_Xt_back_27 rfl (lv_at hl 2 rfl) ?_
      refine aw_ci ((va_runS (As := [.int x3]) (rest := [.int x4]) ⟨hx, hb, hml, hown, hG⟩ (k_Xt_stirred l x3) (aw_wS 1 hG gw_6_48 gw_6_46 gw_0_5 gw_6_47 rfl rfl hd_Xt_stirred ⟨Nat.le_of_ble_eq_true rfl, Nat.le_of_ble_eq_true rfl⟩) aw_p0 rfl rfl hl.1 rfl (lv_room (Nat.le_of_ble_eq_true rfl)) d_Xt_back_28 ⟨Nat.le_of_ble_eq_true rfl, Nat.le_of_ble_eq_true rfl⟩).run) (fun x7 hx7 => ?_)
      refine lv_iload hx hb d_Xt_back_31 (lv_at hl 4 rfl) ?_
      refine lv_aload_n hx hb d_Xt_back_33 rfl (lv_at hl 0 rfl) ?_
      have he8 := rd_C5 hSh hj
      refine va_get (C := R_Xt) (T := T_Xt) (N := 1) (v := .ref (aw_c ad j 6)) hx hb hG in_Xt hown hK hP (3 + 16 * j + 5) he8 rfl 0 (by decide) (hG _ gw_0_44) (fun x9 h9 => u_same (hG _ gw_0_45) x9 h9) rfl d_Xt_back_34 ?_
      refine lv_iload hx hb d_Xt_back_37 (lv_at hl 4 rfl) ?_
      refine lv_bipush (v := nI 11) hx hb d_Xt_back_39 (by decide +kernel) ?_
      refine lv_iushr hx hb d_Xt_back_41 rfl ?_
      refine lv_topi (fun x9 _ => ?_)
      refine lv_iconst (v := nI 3) hx hb d_Xt_back_42 (by decide +kernel) ?_
      refine lv_iand hx hb d_Xt_back_43 ?_
      obtain ⟨k10, hk10, ek10⟩ := pk_andE x9 (m := nI 3) 2 (by decide +kernel)
      refine aw_ti ek10 ?_
      obtain ⟨f12, he11⟩ := rd_C6 hSh hj
      refine aw_ild hx hb hK hP (3 + 16 * j + 6) 0 he11 rfl (k := k10) (by omega) (by decide) d_Xt_back_44 ?_
      refine lv_topi (fun x13 _ => ?_)
      refine lv_iadd hx hb d_Xt_back_45 ?_
      refine lv_topi (fun x14 _ => ?_)
      refine lv_ixor hx hb d_Xt_back_46 ?_
      refine lv_topi (fun x15 _ => ?_)
      refine lv_isub hx hb d_Xt_back_47 ?_
      refine lv_topi (fun x16 _ => ?_)
      refine lv_istore hx hb d_Xt_back_48 hl (by decide) rfl (fun ls hl => ?_)
      have hl : lv_has ls 7 [(4, .int x16), (0, .ref (aw_c ad j 5)), (1, .long b), (3, .int x3), (5, .int x5), (6, .int (nI t))] := hl
      refine lv_iload hx hb d_Xt_back_50 (lv_at hl 4 rfl) ?_
      refine lv_ldc (v := 1640531527) hx hb hown (hG _ gw_6_49) d_Xt_back_52 ?_
      refine lv_iadd hx hb d_Xt_back_54 ?_
      refine lv_topi (fun x17 _ => ?_)
      refine lv_istore hx hb d_Xt_back_55 hl (by decide) rfl (fun ls hl => ?_)
      have hl : lv_has ls 7 [(5, .int x17), (4, .int x16), (0, .ref (aw_c ad j 5)), (1, .long b), (3, .int x3), (6, .int (nI t))] := hl
      refine lv_iload_n hx hb d_Xt_back_57 rfl (lv_at hl 4 rfl) ?_
      refine lv_iload hx hb d_Xt_back_58 (lv_at hl 1 rfl) ?_
      refine aw_ci ((va_runS (As := [.int x16]) (rest := [.int x3]) ⟨hx, hb, hml, hown, hG⟩ (k_Xt_stirred l x16) (aw_wS 1 hG gw_6_48 gw_6_46 gw_0_5 gw_6_47 rfl rfl hd_Xt_stirred ⟨Nat.le_of_ble_eq_true rfl, Nat.le_of_ble_eq_true rfl⟩) aw_p0 rfl rfl hl.1 rfl (lv_room (Nat.le_of_ble_eq_true rfl)) d_Xt_back_60 ⟨Nat.le_of_ble_eq_true rfl, Nat.le_of_ble_eq_true rfl⟩).run) (fun x18 hx18 => ?_)
      refine lv_iload hx hb d_Xt_back_63 (lv_at hl 0 rfl) ?_
      refine lv_aload_n hx hb d_Xt_back_65 rfl (lv_at hl 2 rfl) ?_
      have he19 := rd_C5 hSh hj
      refine va_get (C := R_Xt) (T := T_Xt) (N := 1) (v := .ref (aw_c ad j 6)) hx hb hG in_Xt hown hK hP (3 + 16 * j + 5) he19 rfl 0 (by decide) (hG _ gw_0_44) (fun x9 h9 => u_same (hG _ gw_0_45) x9 h9) rfl d_Xt_back_66 ?_
      refine lv_iload hx hb d_Xt_back_69 (lv_at hl 0 rfl) ?_
      refine lv_iconst (v := nI 3) hx hb d_Xt_back_71 (by decide +kernel) ?_
      refine lv_iand hx hb d_Xt_back_72 ?_
      obtain ⟨k20, hk20, ek20⟩ := pk_andE x17 (m := nI 3) 2 (by decide +kernel)
      refine aw_ti ek20 ?_
      obtain ⟨f22, he21⟩ := rd_C6 hSh hj
      refine aw_ild hx hb hK hP (3 + 16 * j + 6) 0 he21 rfl (k := k20) (by omega) (by decide) d_Xt_back_73 ?_
      refine lv_topi (fun x23 _ => ?_)
      refine lv_iadd hx hb d_Xt_back_74 ?_
      refine lv_topi (fun x24 _ => ?_)
      refine lv_ixor hx hb d_Xt_back_75 ?_
      refine lv_topi (fun x25 _ => ?_)
      refine lv_isub hx hb d_Xt_back_76 ?_
      refine lv_topi (fun x26 _ => ?_)
      refine lv_istore_n hx hb d_Xt_back_77 rfl hl (by decide) rfl (fun ls hl => ?_)
      have hl : lv_has ls 7 [(3, .int x26), (5, .int x17), (4, .int x16), (0, .ref (aw_c ad j 5)), (1, .long b), (6, .int (nI t))] := hl
      refine lv_iinc (k := 5) (v := nI (t + 1)) hx hb d_Xt_back_78 hl rfl (aw_inc t 1 1 (by decide +kernel)) (by decide) rfl (fun ls hl => ?_)
      have hl : lv_has ls 7 [(6, .int (nI (t + 1))), (3, .int x26), (5, .int x17), (4, .int x16), (0, .ref (aw_c ad j 5)), (1, .long b)] := hl
      refine lv_goto (tgt := 18) hx hb d_Xt_back_81 (by decide) ?_
      have hl := lv_sub hl (l' := [(0, .ref (aw_c ad j 5)), (1, .long b), (3, .int x26), (4, .int x16), (5, .int x17), (6, .int (nI (t + 1)))]) [4, 5, 1, 3, 2, 0] rfl
      exact ih (t + 1) x26 x16 x17 H locs L ls (by omega) hP hD hSh hS (by first | exact hl | simpa [Nat.add_assoc, Nat.mul_add, Nat.add_comm] using hl)
  have hl := lv_sub hl (l' := [(0, .ref (aw_c ad j 5)), (1, .long b), (3, .int x1), (4, .int x2), (5, .int ((-957401312))), (6, .int (nI 0))]) [4, 5, 3, 2, 1, 0] rfl
  exact L18 32 0 x1 x2 ((-957401312)) _ _ _ ls (by omega) hP hD hSh hS (by first | exact hl | simpa using hl)
abbrev ws_Sp_on : List Cond := Cond.code y_Sp_on b_Sp_on 6 (some .long) :: aw_G
abbrev rm_Sp_on : Room := { frames := 1, cells := 0, slots := 0, locals := 21 }
set_option maxHeartbeats 4000000 in
set_option maxRecDepth 100000 in
theorem k_Sp_on (l : Launch) (D : va_G) (g : Nat → ClassId) (ad : Nat → Nat) (G M : Nat → Nat × Nat) (F : Int32) (N0 : Nat) (j : Nat) (b : Int64) (hj : j < 4) : Met l y_Sp_on ws_Sp_on rm_Sp_on (va_Pc ([.ref (aw_c ad j 7), .long b] : List Value) (aw_B D g ad G M F N0)) (va_Ql (fun r (_ : Unit) => True) (fun (_ : Unit) t => aw_H D g ad G M F N0 t.heap) (aw_Z N0)) 0 0 (aw_Z N0) := by
  refine Met.ofW (cc := b_Sp_on) (maxL := 6) (ret := (some .long)) (by decide) rfl ?_
  intro p e s m args below meth c s₁ B hml hv
  obtain ⟨rfl, ⟨L, hP, hD, hSh⟩, hU⟩ := hv
  have hx := B.exec
  have hb := B.bytes
  have hr := B.returns
  have hG : ∀ w ∈ aw_G, w.before _ s = true := fun w h => atoms_spec (ws := ws_Sp_on) B.pre w (List.mem_cons_of_mem _ h)
  have hown : s.vm.findClass "RuleCiphers$Speck" = some m.cls := findClass_of_methodNamed B.named
  have hlocks := B.notSynchronized
  have hE := hU.1
  have hK := hE.1
  have hN := hE.2.1
  have hS : va_S (aw_Z N0) s.heap s.heap [] := va_S.rf
  have hl := lv_entry ([.ref (aw_c ad j 7), .long b] : List Value) (n := 6) (Nat.le_of_ble_eq_true rfl)
  rw [lg_entry_eq]
  generalize (lg_sl ([.ref (aw_c ad j 7), .long b] : List Value) ++ List.replicate (6 - (lg_sl ([.ref (aw_c ad j 7), .long b] : List Value)).length) Slot.unset).toArray = ls at hl ⊢
  have hl : lv_has ls 6 [(0, .ref (aw_c ad j 7)), (1, .long b)] := hl
  refine lv_lload_n hx hb d_Sp_on_0 rfl (lv_at hl 1 rfl) ?_
  refine aw_ci ((va_runSN (As := [.long b]) (rest := []) ⟨hx, hb, hml, hown, hG⟩ (k_Ru_firstHalf l b) (aw_wSN 1 hG hN gw_4_52 nw_30 gw_0_1 gw_4_51 rfl rfl hd_Ru_firstHalf ⟨Nat.le_of_ble_eq_true rfl, Nat.le_of_ble_eq_true rfl⟩) aw_p0 rfl rfl hl.1 rfl (lv_room (Nat.le_of_ble_eq_true rfl)) d_Sp_on_1 ⟨Nat.le_of_ble_eq_true rfl, Nat.le_of_ble_eq_true rfl⟩).run) (fun x1 hx1 => ?_)
  refine lv_istore_n hx hb d_Sp_on_4 rfl hl (by decide) rfl (fun ls hl => ?_)
  have hl : lv_has ls 6 [(3, .int x1), (0, .ref (aw_c ad j 7)), (1, .long b)] := hl
  refine lv_lload_n hx hb d_Sp_on_5 rfl (lv_at hl 2 rfl) ?_
  refine aw_ci ((va_runSN (As := [.long b]) (rest := []) ⟨hx, hb, hml, hown, hG⟩ (k_Ru_secondHalf l b) (aw_wSN 1 hG hN gw_4_55 nw_31 gw_0_1 gw_4_54 rfl rfl hd_Ru_secondHalf ⟨Nat.le_of_ble_eq_true rfl, Nat.le_of_ble_eq_true rfl⟩) aw_p0 rfl rfl hl.1 rfl (lv_room (Nat.le_of_ble_eq_true rfl)) d_Sp_on_6 ⟨Nat.le_of_ble_eq_true rfl, Nat.le_of_ble_eq_true rfl⟩).run) (fun x2 hx2 => ?_)
  refine lv_istore hx hb d_Sp_on_9 hl (by decide) rfl (fun ls hl => ?_)
  have hl : lv_has ls 6 [(4, .int x2), (3, .int x1), (0, .ref (aw_c ad j 7)), (1, .long b)] := hl
  refine lv_iconst (v := nI 0) hx hb d_Sp_on_11 (by decide +kernel) ?_
  refine lv_istore hx hb d_Sp_on_12 hl (by decide) rfl (fun ls hl => ?_)
  have hl : lv_has ls 6 [(5, .int (nI 0)), (4, .int x2), (3, .int x1), (0, .ref (aw_c ad j 7)), (1, .long b)] := hl
  have L14 : ∀ (d t : Nat) (x3 : Int32) (x4 : Int32) (H : Heap) (locs : List Loc) (L : va_W) (ls : Array Slot), t + d = 27 → va_P D aw_C L H → va_D (aw_Z N0) L → aw_Sh g ad G M F L → va_S (aw_Z N0) s.heap H locs → lv_has ls 6 [(0, .ref (aw_c ad j 7)), (1, .long b), (3, .int x3), (4, .int x4), (5, .int (nI t))] → W p l e (headSpec ws_Sp_on rm_Sp_on).room s m ([.ref (aw_c ad j 7), .long b] : List Value).toArray below meth c H locs 0 0 (MQ below (va_Ql (fun r (_ : Unit) => True) (fun (_ : Unit) t => aw_H D g ad G M F N0 t.heap) (aw_Z N0)) ([.ref (aw_c ad j 7), .long b] : List Value).toArray s 0 0 (aw_Z N0)) (F0 m 14 ls []) := by
    clear hP hD hSh hS
    clear hl
    intro d
    induction d with
    | zero => 
      intro t x3 x4 H locs L ls ht0 hP hD hSh hS hl
      refine lv_iload hx hb d_Sp_on_14 (lv_at hl 4 rfl) ?_
      refine lv_bipush (v := nI 27) hx hb d_Sp_on_16 (by decide +kernel) ?_
      refine lv_icmp_ge (tgt := 55) hx hb d_Sp_on_18 (by decide) (fun _ => ?_) (fun h => absurd (show nI 27 ≤ nI t from (nI_leI (by omega) (by omega)).mpr (by omega)) h)
      refine lv_iload_n hx hb d_Sp_on_55 rfl (lv_at hl 2 rfl) ?_
      refine lv_iload hx hb d_Sp_on_56 (lv_at hl 3 rfl) ?_
      refine aw_cl ((va_runSN (As := [.int x3, .int x4]) (rest := []) ⟨hx, hb, hml, hown, hG⟩ (k_Ru_joined l x3 x4) (aw_wSN 2 hG hN gw_6_31 nw_32 gw_0_1 gw_6_30 rfl rfl hd_Ru_joined ⟨Nat.le_of_ble_eq_true rfl, Nat.le_of_ble_eq_true rfl⟩) aw_p0 rfl rfl hl.1 rfl (lv_room (Nat.le_of_ble_eq_true rfl)) d_Sp_on_58 ⟨Nat.le_of_ble_eq_true rfl, Nat.le_of_ble_eq_true rfl⟩).run) (fun y5 hy5 => ?_)
      exact W.lret hx hb hr (fun t ht hW => ⟨⟨_, (), rfl, trivial, aw_Hr ht hP hD hSh⟩, hS.F ht⟩) hS.2.2 d_Sp_on_61
    | succ d ih => 
      intro t x3 x4 H locs L ls ht0 hP hD hSh hS hl
      refine lv_iload hx hb d_Sp_on_14 (lv_at hl 4 rfl) ?_
      refine lv_bipush (v := nI 27) hx hb d_Sp_on_16 (by decide +kernel) ?_
      refine lv_icmp_ge (tgt := 55) hx hb d_Sp_on_18 (by decide) (fun h => absurd h (show ¬ nI 27 ≤ nI t from fun h9 => absurd ((nI_leI (by omega) (by omega)).mp h9) (by omega))) (fun _ => ?_)
      refine lv_iload_n hx hb d_Sp_on_21 rfl (lv_at hl 2 rfl) ?_
      refine lv_bipush (v := nI 8) hx hb d_Sp_on_22 (by decide +kernel) ?_
      refine aw_ci ((va_runSN (As := [.int x3, .int (nI 8)]) (rest := []) ⟨hx, hb, hml, hown, hG⟩ (k_Ru_turnRight l x3 (nI 8)) (aw_wSN 2 hG hN gw_5_10 nw_18 gw_0_1 gw_5_9 rfl rfl hd_Ru_turnRight ⟨Nat.le_of_ble_eq_true rfl, Nat.le_of_ble_eq_true rfl⟩) aw_p0 rfl rfl hl.1 rfl (lv_room (Nat.le_of_ble_eq_true rfl)) d_Sp_on_24 ⟨Nat.le_of_ble_eq_true rfl, Nat.le_of_ble_eq_true rfl⟩).run) (fun x6 hx6 => ?_)
      refine lv_iload hx hb d_Sp_on_27 (lv_at hl 3 rfl) ?_
      refine lv_iadd hx hb d_Sp_on_29 ?_
      refine lv_topi (fun x7 _ => ?_)
      refine lv_aload_n hx hb d_Sp_on_30 rfl (lv_at hl 0 rfl) ?_
      have he8 := rd_C7 hSh hj
      refine va_get (C := R_Sp) (T := T_Sp) (N := 2) (v := .ref (aw_c ad j 8)) hx hb hG in_Sp hown hK hP (3 + 16 * j + 7) he8 rfl 0 (by decide) (hG _ gw_0_48) (fun x9 h9 => u_same (hG _ gw_0_49) x9 h9) rfl d_Sp_on_31 ?_
      refine lv_iload hx hb d_Sp_on_34 (lv_at hl 4 rfl) ?_
      obtain ⟨f10, he9⟩ := rd_C8 hSh hj
      refine aw_ild hx hb hK hP (3 + 16 * j + 8) 0 he9 rfl (k := t) (by omega) (by decide) d_Sp_on_36 ?_
      refine lv_topi (fun x11 _ => ?_)
      refine lv_ixor hx hb d_Sp_on_37 ?_
      refine lv_topi (fun x12 _ => ?_)
      refine lv_istore_n hx hb d_Sp_on_38 rfl hl (by decide) rfl (fun ls hl => ?_)
      have hl : lv_has ls 6 [(3, .int x12), (0, .ref (aw_c ad j 7)), (1, .long b), (4, .int x4), (5, .int (nI t))] := hl
      refine lv_iload hx hb d_Sp_on_39 (lv_at hl 3 rfl) ?_
      refine lv_iconst (v := nI 3) hx hb d_Sp_on_41 (by decide +kernel) ?_
      refine aw_ci ((va_runSN (As := [.int x4, .int (nI 3)]) (rest := []) ⟨hx, hb, hml, hown, hG⟩ (k_Ru_turnLeft l x4 (nI 3)) (aw_wSN 2 hG hN gw_5_5 nw_19 gw_0_1 gw_5_4 rfl rfl hd_Ru_turnLeft ⟨Nat.le_of_ble_eq_true rfl, Nat.le_of_ble_eq_true rfl⟩) aw_p0 rfl rfl hl.1 rfl (lv_room (Nat.le_of_ble_eq_true rfl)) d_Sp_on_42 ⟨Nat.le_of_ble_eq_true rfl, Nat.le_of_ble_eq_true rfl⟩).run) (fun x13 hx13 => ?_)
      refine lv_iload_n hx hb d_Sp_on_45 rfl (lv_at hl 0 rfl) ?_
      refine lv_ixor hx hb d_Sp_on_46 ?_
      refine lv_topi (fun x14 _ => ?_)
      refine lv_istore hx hb d_Sp_on_47 hl (by decide) rfl (fun ls hl => ?_)
      have hl : lv_has ls 6 [(4, .int x14), (3, .int x12), (0, .ref (aw_c ad j 7)), (1, .long b), (5, .int (nI t))] := hl
      refine lv_iinc (k := 4) (v := nI (t + 1)) hx hb d_Sp_on_49 hl rfl (aw_inc t 1 1 (by decide +kernel)) (by decide) rfl (fun ls hl => ?_)
      have hl : lv_has ls 6 [(5, .int (nI (t + 1))), (4, .int x14), (3, .int x12), (0, .ref (aw_c ad j 7)), (1, .long b)] := hl
      refine lv_goto (tgt := 14) hx hb d_Sp_on_52 (by decide) ?_
      have hl := lv_sub hl (l' := [(0, .ref (aw_c ad j 7)), (1, .long b), (3, .int x12), (4, .int x14), (5, .int (nI (t + 1)))]) [3, 4, 2, 1, 0] rfl
      exact ih (t + 1) x12 x14 H locs L ls (by omega) hP hD hSh hS (by first | exact hl | simpa [Nat.add_assoc, Nat.mul_add, Nat.add_comm] using hl)
  have hl := lv_sub hl (l' := [(0, .ref (aw_c ad j 7)), (1, .long b), (3, .int x1), (4, .int x2), (5, .int (nI 0))]) [3, 4, 2, 1, 0] rfl
  exact L14 27 0 x1 x2 _ _ _ ls (by omega) hP hD hSh hS (by first | exact hl | simpa using hl)
abbrev ws_Sp_back : List Cond := Cond.code y_Sp_back b_Sp_back 6 (some .long) :: aw_G
abbrev rm_Sp_back : Room := { frames := 1, cells := 0, slots := 0, locals := 21 }
set_option maxHeartbeats 4000000 in
set_option maxRecDepth 100000 in
theorem k_Sp_back (l : Launch) (D : va_G) (g : Nat → ClassId) (ad : Nat → Nat) (G M : Nat → Nat × Nat) (F : Int32) (N0 : Nat) (j : Nat) (b : Int64) (hj : j < 4) : Met l y_Sp_back ws_Sp_back rm_Sp_back (va_Pc ([.ref (aw_c ad j 7), .long b] : List Value) (aw_B D g ad G M F N0)) (va_Ql (fun r (_ : Unit) => True) (fun (_ : Unit) t => aw_H D g ad G M F N0 t.heap) (aw_Z N0)) 0 0 (aw_Z N0) := by
  refine Met.ofW (cc := b_Sp_back) (maxL := 6) (ret := (some .long)) (by decide) rfl ?_
  intro p e s m args below meth c s₁ B hml hv
  obtain ⟨rfl, ⟨L, hP, hD, hSh⟩, hU⟩ := hv
  have hx := B.exec
  have hb := B.bytes
  have hr := B.returns
  have hG : ∀ w ∈ aw_G, w.before _ s = true := fun w h => atoms_spec (ws := ws_Sp_back) B.pre w (List.mem_cons_of_mem _ h)
  have hown : s.vm.findClass "RuleCiphers$Speck" = some m.cls := findClass_of_methodNamed B.named
  have hlocks := B.notSynchronized
  have hE := hU.1
  have hK := hE.1
  have hN := hE.2.1
  have hS : va_S (aw_Z N0) s.heap s.heap [] := va_S.rf
  have hl := lv_entry ([.ref (aw_c ad j 7), .long b] : List Value) (n := 6) (Nat.le_of_ble_eq_true rfl)
  rw [lg_entry_eq]
  generalize (lg_sl ([.ref (aw_c ad j 7), .long b] : List Value) ++ List.replicate (6 - (lg_sl ([.ref (aw_c ad j 7), .long b] : List Value)).length) Slot.unset).toArray = ls at hl ⊢
  have hl : lv_has ls 6 [(0, .ref (aw_c ad j 7)), (1, .long b)] := hl
  refine lv_lload_n hx hb d_Sp_back_0 rfl (lv_at hl 1 rfl) ?_
  refine aw_ci ((va_runSN (As := [.long b]) (rest := []) ⟨hx, hb, hml, hown, hG⟩ (k_Ru_firstHalf l b) (aw_wSN 1 hG hN gw_4_52 nw_30 gw_0_1 gw_4_51 rfl rfl hd_Ru_firstHalf ⟨Nat.le_of_ble_eq_true rfl, Nat.le_of_ble_eq_true rfl⟩) aw_p0 rfl rfl hl.1 rfl (lv_room (Nat.le_of_ble_eq_true rfl)) d_Sp_back_1 ⟨Nat.le_of_ble_eq_true rfl, Nat.le_of_ble_eq_true rfl⟩).run) (fun x1 hx1 => ?_)
  refine lv_istore_n hx hb d_Sp_back_4 rfl hl (by decide) rfl (fun ls hl => ?_)
  have hl : lv_has ls 6 [(3, .int x1), (0, .ref (aw_c ad j 7)), (1, .long b)] := hl
  refine lv_lload_n hx hb d_Sp_back_5 rfl (lv_at hl 2 rfl) ?_
  refine aw_ci ((va_runSN (As := [.long b]) (rest := []) ⟨hx, hb, hml, hown, hG⟩ (k_Ru_secondHalf l b) (aw_wSN 1 hG hN gw_4_55 nw_31 gw_0_1 gw_4_54 rfl rfl hd_Ru_secondHalf ⟨Nat.le_of_ble_eq_true rfl, Nat.le_of_ble_eq_true rfl⟩) aw_p0 rfl rfl hl.1 rfl (lv_room (Nat.le_of_ble_eq_true rfl)) d_Sp_back_6 ⟨Nat.le_of_ble_eq_true rfl, Nat.le_of_ble_eq_true rfl⟩).run) (fun x2 hx2 => ?_)
  refine lv_istore hx hb d_Sp_back_9 hl (by decide) rfl (fun ls hl => ?_)
  have hl : lv_has ls 6 [(4, .int x2), (3, .int x1), (0, .ref (aw_c ad j 7)), (1, .long b)] := hl
  refine lv_bipush (v := nI 26) hx hb d_Sp_back_11 (by decide +kernel) ?_
  refine lv_istore hx hb d_Sp_back_13 hl (by decide) rfl (fun ls hl => ?_)
  have hl : lv_has ls 6 [(5, .int (nI 26)), (4, .int x2), (3, .int x1), (0, .ref (aw_c ad j 7)), (1, .long b)] := hl
  have L15 : ∀ (d t : Nat) (x3 : Int32) (x4 : Int32) (H : Heap) (locs : List Loc) (L : va_W) (ls : Array Slot), t + d = 27 → va_P D aw_C L H → va_D (aw_Z N0) L → aw_Sh g ad G M F L → va_S (aw_Z N0) s.heap H locs → lv_has ls 6 [(0, .ref (aw_c ad j 7)), (1, .long b), (3, .int x3), (4, .int x4), (5, .int (aw_dn d))] → W p l e (headSpec ws_Sp_back rm_Sp_back).room s m ([.ref (aw_c ad j 7), .long b] : List Value).toArray below meth c H locs 0 0 (MQ below (va_Ql (fun r (_ : Unit) => True) (fun (_ : Unit) t => aw_H D g ad G M F N0 t.heap) (aw_Z N0)) ([.ref (aw_c ad j 7), .long b] : List Value).toArray s 0 0 (aw_Z N0)) (F0 m 15 ls []) := by
    clear hP hD hSh hS
    clear hl
    intro d
    induction d with
    | zero => 
      intro t x3 x4 H locs L ls ht0 hP hD hSh hS hl
      have hl : lv_has ls 6 [(0, .ref (aw_c ad j 7)), (1, .long b), (3, .int x3), (4, .int x4), (5, .int (aw_dn 0))] := hl
      refine lv_iload hx hb d_Sp_back_15 (lv_at hl 4 rfl) ?_
      refine lv_if_lt (tgt := 54) hx hb d_Sp_back_17 (by decide) (fun _ => ?_) (fun h => absurd (by decide +kernel) h)
      refine lv_iload_n hx hb d_Sp_back_54 rfl (lv_at hl 2 rfl) ?_
      refine lv_iload hx hb d_Sp_back_55 (lv_at hl 3 rfl) ?_
      refine aw_cl ((va_runSN (As := [.int x3, .int x4]) (rest := []) ⟨hx, hb, hml, hown, hG⟩ (k_Ru_joined l x3 x4) (aw_wSN 2 hG hN gw_6_31 nw_32 gw_0_1 gw_6_30 rfl rfl hd_Ru_joined ⟨Nat.le_of_ble_eq_true rfl, Nat.le_of_ble_eq_true rfl⟩) aw_p0 rfl rfl hl.1 rfl (lv_room (Nat.le_of_ble_eq_true rfl)) d_Sp_back_57 ⟨Nat.le_of_ble_eq_true rfl, Nat.le_of_ble_eq_true rfl⟩).run) (fun y5 hy5 => ?_)
      exact W.lret hx hb hr (fun t ht hW => ⟨⟨_, (), rfl, trivial, aw_Hr ht hP hD hSh⟩, hS.F ht⟩) hS.2.2 d_Sp_back_60
    | succ d ih => 
      intro t x3 x4 H locs L ls ht0 hP hD hSh hS hl
      have hl : lv_has ls 6 [(0, .ref (aw_c ad j 7)), (1, .long b), (3, .int x3), (4, .int x4), (5, .int (nI d))] := hl
      refine lv_iload hx hb d_Sp_back_15 (lv_at hl 4 rfl) ?_
      refine lv_if_lt (tgt := 54) hx hb d_Sp_back_17 (by decide) (fun h => absurd h (show ¬ nI d < nI 0 from fun h9 => absurd ((nI_ltI (by omega) (by omega)).mp h9) (by omega))) (fun _ => ?_)
      refine lv_iload hx hb d_Sp_back_20 (lv_at hl 3 rfl) ?_
      refine lv_iload_n hx hb d_Sp_back_22 rfl (lv_at hl 2 rfl) ?_
      refine lv_ixor hx hb d_Sp_back_23 ?_
      refine lv_topi (fun x6 _ => ?_)
      refine lv_iconst (v := nI 3) hx hb d_Sp_back_24 (by decide +kernel) ?_
      refine aw_ci ((va_runSN (As := [.int x6, .int (nI 3)]) (rest := []) ⟨hx, hb, hml, hown, hG⟩ (k_Ru_turnRight l x6 (nI 3)) (aw_wSN 2 hG hN gw_5_10 nw_18 gw_0_1 gw_5_9 rfl rfl hd_Ru_turnRight ⟨Nat.le_of_ble_eq_true rfl, Nat.le_of_ble_eq_true rfl⟩) aw_p0 rfl rfl hl.1 rfl (lv_room (Nat.le_of_ble_eq_true rfl)) d_Sp_back_25 ⟨Nat.le_of_ble_eq_true rfl, Nat.le_of_ble_eq_true rfl⟩).run) (fun x7 hx7 => ?_)
      refine lv_istore hx hb d_Sp_back_28 hl (by decide) rfl (fun ls hl => ?_)
      have hl : lv_has ls 6 [(4, .int x7), (0, .ref (aw_c ad j 7)), (1, .long b), (3, .int x3), (5, .int (nI d))] := hl
      refine lv_iload_n hx hb d_Sp_back_30 rfl (lv_at hl 3 rfl) ?_
      refine lv_aload_n hx hb d_Sp_back_31 rfl (lv_at hl 1 rfl) ?_
      have he8 := rd_C7 hSh hj
      refine va_get (C := R_Sp) (T := T_Sp) (N := 2) (v := .ref (aw_c ad j 8)) hx hb hG in_Sp hown hK hP (3 + 16 * j + 7) he8 rfl 0 (by decide) (hG _ gw_0_48) (fun x9 h9 => u_same (hG _ gw_0_49) x9 h9) rfl d_Sp_back_32 ?_
      refine lv_iload hx hb d_Sp_back_35 (lv_at hl 4 rfl) ?_
      obtain ⟨f10, he9⟩ := rd_C8 hSh hj
      refine aw_ild hx hb hK hP (3 + 16 * j + 8) 0 he9 rfl (k := d) (by omega) (by decide) d_Sp_back_37 ?_
      refine lv_topi (fun x11 _ => ?_)
      refine lv_ixor hx hb d_Sp_back_38 ?_
      refine lv_topi (fun x12 _ => ?_)
      refine lv_iload hx hb d_Sp_back_39 (lv_at hl 0 rfl) ?_
      refine lv_isub hx hb d_Sp_back_41 ?_
      refine lv_topi (fun x13 _ => ?_)
      refine lv_bipush (v := nI 8) hx hb d_Sp_back_42 (by decide +kernel) ?_
      refine aw_ci ((va_runSN (As := [.int x13, .int (nI 8)]) (rest := []) ⟨hx, hb, hml, hown, hG⟩ (k_Ru_turnLeft l x13 (nI 8)) (aw_wSN 2 hG hN gw_5_5 nw_19 gw_0_1 gw_5_4 rfl rfl hd_Ru_turnLeft ⟨Nat.le_of_ble_eq_true rfl, Nat.le_of_ble_eq_true rfl⟩) aw_p0 rfl rfl hl.1 rfl (lv_room (Nat.le_of_ble_eq_true rfl)) d_Sp_back_44 ⟨Nat.le_of_ble_eq_true rfl, Nat.le_of_ble_eq_true rfl⟩).run) (fun x14 hx14 => ?_)
      refine lv_istore_n hx hb d_Sp_back_47 rfl hl (by decide) rfl (fun ls hl => ?_)
      have hl : lv_has ls 6 [(3, .int x14), (4, .int x7), (0, .ref (aw_c ad j 7)), (1, .long b), (5, .int (nI d))] := hl
      refine lv_iinc (k := 4) (v := aw_dn d) hx hb d_Sp_back_48 hl rfl (aw_dn_i d) (by decide) rfl (fun ls hl => ?_)
      have hl : lv_has ls 6 [(5, .int (aw_dn d)), (3, .int x14), (4, .int x7), (0, .ref (aw_c ad j 7)), (1, .long b)] := hl
      refine lv_goto (tgt := 15) hx hb d_Sp_back_51 (by decide) ?_
      have hl := lv_sub hl (l' := [(0, .ref (aw_c ad j 7)), (1, .long b), (3, .int x14), (4, .int x7), (5, .int (aw_dn d))]) [3, 4, 1, 2, 0] rfl
      exact ih (t + 1) x14 x7 H locs L ls (by omega) hP hD hSh hS (by first | exact hl | simpa [Nat.add_assoc, Nat.mul_add, Nat.add_comm] using hl)
  have hl := lv_sub hl (l' := [(0, .ref (aw_c ad j 7)), (1, .long b), (3, .int x1), (4, .int x2), (5, .int (nI 26))]) [3, 4, 2, 1, 0] rfl
  exact L15 27 0 x1 x2 _ _ _ ls (by omega) hP hD hSh hS (by first | exact hl | simpa using hl)
abbrev ws_Si_on : List Cond := Cond.code y_Si_on b_Si_on 7 (some .long) :: aw_G
abbrev rm_Si_on : Room := { frames := 2, cells := 0, slots := 0, locals := 41 }
set_option maxHeartbeats 4000000 in
set_option maxRecDepth 100000 in
theorem k_Si_on (l : Launch) (D : va_G) (g : Nat → ClassId) (ad : Nat → Nat) (G M : Nat → Nat × Nat) (F : Int32) (N0 : Nat) (j : Nat) (b : Int64) (hj : j < 4) : Met l y_Si_on ws_Si_on rm_Si_on (va_Pc ([.ref (aw_c ad j 10), .long b] : List Value) (aw_B D g ad G M F N0)) (va_Ql (fun r (_ : Unit) => True) (fun (_ : Unit) t => aw_H D g ad G M F N0 t.heap) (aw_Z N0)) 0 0 (aw_Z N0) := by
  refine Met.ofW (cc := b_Si_on) (maxL := 7) (ret := (some .long)) (by decide) rfl ?_
  intro p e s m args below meth c s₁ B hml hv
  obtain ⟨rfl, ⟨L, hP, hD, hSh⟩, hU⟩ := hv
  have hx := B.exec
  have hb := B.bytes
  have hr := B.returns
  have hG : ∀ w ∈ aw_G, w.before _ s = true := fun w h => atoms_spec (ws := ws_Si_on) B.pre w (List.mem_cons_of_mem _ h)
  have hown : s.vm.findClass "RuleCiphers$Simon" = some m.cls := findClass_of_methodNamed B.named
  have hlocks := B.notSynchronized
  have hE := hU.1
  have hK := hE.1
  have hN := hE.2.1
  have hS : va_S (aw_Z N0) s.heap s.heap [] := va_S.rf
  have hl := lv_entry ([.ref (aw_c ad j 10), .long b] : List Value) (n := 7) (Nat.le_of_ble_eq_true rfl)
  rw [lg_entry_eq]
  generalize (lg_sl ([.ref (aw_c ad j 10), .long b] : List Value) ++ List.replicate (7 - (lg_sl ([.ref (aw_c ad j 10), .long b] : List Value)).length) Slot.unset).toArray = ls at hl ⊢
  have hl : lv_has ls 7 [(0, .ref (aw_c ad j 10)), (1, .long b)] := hl
  refine lv_lload_n hx hb d_Si_on_0 rfl (lv_at hl 1 rfl) ?_
  refine aw_ci ((va_runSN (As := [.long b]) (rest := []) ⟨hx, hb, hml, hown, hG⟩ (k_Ru_firstHalf l b) (aw_wSN 1 hG hN gw_4_52 nw_26 gw_0_1 gw_4_51 rfl rfl hd_Ru_firstHalf ⟨Nat.le_of_ble_eq_true rfl, Nat.le_of_ble_eq_true rfl⟩) aw_p0 rfl rfl hl.1 rfl (lv_room (Nat.le_of_ble_eq_true rfl)) d_Si_on_1 ⟨Nat.le_of_ble_eq_true rfl, Nat.le_of_ble_eq_true rfl⟩).run) (fun x1 hx1 => ?_)
  refine lv_istore_n hx hb d_Si_on_4 rfl hl (by decide) rfl (fun ls hl => ?_)
  have hl : lv_has ls 7 [(3, .int x1), (0, .ref (aw_c ad j 10)), (1, .long b)] := hl
  refine lv_lload_n hx hb d_Si_on_5 rfl (lv_at hl 2 rfl) ?_
  refine aw_ci ((va_runSN (As := [.long b]) (rest := []) ⟨hx, hb, hml, hown, hG⟩ (k_Ru_secondHalf l b) (aw_wSN 1 hG hN gw_4_55 nw_27 gw_0_1 gw_4_54 rfl rfl hd_Ru_secondHalf ⟨Nat.le_of_ble_eq_true rfl, Nat.le_of_ble_eq_true rfl⟩) aw_p0 rfl rfl hl.1 rfl (lv_room (Nat.le_of_ble_eq_true rfl)) d_Si_on_6 ⟨Nat.le_of_ble_eq_true rfl, Nat.le_of_ble_eq_true rfl⟩).run) (fun x2 hx2 => ?_)
  refine lv_istore hx hb d_Si_on_9 hl (by decide) rfl (fun ls hl => ?_)
  have hl : lv_has ls 7 [(4, .int x2), (3, .int x1), (0, .ref (aw_c ad j 10)), (1, .long b)] := hl
  refine lv_iconst (v := nI 0) hx hb d_Si_on_11 (by decide +kernel) ?_
  refine lv_istore hx hb d_Si_on_12 hl (by decide) rfl (fun ls hl => ?_)
  have hl : lv_has ls 7 [(5, .int (nI 0)), (4, .int x2), (3, .int x1), (0, .ref (aw_c ad j 10)), (1, .long b)] := hl
  have L14 : ∀ (d t : Nat) (x3 : Int32) (x4 : Int32) (H : Heap) (locs : List Loc) (L : va_W) (ls : Array Slot), t + d = 44 → va_P D aw_C L H → va_D (aw_Z N0) L → aw_Sh g ad G M F L → va_S (aw_Z N0) s.heap H locs → lv_has ls 7 [(0, .ref (aw_c ad j 10)), (1, .long b), (3, .int x3), (4, .int x4), (5, .int (nI t))] → W p l e (headSpec ws_Si_on rm_Si_on).room s m ([.ref (aw_c ad j 10), .long b] : List Value).toArray below meth c H locs 0 0 (MQ below (va_Ql (fun r (_ : Unit) => True) (fun (_ : Unit) t => aw_H D g ad G M F N0 t.heap) (aw_Z N0)) ([.ref (aw_c ad j 10), .long b] : List Value).toArray s 0 0 (aw_Z N0)) (F0 m 14 ls []) := by
    clear hP hD hSh hS
    clear hl
    intro d
    induction d with
    | zero => 
      intro t x3 x4 H locs L ls ht0 hP hD hSh hS hl
      refine lv_iload hx hb d_Si_on_14 (lv_at hl 4 rfl) ?_
      refine lv_bipush (v := nI 44) hx hb d_Si_on_16 (by decide +kernel) ?_
      refine lv_icmp_ge (tgt := 50) hx hb d_Si_on_18 (by decide) (fun _ => ?_) (fun h => absurd (show nI 44 ≤ nI t from (nI_leI (by omega) (by omega)).mpr (by omega)) h)
      refine lv_iload_n hx hb d_Si_on_50 rfl (lv_at hl 2 rfl) ?_
      refine lv_iload hx hb d_Si_on_51 (lv_at hl 3 rfl) ?_
      refine aw_cl ((va_runSN (As := [.int x3, .int x4]) (rest := []) ⟨hx, hb, hml, hown, hG⟩ (k_Ru_joined l x3 x4) (aw_wSN 2 hG hN gw_6_31 nw_29 gw_0_1 gw_6_30 rfl rfl hd_Ru_joined ⟨Nat.le_of_ble_eq_true rfl, Nat.le_of_ble_eq_true rfl⟩) aw_p0 rfl rfl hl.1 rfl (lv_room (Nat.le_of_ble_eq_true rfl)) d_Si_on_53 ⟨Nat.le_of_ble_eq_true rfl, Nat.le_of_ble_eq_true rfl⟩).run) (fun y5 hy5 => ?_)
      exact W.lret hx hb hr (fun t ht hW => ⟨⟨_, (), rfl, trivial, aw_Hr ht hP hD hSh⟩, hS.F ht⟩) hS.2.2 d_Si_on_56
    | succ d ih => 
      intro t x3 x4 H locs L ls ht0 hP hD hSh hS hl
      refine lv_iload hx hb d_Si_on_14 (lv_at hl 4 rfl) ?_
      refine lv_bipush (v := nI 44) hx hb d_Si_on_16 (by decide +kernel) ?_
      refine lv_icmp_ge (tgt := 50) hx hb d_Si_on_18 (by decide) (fun h => absurd h (show ¬ nI 44 ≤ nI t from fun h9 => absurd ((nI_leI (by omega) (by omega)).mp h9) (by omega))) (fun _ => ?_)
      refine lv_iload_n hx hb d_Si_on_21 rfl (lv_at hl 2 rfl) ?_
      refine lv_istore hx hb d_Si_on_22 hl (by decide) rfl (fun ls hl => ?_)
      have hl : lv_has ls 7 [(6, .int x3), (0, .ref (aw_c ad j 10)), (1, .long b), (3, .int x3), (4, .int x4), (5, .int (nI t))] := hl
      refine lv_iload hx hb d_Si_on_24 (lv_at hl 4 rfl) ?_
      refine lv_iload_n hx hb d_Si_on_26 rfl (lv_at hl 3 rfl) ?_
      refine va_calli (va_runS (As := [.int x3]) (rest := [.int x4]) ⟨hx, hb, hml, hown, hG⟩ (k_Si_stirred l D g ad G M F N0 x3) (aw_wS 1 hG gw_6_38 gw_6_36 gw_0_7 gw_6_37 rfl rfl hd_Si_stirred ⟨Nat.le_of_ble_eq_true rfl, Nat.le_of_ble_eq_true rfl⟩) (aw_qS hP hD hSh hU hS) rfl rfl hl.1 rfl (lv_room (Nat.le_of_ble_eq_true rfl)) d_Si_on_27 ⟨Nat.le_of_ble_eq_true rfl, Nat.le_of_ble_eq_true rfl⟩) hS (fun _ _ h => h) (fun _ h => h) (fun x6 u8 t8 H locs ht _ _ hB _ _ hS => ?_)
      obtain ⟨L, hP, hD, hSh⟩ := hB
      rw [ht] at hP
      clear ht
      refine lv_ixor hx hb d_Si_on_30 ?_
      refine lv_topi (fun x7 _ => ?_)
      refine lv_aload_n hx hb d_Si_on_31 rfl (lv_at hl 1 rfl) ?_
      have he8 := rd_C10 hSh hj
      refine va_get (C := R_Si) (T := T_Si) (N := 1) (v := .ref (aw_c ad j 11)) hx hb hG in_Si hown hK hP (3 + 16 * j + 10) he8 rfl 0 (by decide) (hG _ gw_0_42) (fun x9 h9 => u_same (hG _ gw_0_43) x9 h9) rfl d_Si_on_32 ?_
      refine lv_iload hx hb d_Si_on_35 (lv_at hl 5 rfl) ?_
      obtain ⟨f10, he9⟩ := rd_C11 hSh hj
      refine aw_ild hx hb hK hP (3 + 16 * j + 11) 0 he9 rfl (k := t) (by omega) (by decide) d_Si_on_37 ?_
      refine lv_topi (fun x11 _ => ?_)
      refine lv_ixor hx hb d_Si_on_38 ?_
      refine lv_topi (fun x12 _ => ?_)
      refine lv_istore_n hx hb d_Si_on_39 rfl hl (by decide) rfl (fun ls hl => ?_)
      have hl : lv_has ls 7 [(3, .int x12), (6, .int x3), (0, .ref (aw_c ad j 10)), (1, .long b), (4, .int x4), (5, .int (nI t))] := hl
      refine lv_iload hx hb d_Si_on_40 (lv_at hl 1 rfl) ?_
      refine lv_istore hx hb d_Si_on_42 hl (by decide) rfl (fun ls hl => ?_)
      have hl : lv_has ls 7 [(4, .int x3), (3, .int x12), (6, .int x3), (0, .ref (aw_c ad j 10)), (1, .long b), (5, .int (nI t))] := hl
      refine lv_iinc (k := 5) (v := nI (t + 1)) hx hb d_Si_on_44 hl rfl (aw_inc t 1 1 (by decide +kernel)) (by decide) rfl (fun ls hl => ?_)
      have hl : lv_has ls 7 [(5, .int (nI (t + 1))), (4, .int x3), (3, .int x12), (6, .int x3), (0, .ref (aw_c ad j 10)), (1, .long b)] := hl
      refine lv_goto (tgt := 14) hx hb d_Si_on_47 (by decide) ?_
      have hl := lv_sub hl (l' := [(0, .ref (aw_c ad j 10)), (1, .long b), (3, .int x12), (4, .int x3), (5, .int (nI (t + 1)))]) [4, 5, 2, 1, 0] rfl
      exact ih (t + 1) x12 x3 H locs L ls (by omega) hP hD hSh hS (by first | exact hl | simpa [Nat.add_assoc, Nat.mul_add, Nat.add_comm] using hl)
  have hl := lv_sub hl (l' := [(0, .ref (aw_c ad j 10)), (1, .long b), (3, .int x1), (4, .int x2), (5, .int (nI 0))]) [3, 4, 2, 1, 0] rfl
  exact L14 44 0 x1 x2 _ _ _ ls (by omega) hP hD hSh hS (by first | exact hl | simpa using hl)
abbrev ws_Si_back : List Cond := Cond.code y_Si_back b_Si_back 7 (some .long) :: aw_G
abbrev rm_Si_back : Room := { frames := 2, cells := 0, slots := 0, locals := 41 }
set_option maxHeartbeats 4000000 in
set_option maxRecDepth 100000 in
theorem k_Si_back (l : Launch) (D : va_G) (g : Nat → ClassId) (ad : Nat → Nat) (G M : Nat → Nat × Nat) (F : Int32) (N0 : Nat) (j : Nat) (b : Int64) (hj : j < 4) : Met l y_Si_back ws_Si_back rm_Si_back (va_Pc ([.ref (aw_c ad j 10), .long b] : List Value) (aw_B D g ad G M F N0)) (va_Ql (fun r (_ : Unit) => True) (fun (_ : Unit) t => aw_H D g ad G M F N0 t.heap) (aw_Z N0)) 0 0 (aw_Z N0) := by
  refine Met.ofW (cc := b_Si_back) (maxL := 7) (ret := (some .long)) (by decide) rfl ?_
  intro p e s m args below meth c s₁ B hml hv
  obtain ⟨rfl, ⟨L, hP, hD, hSh⟩, hU⟩ := hv
  have hx := B.exec
  have hb := B.bytes
  have hr := B.returns
  have hG : ∀ w ∈ aw_G, w.before _ s = true := fun w h => atoms_spec (ws := ws_Si_back) B.pre w (List.mem_cons_of_mem _ h)
  have hown : s.vm.findClass "RuleCiphers$Simon" = some m.cls := findClass_of_methodNamed B.named
  have hlocks := B.notSynchronized
  have hE := hU.1
  have hK := hE.1
  have hN := hE.2.1
  have hS : va_S (aw_Z N0) s.heap s.heap [] := va_S.rf
  have hl := lv_entry ([.ref (aw_c ad j 10), .long b] : List Value) (n := 7) (Nat.le_of_ble_eq_true rfl)
  rw [lg_entry_eq]
  generalize (lg_sl ([.ref (aw_c ad j 10), .long b] : List Value) ++ List.replicate (7 - (lg_sl ([.ref (aw_c ad j 10), .long b] : List Value)).length) Slot.unset).toArray = ls at hl ⊢
  have hl : lv_has ls 7 [(0, .ref (aw_c ad j 10)), (1, .long b)] := hl
  refine lv_lload_n hx hb d_Si_back_0 rfl (lv_at hl 1 rfl) ?_
  refine aw_ci ((va_runSN (As := [.long b]) (rest := []) ⟨hx, hb, hml, hown, hG⟩ (k_Ru_firstHalf l b) (aw_wSN 1 hG hN gw_4_52 nw_26 gw_0_1 gw_4_51 rfl rfl hd_Ru_firstHalf ⟨Nat.le_of_ble_eq_true rfl, Nat.le_of_ble_eq_true rfl⟩) aw_p0 rfl rfl hl.1 rfl (lv_room (Nat.le_of_ble_eq_true rfl)) d_Si_back_1 ⟨Nat.le_of_ble_eq_true rfl, Nat.le_of_ble_eq_true rfl⟩).run) (fun x1 hx1 => ?_)
  refine lv_istore_n hx hb d_Si_back_4 rfl hl (by decide) rfl (fun ls hl => ?_)
  have hl : lv_has ls 7 [(3, .int x1), (0, .ref (aw_c ad j 10)), (1, .long b)] := hl
  refine lv_lload_n hx hb d_Si_back_5 rfl (lv_at hl 2 rfl) ?_
  refine aw_ci ((va_runSN (As := [.long b]) (rest := []) ⟨hx, hb, hml, hown, hG⟩ (k_Ru_secondHalf l b) (aw_wSN 1 hG hN gw_4_55 nw_27 gw_0_1 gw_4_54 rfl rfl hd_Ru_secondHalf ⟨Nat.le_of_ble_eq_true rfl, Nat.le_of_ble_eq_true rfl⟩) aw_p0 rfl rfl hl.1 rfl (lv_room (Nat.le_of_ble_eq_true rfl)) d_Si_back_6 ⟨Nat.le_of_ble_eq_true rfl, Nat.le_of_ble_eq_true rfl⟩).run) (fun x2 hx2 => ?_)
  refine lv_istore hx hb d_Si_back_9 hl (by decide) rfl (fun ls hl => ?_)
  have hl : lv_has ls 7 [(4, .int x2), (3, .int x1), (0, .ref (aw_c ad j 10)), (1, .long b)] := hl
  refine lv_bipush (v := nI 43) hx hb d_Si_back_11 (by decide +kernel) ?_
  refine lv_istore hx hb d_Si_back_13 hl (by decide) rfl (fun ls hl => ?_)
  have hl : lv_has ls 7 [(5, .int (nI 43)), (4, .int x2), (3, .int x1), (0, .ref (aw_c ad j 10)), (1, .long b)] := hl
  have L15 : ∀ (d t : Nat) (x3 : Int32) (x4 : Int32) (H : Heap) (locs : List Loc) (L : va_W) (ls : Array Slot), t + d = 44 → va_P D aw_C L H → va_D (aw_Z N0) L → aw_Sh g ad G M F L → va_S (aw_Z N0) s.heap H locs → lv_has ls 7 [(0, .ref (aw_c ad j 10)), (1, .long b), (3, .int x3), (4, .int x4), (5, .int (aw_dn d))] → W p l e (headSpec ws_Si_back rm_Si_back).room s m ([.ref (aw_c ad j 10), .long b] : List Value).toArray below meth c H locs 0 0 (MQ below (va_Ql (fun r (_ : Unit) => True) (fun (_ : Unit) t => aw_H D g ad G M F N0 t.heap) (aw_Z N0)) ([.ref (aw_c ad j 10), .long b] : List Value).toArray s 0 0 (aw_Z N0)) (F0 m 15 ls []) := by
    clear hP hD hSh hS
    clear hl
    intro d
    induction d with
    | zero => 
      intro t x3 x4 H locs L ls ht0 hP hD hSh hS hl
      have hl : lv_has ls 7 [(0, .ref (aw_c ad j 10)), (1, .long b), (3, .int x3), (4, .int x4), (5, .int (aw_dn 0))] := hl
      refine lv_iload hx hb d_Si_back_15 (lv_at hl 4 rfl) ?_
      refine lv_if_lt (tgt := 50) hx hb d_Si_back_17 (by decide) (fun _ => ?_) (fun h => absurd (by decide +kernel) h)
      refine lv_iload_n hx hb d_Si_back_50 rfl (lv_at hl 2 rfl) ?_
      refine lv_iload hx hb d_Si_back_51 (lv_at hl 3 rfl) ?_
      refine aw_cl ((va_runSN (As := [.int x3, .int x4]) (rest := []) ⟨hx, hb, hml, hown, hG⟩ (k_Ru_joined l x3 x4) (aw_wSN 2 hG hN gw_6_31 nw_29 gw_0_1 gw_6_30 rfl rfl hd_Ru_joined ⟨Nat.le_of_ble_eq_true rfl, Nat.le_of_ble_eq_true rfl⟩) aw_p0 rfl rfl hl.1 rfl (lv_room (Nat.le_of_ble_eq_true rfl)) d_Si_back_53 ⟨Nat.le_of_ble_eq_true rfl, Nat.le_of_ble_eq_true rfl⟩).run) (fun y5 hy5 => ?_)
      exact W.lret hx hb hr (fun t ht hW => ⟨⟨_, (), rfl, trivial, aw_Hr ht hP hD hSh⟩, hS.F ht⟩) hS.2.2 d_Si_back_56
    | succ d ih => 
      intro t x3 x4 H locs L ls ht0 hP hD hSh hS hl
      have hl : lv_has ls 7 [(0, .ref (aw_c ad j 10)), (1, .long b), (3, .int x3), (4, .int x4), (5, .int (nI d))] := hl
      refine lv_iload hx hb d_Si_back_15 (lv_at hl 4 rfl) ?_
      refine lv_if_lt (tgt := 50) hx hb d_Si_back_17 (by decide) (fun h => absurd h (show ¬ nI d < nI 0 from fun h9 => absurd ((nI_ltI (by omega) (by omega)).mp h9) (by omega))) (fun _ => ?_)
      refine lv_iload hx hb d_Si_back_20 (lv_at hl 3 rfl) ?_
      refine lv_istore hx hb d_Si_back_22 hl (by decide) rfl (fun ls hl => ?_)
      have hl : lv_has ls 7 [(6, .int x4), (0, .ref (aw_c ad j 10)), (1, .long b), (3, .int x3), (4, .int x4), (5, .int (nI d))] := hl
      refine lv_iload_n hx hb d_Si_back_24 rfl (lv_at hl 3 rfl) ?_
      refine lv_iload hx hb d_Si_back_25 (lv_at hl 4 rfl) ?_
      refine va_calli (va_runS (As := [.int x4]) (rest := [.int x3]) ⟨hx, hb, hml, hown, hG⟩ (k_Si_stirred l D g ad G M F N0 x4) (aw_wS 1 hG gw_6_38 gw_6_36 gw_0_7 gw_6_37 rfl rfl hd_Si_stirred ⟨Nat.le_of_ble_eq_true rfl, Nat.le_of_ble_eq_true rfl⟩) (aw_qS hP hD hSh hU hS) rfl rfl hl.1 rfl (lv_room (Nat.le_of_ble_eq_true rfl)) d_Si_back_27 ⟨Nat.le_of_ble_eq_true rfl, Nat.le_of_ble_eq_true rfl⟩) hS (fun _ _ h => h) (fun _ h => h) (fun x6 u8 t8 H locs ht _ _ hB _ _ hS => ?_)
      obtain ⟨L, hP, hD, hSh⟩ := hB
      rw [ht] at hP
      clear ht
      refine lv_ixor hx hb d_Si_back_30 ?_
      refine lv_topi (fun x7 _ => ?_)
      refine lv_aload_n hx hb d_Si_back_31 rfl (lv_at hl 1 rfl) ?_
      have he8 := rd_C10 hSh hj
      refine va_get (C := R_Si) (T := T_Si) (N := 1) (v := .ref (aw_c ad j 11)) hx hb hG in_Si hown hK hP (3 + 16 * j + 10) he8 rfl 0 (by decide) (hG _ gw_0_42) (fun x9 h9 => u_same (hG _ gw_0_43) x9 h9) rfl d_Si_back_32 ?_
      refine lv_iload hx hb d_Si_back_35 (lv_at hl 5 rfl) ?_
      obtain ⟨f10, he9⟩ := rd_C11 hSh hj
      refine aw_ild hx hb hK hP (3 + 16 * j + 11) 0 he9 rfl (k := d) (by omega) (by decide) d_Si_back_37 ?_
      refine lv_topi (fun x11 _ => ?_)
      refine lv_ixor hx hb d_Si_back_38 ?_
      refine lv_topi (fun x12 _ => ?_)
      refine lv_istore hx hb d_Si_back_39 hl (by decide) rfl (fun ls hl => ?_)
      have hl : lv_has ls 7 [(4, .int x12), (6, .int x4), (0, .ref (aw_c ad j 10)), (1, .long b), (3, .int x3), (5, .int (nI d))] := hl
      refine lv_iload hx hb d_Si_back_41 (lv_at hl 1 rfl) ?_
      refine lv_istore_n hx hb d_Si_back_43 rfl hl (by decide) rfl (fun ls hl => ?_)
      have hl : lv_has ls 7 [(3, .int x4), (4, .int x12), (6, .int x4), (0, .ref (aw_c ad j 10)), (1, .long b), (5, .int (nI d))] := hl
      refine lv_iinc (k := 5) (v := aw_dn d) hx hb d_Si_back_44 hl rfl (aw_dn_i d) (by decide) rfl (fun ls hl => ?_)
      have hl : lv_has ls 7 [(5, .int (aw_dn d)), (3, .int x4), (4, .int x12), (6, .int x4), (0, .ref (aw_c ad j 10)), (1, .long b)] := hl
      refine lv_goto (tgt := 15) hx hb d_Si_back_47 (by decide) ?_
      have hl := lv_sub hl (l' := [(0, .ref (aw_c ad j 10)), (1, .long b), (3, .int x4), (4, .int x12), (5, .int (aw_dn d))]) [4, 5, 1, 2, 0] rfl
      exact ih (t + 1) x4 x12 H locs L ls (by omega) hP hD hSh hS (by first | exact hl | simpa [Nat.add_assoc, Nat.mul_add, Nat.add_comm] using hl)
  have hl := lv_sub hl (l' := [(0, .ref (aw_c ad j 10)), (1, .long b), (3, .int x1), (4, .int x2), (5, .int (nI 43))]) [3, 4, 2, 1, 0] rfl
  exact L15 44 0 x1 x2 _ _ _ ls (by omega) hP hD hSh hS (by first | exact hl | simpa using hl)
