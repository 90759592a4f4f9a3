abbrev ws_Mo_feedBlock : List Cond := Cond.code y_Mo_feedBlock b_Mo_feedBlock 6 none :: aw_G
abbrev rm_Mo_feedBlock : Room := { frames := 4, cells := 0, slots := 0, locals := 105 }
set_option maxHeartbeats 4000000 in
set_option maxRecDepth 100000 in
theorem k_Mo_feedBlock (l : Launch) (D : va_G) (g : Nat → ClassId) (ad : Nat → Nat) (G M : Nat → Nat × Nat) (F : Int32) (N0 : Nat) (j : Nat) (bk : Int32) (k : Nat) (hj : j < 4) (hk : k ≤ 56) : Met l y_Mo_feedBlock ws_Mo_feedBlock rm_Mo_feedBlock (va_Pc ([.ref (aw_m ad 0), .int (nI j), .int bk, .int (nI k)] : List Value) (aw_B D g ad G M F N0)) (va_Qv (fun (_ : Unit) => True) (fun (_ : Unit) t => aw_H D g ad G M F N0 t.heap) (aw_Z N0)) 0 0 (aw_Z N0) := by
  refine Met.ofW (cc := b_Mo_feedBlock) (maxL := 6) (ret := none) (by decide) rfl ?_
  intro p e s m args below meth c s₁ B hml hv
  obtain ⟨rfl, ⟨L, hP, hD, hSh⟩, hU⟩ := hv
  have hx := B.exec
  have hb := B.bytes
  have hr := B.returns
  have hG : ∀ w ∈ aw_G, w.before _ s = true := fun w h => atoms_spec (ws := ws_Mo_feedBlock) B.pre w (List.mem_cons_of_mem _ h)
  have hown : s.vm.findClass "RuleCiphersModel" = some m.cls := findClass_of_methodNamed B.named
  have hlocks := B.notSynchronized
  have hE := hU.1
  have hK := hE.1
  have hN := hE.2.1
  have hS : va_S (aw_Z N0) s.heap s.heap [] := va_S.rf
  have hl := lv_entry ([.ref (aw_m ad 0), .int (nI j), .int bk, .int (nI k)] : List Value) (n := 6) (Nat.le_of_ble_eq_true rfl)
  rw [lg_entry_eq]
  generalize (lg_sl ([.ref (aw_m ad 0), .int (nI j), .int bk, .int (nI k)] : List Value) ++ List.replicate (6 - (lg_sl ([.ref (aw_m ad 0), .int (nI j), .int bk, .int (nI k)] : List Value)).length) Slot.unset).toArray = ls at hl ⊢
  have hl : lv_has ls 6 [(0, .ref (aw_m ad 0)), (1, .int (nI j)), (2, .int bk), (3, .int (nI k))] := hl
  refine lv_aload_n hx hb d_Mo_feedBlock_0 rfl (lv_at hl 0 rfl) ?_
  refine lv_iload_n hx hb d_Mo_feedBlock_1 rfl (lv_at hl 3 rfl) ?_
  obtain ⟨_, _, _, he1⟩ := rd_M0 hSh
  refine va_calll (va_runV (As := [.int (nI k)]) (rest := []) ⟨hx, hb, hml, hown, hG⟩ (k_Mo_eight l D g ad G M F N0 k hk) (aw_wV 1 hG gw_12_38 gw_12_36 gw_0_10 gw_12_37 gw_p_22 rfl rfl hd_Mo_eight ⟨Nat.le_of_ble_eq_true rfl, Nat.le_of_ble_eq_true rfl⟩) (aw_qV (va_recv hK hP rfl he1) hP hD hSh hU hS) rfl rfl hl.1 rfl (lv_room (Nat.le_of_ble_eq_true rfl)) d_Mo_feedBlock_2 ⟨Nat.le_of_ble_eq_true rfl, Nat.le_of_ble_eq_true rfl⟩) hS (fun _ _ h => h) (fun _ h => h) (fun y2 u8 t8 H locs ht _ _ hB _ _ hS => ?_)
  obtain ⟨L, hP, hD, hSh⟩ := hB
  rw [ht] at hP
  clear ht
  refine lv_lstore hx hb d_Mo_feedBlock_5 hl (by decide) rfl (fun ls hl => ?_)
  have hl : lv_has ls 6 [(4, .long y2), (0, .ref (aw_m ad 0)), (1, .int (nI j)), (2, .int bk), (3, .int (nI k))] := hl
  refine lv_aload_n hx hb d_Mo_feedBlock_7 rfl (lv_at hl 1 rfl) ?_
  obtain ⟨x4, o5, hw6, he3⟩ := rd_M0 hSh
  refine va_get (C := R_Mo) (T := T_Mo) (N := 19) (v := .ref (aw_m ad 6)) hx hb hG in_Mo hown hK hP 67 he3 rfl 6 (by decide) (hG _ gw_9_31) (fun _ h => h) rfl d_Mo_feedBlock_8 ?_
  refine lv_iload_n hx hb d_Mo_feedBlock_11 rfl (lv_at hl 2 rfl) ?_
  obtain ⟨f8, hc9, he7⟩ := rd_M6 hSh
  refine aw_ild hx hb hK hP 73 0 he7 rfl (k := j) (by omega) (by decide) d_Mo_feedBlock_12 ?_
  refine aw_ti (y := nI (M j).2) (hc9 _ (by omega)) ?_
  have hm := hSh.2.2.2.2.2 j (by omega)
  refine lv_if_ne (tgt := 43) hx hb d_Mo_feedBlock_13 (by decide) (fun hb10 => ?_) (fun hb10 => ?_)
  · have hb10 : ¬ (M j).2 = 0 := fun z => absurd ((nI_eq (by omega) (by omega)).mpr z) (show ¬ nI ((M j).2) = nI 0 from hb10)
    refine lv_iload_n hx hb d_Mo_feedBlock_43 rfl (lv_at hl 3 rfl) ?_
    refine lv_if_eq (tgt := 76) hx hb d_Mo_feedBlock_44 (by decide) (fun hb11 => ?_) (fun hb11 => ?_)
    · refine lv_aload_n hx hb d_Mo_feedBlock_76 rfl (lv_at hl 1 rfl) ?_
      obtain ⟨x13, o14, hw15, he12⟩ := rd_M0 hSh
      refine va_get (C := R_Mo) (T := T_Mo) (N := 19) (v := .ref (aw_m ad 8)) hx hb hG in_Mo hown hK hP 67 he12 rfl 8 (by decide) (hG _ gw_9_33) (fun _ h => h) rfl d_Mo_feedBlock_77 ?_
      refine lv_iload_n hx hb d_Mo_feedBlock_80 rfl (lv_at hl 2 rfl) ?_
      refine lv_aload_n hx hb d_Mo_feedBlock_81 rfl (lv_at hl 1 rfl) ?_
      refine lv_lload hx hb d_Mo_feedBlock_82 (lv_at hl 0 rfl) ?_
      refine lv_aload_n hx hb d_Mo_feedBlock_84 rfl (lv_at hl 1 rfl) ?_
      obtain ⟨x17, o18, hw19, he16⟩ := rd_M0 hSh
      refine va_get (C := R_Mo) (T := T_Mo) (N := 19) (v := .ref (aw_m ad 8)) hx hb hG in_Mo hown hK hP 67 he16 rfl 8 (by decide) (hG _ gw_9_33) (fun _ h => h) rfl d_Mo_feedBlock_85 ?_
      refine lv_iload_n hx hb d_Mo_feedBlock_88 rfl (lv_at hl 2 rfl) ?_
      obtain ⟨f21, he20⟩ := rd_M8 hSh
      refine aw_lld hx hb hK hP 75 1 he20 rfl (k := j) (by omega) (by decide) d_Mo_feedBlock_89 ?_
      refine lv_topl (fun y22 _ => ?_)
      refine lv_lxor hx hb d_Mo_feedBlock_90 ?_
      refine lv_topl (fun y23 _ => ?_)
      obtain ⟨_, _, _, he24⟩ := rd_M0 hSh
      refine va_calll (va_runV (As := [.long y23]) (rest := [.int (nI j), .ref (aw_m ad 8)]) ⟨hx, hb, hml, hown, hG⟩ (k_Mo_on l D g ad G M F N0 y23) (aw_wV 1 hG gw_12_4 gw_12_2 gw_0_10 gw_12_3 gw_p_18 rfl rfl hd_Mo_on ⟨Nat.le_of_ble_eq_true rfl, Nat.le_of_ble_eq_true rfl⟩) (aw_qV (va_recv hK hP rfl he24) hP hD hSh hU hS) rfl rfl hl.1 rfl (lv_room (Nat.le_of_ble_eq_true rfl)) d_Mo_feedBlock_91 ⟨Nat.le_of_ble_eq_true rfl, Nat.le_of_ble_eq_true rfl⟩) hS (fun _ _ h => h) (fun _ h => h) (fun y25 u8 t8 H locs ht _ _ hB _ _ hS => ?_)
      obtain ⟨L, hP, hD, hSh⟩ := hB
      rw [ht] at hP
      clear ht
      obtain ⟨f27, he26⟩ := rd_M8 hSh
      refine aw_lstI hx hb hK hP hD hS 75 1 he26 rfl (k := j) (by omega) (by decide) d_Mo_feedBlock_94 (wr_M8 hSh _) (fun H locs L hP hD hSh hS => ?_)
      refine lv_aload_n hx hb d_Mo_feedBlock_95 rfl (lv_at hl 1 rfl) ?_
      refine lv_iload_n hx hb d_Mo_feedBlock_96 rfl (lv_at hl 4 rfl) ?_
      refine lv_aload_n hx hb d_Mo_feedBlock_97 rfl (lv_at hl 1 rfl) ?_
      obtain ⟨x29, o30, hw31, he28⟩ := rd_M0 hSh
      refine va_get (C := R_Mo) (T := T_Mo) (N := 19) (v := .ref (aw_m ad 8)) hx hb hG in_Mo hown hK hP 67 he28 rfl 8 (by decide) (hG _ gw_9_33) (fun _ h => h) rfl d_Mo_feedBlock_98 ?_
      refine lv_iload_n hx hb d_Mo_feedBlock_101 rfl (lv_at hl 2 rfl) ?_
      obtain ⟨f33, he32⟩ := rd_M8 hSh
      refine aw_lld hx hb hK hP 75 1 he32 rfl (k := j) (by omega) (by decide) d_Mo_feedBlock_102 ?_
      refine lv_topl (fun y34 _ => ?_)
      obtain ⟨_, _, _, he35⟩ := rd_M0 hSh
      refine va_callv (va_runV (As := [.int (nI k), .long y34]) (rest := []) ⟨hx, hb, hml, hown, hG⟩ (k_Mo_putEight l D g ad G M F N0 k y34 hk) (aw_wV 2 hG gw_12_41 gw_12_39 gw_0_10 gw_12_40 gw_p_23 rfl rfl hd_Mo_putEight ⟨Nat.le_of_ble_eq_true rfl, Nat.le_of_ble_eq_true rfl⟩) (aw_qV (va_recv hK hP rfl he35) hP hD hSh hU hS) rfl rfl hl.1 rfl (lv_room (Nat.le_of_ble_eq_true rfl)) d_Mo_feedBlock_103 ⟨Nat.le_of_ble_eq_true rfl, Nat.le_of_ble_eq_true rfl⟩) hS (fun _ _ h => h) (fun _ h => h) (fun u8 t8 H locs ht _ _ hB _ _ hS => ?_)
      obtain ⟨L, hP, hD, hSh⟩ := hB
      rw [ht] at hP
      clear ht
      exact W.vret hx hb hr (fun t ht hW => ⟨⟨(), rfl, trivial, aw_Hr ht hP hD hSh⟩, hS.F ht⟩) hS.2.2 d_Mo_feedBlock_106
    · refine lv_aload_n hx hb d_Mo_feedBlock_47 rfl (lv_at hl 1 rfl) ?_
      refine lv_iload_n hx hb d_Mo_feedBlock_48 rfl (lv_at hl 4 rfl) ?_
      refine lv_aload_n hx hb d_Mo_feedBlock_49 rfl (lv_at hl 1 rfl) ?_
      refine lv_lload hx hb d_Mo_feedBlock_50 (lv_at hl 0 rfl) ?_
      obtain ⟨_, _, _, he36⟩ := rd_M0 hSh
      refine va_calll (va_runV (As := [.long y2]) (rest := [.int (nI k), .ref (aw_m ad 0)]) ⟨hx, hb, hml, hown, hG⟩ (k_Mo_off l D g ad G M F N0 y2) (aw_wV 1 hG gw_11_39 gw_11_37 gw_0_10 gw_11_38 gw_p_16 rfl rfl hd_Mo_off ⟨Nat.le_of_ble_eq_true rfl, Nat.le_of_ble_eq_true rfl⟩) (aw_qV (va_recv hK hP rfl he36) hP hD hSh hU hS) rfl rfl hl.1 rfl (lv_room (Nat.le_of_ble_eq_true rfl)) d_Mo_feedBlock_52 ⟨Nat.le_of_ble_eq_true rfl, Nat.le_of_ble_eq_true rfl⟩) hS (fun _ _ h => h) (fun _ h => h) (fun y37 u8 t8 H locs ht _ _ hB _ _ hS => ?_)
      obtain ⟨L, hP, hD, hSh⟩ := hB
      rw [ht] at hP
      clear ht
      refine lv_aload_n hx hb d_Mo_feedBlock_55 rfl (lv_at hl 1 rfl) ?_
      obtain ⟨x39, o40, hw41, he38⟩ := rd_M0 hSh
      refine va_get (C := R_Mo) (T := T_Mo) (N := 19) (v := .ref (aw_m ad 8)) hx hb hG in_Mo hown hK hP 67 he38 rfl 8 (by decide) (hG _ gw_9_33) (fun _ h => h) rfl d_Mo_feedBlock_56 ?_
      refine lv_iload_n hx hb d_Mo_feedBlock_59 rfl (lv_at hl 2 rfl) ?_
      obtain ⟨f43, he42⟩ := rd_M8 hSh
      refine aw_lld hx hb hK hP 75 1 he42 rfl (k := j) (by omega) (by decide) d_Mo_feedBlock_60 ?_
      refine lv_topl (fun y44 _ => ?_)
      refine lv_lxor hx hb d_Mo_feedBlock_61 ?_
      refine lv_topl (fun y45 _ => ?_)
      obtain ⟨_, _, _, he46⟩ := rd_M0 hSh
      refine va_callv (va_runV (As := [.int (nI k), .long y45]) (rest := []) ⟨hx, hb, hml, hown, hG⟩ (k_Mo_putEight l D g ad G M F N0 k y45 hk) (aw_wV 2 hG gw_12_41 gw_12_39 gw_0_10 gw_12_40 gw_p_23 rfl rfl hd_Mo_putEight ⟨Nat.le_of_ble_eq_true rfl, Nat.le_of_ble_eq_true rfl⟩) (aw_qV (va_recv hK hP rfl he46) hP hD hSh hU hS) rfl rfl hl.1 rfl (lv_room (Nat.le_of_ble_eq_true rfl)) d_Mo_feedBlock_62 ⟨Nat.le_of_ble_eq_true rfl, Nat.le_of_ble_eq_true rfl⟩) hS (fun _ _ h => h) (fun _ h => h) (fun u8 t8 H locs ht _ _ hB _ _ hS => ?_)
      obtain ⟨L, hP, hD, hSh⟩ := hB
      rw [ht] at hP
      clear ht
      refine lv_aload_n hx hb d_Mo_feedBlock_65 rfl (lv_at hl 1 rfl) ?_
      obtain ⟨x48, o49, hw50, he47⟩ := rd_M0 hSh
      refine va_get (C := R_Mo) (T := T_Mo) (N := 19) (v := .ref (aw_m ad 8)) hx hb hG in_Mo hown hK hP 67 he47 rfl 8 (by decide) (hG _ gw_9_33) (fun _ h => h) rfl d_Mo_feedBlock_66 ?_
      refine lv_iload_n hx hb d_Mo_feedBlock_69 rfl (lv_at hl 2 rfl) ?_
      refine lv_lload hx hb d_Mo_feedBlock_70 (lv_at hl 0 rfl) ?_
      obtain ⟨f52, he51⟩ := rd_M8 hSh
      refine aw_lstI hx hb hK hP hD hS 75 1 he51 rfl (k := j) (by omega) (by decide) d_Mo_feedBlock_72 (wr_M8 hSh _) (fun H locs L hP hD hSh hS => ?_)
      refine lv_goto (tgt := 106) hx hb d_Mo_feedBlock_73 (by decide) ?_
      exact W.vret hx hb hr (fun t ht hW => ⟨⟨(), rfl, trivial, aw_Hr ht hP hD hSh⟩, hS.F ht⟩) hS.2.2 d_Mo_feedBlock_106
  · have hb10 : (M j).2 = 0 := (nI_eq (by omega) (by omega)).mp (show nI ((M j).2) = nI 0 from hb10)
    refine lv_aload_n hx hb d_Mo_feedBlock_16 rfl (lv_at hl 1 rfl) ?_
    refine lv_iload_n hx hb d_Mo_feedBlock_17 rfl (lv_at hl 4 rfl) ?_
    refine lv_iload_n hx hb d_Mo_feedBlock_18 rfl (lv_at hl 3 rfl) ?_
    refine lv_if_eq (tgt := 31) hx hb d_Mo_feedBlock_19 (by decide) (fun hb53 => ?_) (fun hb53 => ?_)
    · refine lv_aload_n hx hb d_Mo_feedBlock_31 rfl (lv_at hl 1 rfl) ?_
      refine lv_lload hx hb d_Mo_feedBlock_32 (lv_at hl 0 rfl) ?_
      obtain ⟨_, _, _, he54⟩ := rd_M0 hSh
      refine va_calll (va_runV (As := [.long y2]) (rest := [.int (nI k), .ref (aw_m ad 0)]) ⟨hx, hb, hml, hown, hG⟩ (k_Mo_on l D g ad G M F N0 y2) (aw_wV 1 hG gw_12_4 gw_12_2 gw_0_10 gw_12_3 gw_p_18 rfl rfl hd_Mo_on ⟨Nat.le_of_ble_eq_true rfl, Nat.le_of_ble_eq_true rfl⟩) (aw_qV (va_recv hK hP rfl he54) hP hD hSh hU hS) rfl rfl hl.1 rfl (lv_room (Nat.le_of_ble_eq_true rfl)) d_Mo_feedBlock_34 ⟨Nat.le_of_ble_eq_true rfl, Nat.le_of_ble_eq_true rfl⟩) hS (fun _ _ h => h) (fun _ h => h) (fun y55 u8 t8 H locs ht _ _ hB _ _ hS => ?_)
      obtain ⟨L, hP, hD, hSh⟩ := hB
      rw [ht] at hP
      clear ht
      obtain ⟨_, _, _, he56⟩ := rd_M0 hSh
      refine va_callv (va_runV (As := [.int (nI k), .long y55]) (rest := []) ⟨hx, hb, hml, hown, hG⟩ (k_Mo_putEight l D g ad G M F N0 k y55 hk) (aw_wV 2 hG gw_12_41 gw_12_39 gw_0_10 gw_12_40 gw_p_23 rfl rfl hd_Mo_putEight ⟨Nat.le_of_ble_eq_true rfl, Nat.le_of_ble_eq_true rfl⟩) (aw_qV (va_recv hK hP rfl he56) hP hD hSh hU hS) rfl rfl hl.1 rfl (lv_room (Nat.le_of_ble_eq_true rfl)) d_Mo_feedBlock_37 ⟨Nat.le_of_ble_eq_true rfl, Nat.le_of_ble_eq_true rfl⟩) hS (fun _ _ h => h) (fun _ h => h) (fun u8 t8 H locs ht _ _ hB _ _ hS => ?_)
      obtain ⟨L, hP, hD, hSh⟩ := hB
      rw [ht] at hP
      clear ht
      refine lv_goto (tgt := 106) hx hb d_Mo_feedBlock_40 (by decide) ?_
      exact W.vret hx hb hr (fun t ht hW => ⟨⟨(), rfl, trivial, aw_Hr ht hP hD hSh⟩, hS.F ht⟩) hS.2.2 d_Mo_feedBlock_106
    · refine lv_aload_n hx hb d_Mo_feedBlock_22 rfl (lv_at hl 1 rfl) ?_
      refine lv_lload hx hb d_Mo_feedBlock_23 (lv_at hl 0 rfl) ?_
      obtain ⟨_, _, _, he57⟩ := rd_M0 hSh
      refine va_calll (va_runV (As := [.long y2]) (rest := [.int (nI k), .ref (aw_m ad 0)]) ⟨hx, hb, hml, hown, hG⟩ (k_Mo_off l D g ad G M F N0 y2) (aw_wV 1 hG gw_11_39 gw_11_37 gw_0_10 gw_11_38 gw_p_16 rfl rfl hd_Mo_off ⟨Nat.le_of_ble_eq_true rfl, Nat.le_of_ble_eq_true rfl⟩) (aw_qV (va_recv hK hP rfl he57) hP hD hSh hU hS) rfl rfl hl.1 rfl (lv_room (Nat.le_of_ble_eq_true rfl)) d_Mo_feedBlock_25 ⟨Nat.le_of_ble_eq_true rfl, Nat.le_of_ble_eq_true rfl⟩) hS (fun _ _ h => h) (fun _ h => h) (fun y58 u8 t8 H locs ht _ _ hB _ _ hS => ?_)
      obtain ⟨L, hP, hD, hSh⟩ := hB
      rw [ht] at hP
      clear ht
      refine lv_goto (tgt := 37) hx hb d_Mo_feedBlock_28 (by decide) ?_
      obtain ⟨_, _, _, he59⟩ := rd_M0 hSh
      refine va_callv (va_runV (As := [.int (nI k), .long y58]) (rest := []) ⟨hx, hb, hml, hown, hG⟩ (k_Mo_putEight l D g ad G M F N0 k y58 hk) (aw_wV 2 hG gw_12_41 gw_12_39 gw_0_10 gw_12_40 gw_p_23 rfl rfl hd_Mo_putEight ⟨Nat.le_of_ble_eq_true rfl, Nat.le_of_ble_eq_true rfl⟩) (aw_qV (va_recv hK hP rfl he59) hP hD hSh hU hS) rfl rfl hl.1 rfl (lv_room (Nat.le_of_ble_eq_true rfl)) d_Mo_feedBlock_37 ⟨Nat.le_of_ble_eq_true rfl, Nat.le_of_ble_eq_true rfl⟩) hS (fun _ _ h => h) (fun _ h => h) (fun u8 t8 H locs ht _ _ hB _ _ hS => ?_)
      obtain ⟨L, hP, hD, hSh⟩ := hB
      rw [ht] at hP
      clear ht
      refine lv_goto (tgt := 106) hx hb d_Mo_feedBlock_40 (by decide) ?_
      exact W.vret hx hb hr (fun t ht hW => ⟨⟨(), rfl, trivial, aw_Hr ht hP hD hSh⟩, hS.F ht⟩) hS.2.2 d_Mo_feedBlock_106
abbrev ws_Mo_feedByte : List Cond := Cond.code y_Mo_feedByte b_Mo_feedByte 7 none :: aw_G
abbrev rm_Mo_feedByte : Room := { frames := 3, cells := 0, slots := 0, locals := 83 }
set_option maxHeartbeats 4000000 in
set_option maxRecDepth 100000 in
theorem k_Mo_feedByte (l : Launch) (D : va_G) (g : Nat → ClassId) (ad : Nat → Nat) (G M : Nat → Nat × Nat) (F : Int32) (N0 : Nat) (j : Nat) (bk : Int32) (k : Nat) (hj : j < 4) (hk : k ≤ 63) : Met l y_Mo_feedByte ws_Mo_feedByte rm_Mo_feedByte (va_Pc ([.ref (aw_m ad 0), .int (nI j), .int bk, .int (nI k)] : List Value) (aw_B D g ad G M F N0)) (va_Qv (fun (_ : Unit) => True) (fun (_ : Unit) t => aw_H D g ad G M F N0 t.heap) (aw_Z N0)) 0 0 (aw_Z N0) := by
  refine Met.ofW (cc := b_Mo_feedByte) (maxL := 7) (ret := none) (by decide) rfl ?_
  intro p e s m args below meth c s₁ B hml hv
  obtain ⟨rfl, ⟨L, hP, hD, hSh⟩, hU⟩ := hv
  have hx := B.exec
  have hb := B.bytes
  have hr := B.returns
  have hG : ∀ w ∈ aw_G, w.before _ s = true := fun w h => atoms_spec (ws := ws_Mo_feedByte) B.pre w (List.mem_cons_of_mem _ h)
  have hown : s.vm.findClass "RuleCiphersModel" = some m.cls := findClass_of_methodNamed B.named
  have hlocks := B.notSynchronized
  have hE := hU.1
  have hK := hE.1
  have hN := hE.2.1
  have hS : va_S (aw_Z N0) s.heap s.heap [] := va_S.rf
  have hl := lv_entry ([.ref (aw_m ad 0), .int (nI j), .int bk, .int (nI k)] : List Value) (n := 7) (Nat.le_of_ble_eq_true rfl)
  rw [lg_entry_eq]
  generalize (lg_sl ([.ref (aw_m ad 0), .int (nI j), .int bk, .int (nI k)] : List Value) ++ List.replicate (7 - (lg_sl ([.ref (aw_m ad 0), .int (nI j), .int bk, .int (nI k)] : List Value)).length) Slot.unset).toArray = ls at hl ⊢
  have hl : lv_has ls 7 [(0, .ref (aw_m ad 0)), (1, .int (nI j)), (2, .int bk), (3, .int (nI k))] := hl
  refine lv_aload_n hx hb d_Mo_feedByte_0 rfl (lv_at hl 0 rfl) ?_
  obtain ⟨x2, o3, hw4, he1⟩ := rd_M0 hSh
  refine va_get (C := R_Mo) (T := T_Mo) (N := 19) (v := .ref (aw_m ad 1)) hx hb hG in_Mo hown hK hP 67 he1 rfl 1 (by decide) (hG _ gw_9_26) (fun _ h => h) rfl d_Mo_feedByte_1 ?_
  refine lv_iload_n hx hb d_Mo_feedByte_4 rfl (lv_at hl 3 rfl) ?_
  obtain ⟨f6, he5⟩ := rd_M1 hSh
  refine aw_ild hx hb hK hP 68 0 he5 rfl (k := k) (by omega) (by decide) d_Mo_feedByte_5 ?_
  refine lv_topi (fun x7 _ => ?_)
  refine lv_istore hx hb d_Mo_feedByte_6 hl (by decide) rfl (fun ls hl => ?_)
  have hl : lv_has ls 7 [(4, .int x7), (0, .ref (aw_m ad 0)), (1, .int (nI j)), (2, .int bk), (3, .int (nI k))] := hl
  refine lv_aload_n hx hb d_Mo_feedByte_8 rfl (lv_at hl 1 rfl) ?_
  obtain ⟨x9, o10, hw11, he8⟩ := rd_M0 hSh
  refine va_get (C := R_Mo) (T := T_Mo) (N := 19) (v := .ref (aw_m ad 6)) hx hb hG in_Mo hown hK hP 67 he8 rfl 6 (by decide) (hG _ gw_9_31) (fun _ h => h) rfl d_Mo_feedByte_9 ?_
  refine lv_iload_n hx hb d_Mo_feedByte_12 rfl (lv_at hl 2 rfl) ?_
  obtain ⟨f13, hc14, he12⟩ := rd_M6 hSh
  refine aw_ild hx hb hK hP 73 0 he12 rfl (k := j) (by omega) (by decide) d_Mo_feedByte_13 ?_
  refine aw_ti (y := nI (M j).2) (hc14 _ (by omega)) ?_
  have hm := hSh.2.2.2.2.2 j (by omega)
  refine lv_iconst (v := nI 2) hx hb d_Mo_feedByte_14 (by decide +kernel) ?_
  refine lv_icmp_ne (tgt := 74) hx hb d_Mo_feedByte_15 (by decide) (fun hb15 => ?_) (fun hb15 => ?_)
  · have hb15 : ¬ (M j).2 = 2 := fun z => absurd ((nI_eq (by omega) (by omega)).mpr z) hb15
    refine lv_aload_n hx hb d_Mo_feedByte_74 rfl (lv_at hl 1 rfl) ?_
    obtain ⟨x17, o18, hw19, he16⟩ := rd_M0 hSh
    refine va_get (C := R_Mo) (T := T_Mo) (N := 19) (v := .ref (aw_m ad 6)) hx hb hG in_Mo hown hK hP 67 he16 rfl 6 (by decide) (hG _ gw_9_31) (fun _ h => h) rfl d_Mo_feedByte_75 ?_
    refine lv_iload_n hx hb d_Mo_feedByte_78 rfl (lv_at hl 2 rfl) ?_
    obtain ⟨f21, hc22, he20⟩ := rd_M6 hSh
    refine aw_ild hx hb hK hP 73 0 he20 rfl (k := j) (by omega) (by decide) d_Mo_feedByte_79 ?_
    refine aw_ti (y := nI (M j).2) (hc22 _ (by omega)) ?_
    have hm := hSh.2.2.2.2.2 j (by omega)
    refine lv_iconst (v := nI 3) hx hb d_Mo_feedByte_80 (by decide +kernel) ?_
    refine lv_icmp_ne (tgt := 109) hx hb d_Mo_feedByte_81 (by decide) (fun hb23 => ?_) (fun hb23 => ?_)
    · have hb23 : ¬ (M j).2 = 3 := fun z => absurd ((nI_eq (by omega) (by omega)).mpr z) hb23
      refine lv_aload_n hx hb d_Mo_feedByte_109 rfl (lv_at hl 1 rfl) ?_
      obtain ⟨x25, o26, hw27, he24⟩ := rd_M0 hSh
      refine va_get (C := R_Mo) (T := T_Mo) (N := 19) (v := .ref (aw_m ad 6)) hx hb hG in_Mo hown hK hP 67 he24 rfl 6 (by decide) (hG _ gw_9_31) (fun _ h => h) rfl d_Mo_feedByte_110 ?_
      refine lv_iload_n hx hb d_Mo_feedByte_113 rfl (lv_at hl 2 rfl) ?_
      obtain ⟨f29, hc30, he28⟩ := rd_M6 hSh
      refine aw_ild hx hb hK hP 73 0 he28 rfl (k := j) (by omega) (by decide) d_Mo_feedByte_114 ?_
      refine aw_ti (y := nI (M j).2) (hc30 _ (by omega)) ?_
      have hm := hSh.2.2.2.2.2 j (by omega)
      refine lv_iconst (v := nI 3) hx hb d_Mo_feedByte_115 (by decide +kernel) ?_
      refine lv_icmp_ne (tgt := 128) hx hb d_Mo_feedByte_116 (by decide) (fun _ => ?_) (fun h => absurd h (show ¬ nI ((M j).2) = nI 3 from fun h9 => absurd ((nI_eq (by omega) (by omega)).mp h9) (by omega)))
      refine lv_aload_n hx hb d_Mo_feedByte_128 rfl (lv_at hl 1 rfl) ?_
      refine lv_aload_n hx hb d_Mo_feedByte_129 rfl (lv_at hl 1 rfl) ?_
      obtain ⟨x32, o33, hw34, he31⟩ := rd_M0 hSh
      refine va_get (C := R_Mo) (T := T_Mo) (N := 19) (v := .ref (aw_m ad 8)) hx hb hG in_Mo hown hK hP 67 he31 rfl 8 (by decide) (hG _ gw_9_33) (fun _ h => h) rfl d_Mo_feedByte_130 ?_
      refine lv_iload_n hx hb d_Mo_feedByte_133 rfl (lv_at hl 2 rfl) ?_
      obtain ⟨f36, he35⟩ := rd_M8 hSh
      refine aw_lld hx hb hK hP 75 1 he35 rfl (k := j) (by omega) (by decide) d_Mo_feedByte_134 ?_
      refine lv_topl (fun y37 _ => ?_)
      obtain ⟨_, _, _, he38⟩ := rd_M0 hSh
      refine va_calll (va_runV (As := [.long y37]) (rest := []) ⟨hx, hb, hml, hown, hG⟩ (k_Mo_on l D g ad G M F N0 y37) (aw_wV 1 hG gw_12_4 gw_12_2 gw_0_10 gw_12_3 gw_p_18 rfl rfl hd_Mo_on ⟨Nat.le_of_ble_eq_true rfl, Nat.le_of_ble_eq_true rfl⟩) (aw_qV (va_recv hK hP rfl he38) hP hD hSh hU hS) rfl rfl hl.1 rfl (lv_room (Nat.le_of_ble_eq_true rfl)) d_Mo_feedByte_135 ⟨Nat.le_of_ble_eq_true rfl, Nat.le_of_ble_eq_true rfl⟩) hS (fun _ _ h => h) (fun _ h => h) (fun y39 u8 t8 H locs ht _ _ hB _ _ hS => ?_)
      obtain ⟨L, hP, hD, hSh⟩ := hB
      rw [ht] at hP
      clear ht
      refine lv_lstore hx hb d_Mo_feedByte_138 hl (by decide) rfl (fun ls hl => ?_)
      have hl : lv_has ls 7 [(5, .long y39), (4, .int x7), (0, .ref (aw_m ad 0)), (1, .int (nI j)), (2, .int bk), (3, .int (nI k))] := hl
      refine lv_aload_n hx hb d_Mo_feedByte_140 rfl (lv_at hl 2 rfl) ?_
      obtain ⟨x41, o42, hw43, he40⟩ := rd_M0 hSh
      refine va_get (C := R_Mo) (T := T_Mo) (N := 19) (v := .ref (aw_m ad 1)) hx hb hG in_Mo hown hK hP 67 he40 rfl 1 (by decide) (hG _ gw_9_26) (fun _ h => h) rfl d_Mo_feedByte_141 ?_
      refine lv_iload_n hx hb d_Mo_feedByte_144 rfl (lv_at hl 5 rfl) ?_
      refine lv_iload hx hb d_Mo_feedByte_145 (lv_at hl 1 rfl) ?_
      refine lv_lload hx hb d_Mo_feedByte_147 (lv_at hl 0 rfl) ?_
      refine lv_bipush (v := nI 56) hx hb d_Mo_feedByte_149 (by decide +kernel) ?_
      refine lv_bipush (v := nI 8) hx hb d_Mo_feedByte_151 (by decide +kernel) ?_
      refine lv_aload_n hx hb d_Mo_feedByte_153 rfl (lv_at hl 2 rfl) ?_
      obtain ⟨x45, o46, hw47, he44⟩ := rd_M0 hSh
      refine va_get (C := R_Mo) (T := T_Mo) (N := 19) (v := .ref (aw_m ad 9)) hx hb hG in_Mo hown hK hP 67 he44 rfl 9 (by decide) (hG _ gw_9_34) (fun _ h => h) rfl d_Mo_feedByte_154 ?_
      refine lv_iload_n hx hb d_Mo_feedByte_157 rfl (lv_at hl 3 rfl) ?_
      obtain ⟨f49, he48⟩ := rd_M9 hSh
      refine aw_ild hx hb hK hP 76 0 he48 rfl (k := j) (by omega) (by decide) d_Mo_feedByte_158 ?_
      refine lv_topi (fun x50 _ => ?_)
      refine lv_imul hx hb d_Mo_feedByte_159 ?_
      refine lv_topi (fun x51 _ => ?_)
      refine lv_isub hx hb d_Mo_feedByte_160 ?_
      refine lv_topi (fun x52 _ => ?_)
      refine lv_lushr hx hb d_Mo_feedByte_161 rfl ?_
      refine lv_topl (fun y53 _ => ?_)
      refine lv_l2i hx hb d_Mo_feedByte_162 rfl ?_
      refine lv_topi (fun x54 _ => ?_)
      refine lv_sipush (v := nI 255) hx hb d_Mo_feedByte_163 (by decide +kernel) ?_
      refine lv_iand hx hb d_Mo_feedByte_166 ?_
      obtain ⟨k55, hk55, ek55⟩ := pk_andE x54 (m := nI 255) 8 (by decide +kernel)
      refine aw_ti ek55 ?_
      refine lv_ixor hx hb d_Mo_feedByte_167 ?_
      refine lv_topi (fun x56 _ => ?_)
      obtain ⟨f58, he57⟩ := rd_M1 hSh
      refine aw_istI hx hb hK hP hD hS 68 0 he57 rfl (k := k) (by omega) (by decide) d_Mo_feedByte_168 (wr_M1 hSh _) (fun H locs L hP hD hSh hS => ?_)
      refine lv_aload_n hx hb d_Mo_feedByte_169 rfl (lv_at hl 2 rfl) ?_
      obtain ⟨x60, o61, hw62, he59⟩ := rd_M0 hSh
      refine va_get (C := R_Mo) (T := T_Mo) (N := 19) (v := .ref (aw_m ad 9)) hx hb hG in_Mo hown hK hP 67 he59 rfl 9 (by decide) (hG _ gw_9_34) (fun _ h => h) rfl d_Mo_feedByte_170 ?_
      refine lv_iload_n hx hb d_Mo_feedByte_173 rfl (lv_at hl 3 rfl) ?_
      refine lv_aload_n hx hb d_Mo_feedByte_174 rfl (lv_at hl 2 rfl) ?_
      obtain ⟨x64, o65, hw66, he63⟩ := rd_M0 hSh
      refine va_get (C := R_Mo) (T := T_Mo) (N := 19) (v := .ref (aw_m ad 9)) hx hb hG in_Mo hown hK hP 67 he63 rfl 9 (by decide) (hG _ gw_9_34) (fun _ h => h) rfl d_Mo_feedByte_175 ?_
      refine lv_iload_n hx hb d_Mo_feedByte_178 rfl (lv_at hl 3 rfl) ?_
      obtain ⟨f68, he67⟩ := rd_M9 hSh
      refine aw_ild hx hb hK hP 76 0 he67 rfl (k := j) (by omega) (by decide) d_Mo_feedByte_179 ?_
      refine lv_topi (fun x69 _ => ?_)
      refine lv_iconst (v := nI 1) hx hb d_Mo_feedByte_180 (by decide +kernel) ?_
      refine lv_iadd hx hb d_Mo_feedByte_181 ?_
      refine lv_topi (fun x70 _ => ?_)
      refine lv_bipush (v := nI 8) hx hb d_Mo_feedByte_182 (by decide +kernel) ?_
      refine lv_irem hx hb d_Mo_feedByte_184 (by decide +kernel) ?_
      refine lv_topi (fun x71 _ => ?_)
      obtain ⟨f73, he72⟩ := rd_M9 hSh
      refine aw_istI hx hb hK hP hD hS 76 0 he72 rfl (k := j) (by omega) (by decide) d_Mo_feedByte_185 (wr_M9 hSh _) (fun H locs L hP hD hSh hS => ?_)
      refine lv_aload_n hx hb d_Mo_feedByte_186 rfl (lv_at hl 2 rfl) ?_
      obtain ⟨x75, o76, hw77, he74⟩ := rd_M0 hSh
      refine va_get (C := R_Mo) (T := T_Mo) (N := 19) (v := .ref (aw_m ad 8)) hx hb hG in_Mo hown hK hP 67 he74 rfl 8 (by decide) (hG _ gw_9_33) (fun _ h => h) rfl d_Mo_feedByte_187 ?_
      refine lv_iload_n hx hb d_Mo_feedByte_190 rfl (lv_at hl 3 rfl) ?_
      refine lv_aload_n hx hb d_Mo_feedByte_191 rfl (lv_at hl 2 rfl) ?_
      obtain ⟨x79, o80, hw81, he78⟩ := rd_M0 hSh
      refine va_get (C := R_Mo) (T := T_Mo) (N := 19) (v := .ref (aw_m ad 6)) hx hb hG in_Mo hown hK hP 67 he78 rfl 6 (by decide) (hG _ gw_9_31) (fun _ h => h) rfl d_Mo_feedByte_192 ?_
      refine lv_iload_n hx hb d_Mo_feedByte_195 rfl (lv_at hl 3 rfl) ?_
      obtain ⟨f83, hc84, he82⟩ := rd_M6 hSh
      refine aw_ild hx hb hK hP 73 0 he82 rfl (k := j) (by omega) (by decide) d_Mo_feedByte_196 ?_
      refine aw_ti (y := nI (M j).2) (hc84 _ (by omega)) ?_
      have hm := hSh.2.2.2.2.2 j (by omega)
      refine lv_iconst (v := nI 4) hx hb d_Mo_feedByte_197 (by decide +kernel) ?_
      refine lv_icmp_ne (tgt := 221) hx hb d_Mo_feedByte_198 (by decide) (fun hb85 => ?_) (fun hb85 => ?_)
      · have hb85 : ¬ (M j).2 = 4 := fun z => absurd ((nI_eq (by omega) (by omega)).mpr z) hb85
        refine lv_aload_n hx hb d_Mo_feedByte_221 rfl (lv_at hl 2 rfl) ?_
        obtain ⟨x87, o88, hw89, he86⟩ := rd_M0 hSh
        refine va_get (C := R_Mo) (T := T_Mo) (N := 19) (v := .ref (aw_m ad 8)) hx hb hG in_Mo hown hK hP 67 he86 rfl 8 (by decide) (hG _ gw_9_33) (fun _ h => h) rfl d_Mo_feedByte_222 ?_
        refine lv_iload_n hx hb d_Mo_feedByte_225 rfl (lv_at hl 3 rfl) ?_
        obtain ⟨f91, he90⟩ := rd_M8 hSh
        refine aw_lld hx hb hK hP 75 1 he90 rfl (k := j) (by omega) (by decide) d_Mo_feedByte_226 ?_
        refine lv_topl (fun y92 _ => ?_)
        obtain ⟨f94, he93⟩ := rd_M8 hSh
        refine aw_lstI hx hb hK hP hD hS 75 1 he93 rfl (k := j) (by omega) (by decide) d_Mo_feedByte_227 (wr_M8 hSh _) (fun H locs L hP hD hSh hS => ?_)
        exact W.vret hx hb hr (fun t ht hW => ⟨⟨(), rfl, trivial, aw_Hr ht hP hD hSh⟩, hS.F ht⟩) hS.2.2 d_Mo_feedByte_228
      · have hb85 : (M j).2 = 4 := (nI_eq (by omega) (by omega)).mp hb85
        refine lv_aload_n hx hb d_Mo_feedByte_201 rfl (lv_at hl 2 rfl) ?_
        obtain ⟨x96, o97, hw98, he95⟩ := rd_M0 hSh
        refine va_get (C := R_Mo) (T := T_Mo) (N := 19) (v := .ref (aw_m ad 9)) hx hb hG in_Mo hown hK hP 67 he95 rfl 9 (by decide) (hG _ gw_9_34) (fun _ h => h) rfl d_Mo_feedByte_202 ?_
        refine lv_iload_n hx hb d_Mo_feedByte_205 rfl (lv_at hl 3 rfl) ?_
        obtain ⟨f100, he99⟩ := rd_M9 hSh
        refine aw_ild hx hb hK hP 76 0 he99 rfl (k := j) (by omega) (by decide) d_Mo_feedByte_206 ?_
        refine lv_topi (fun x101 _ => ?_)
        refine lv_if_ne (tgt := 221) hx hb d_Mo_feedByte_207 (by decide) (fun hb102 => ?_) (fun hb102 => ?_)
        · refine lv_aload_n hx hb d_Mo_feedByte_221 rfl (lv_at hl 2 rfl) ?_
          obtain ⟨x104, o105, hw106, he103⟩ := rd_M0 hSh
          refine va_get (C := R_Mo) (T := T_Mo) (N := 19) (v := .ref (aw_m ad 8)) hx hb hG in_Mo hown hK hP 67 he103 rfl 8 (by decide) (hG _ gw_9_33) (fun _ h => h) rfl d_Mo_feedByte_222 ?_
          refine lv_iload_n hx hb d_Mo_feedByte_225 rfl (lv_at hl 3 rfl) ?_
          obtain ⟨f108, he107⟩ := rd_M8 hSh
          refine aw_lld hx hb hK hP 75 1 he107 rfl (k := j) (by omega) (by decide) d_Mo_feedByte_226 ?_
          refine lv_topl (fun y109 _ => ?_)
          obtain ⟨f111, he110⟩ := rd_M8 hSh
          refine aw_lstI hx hb hK hP hD hS 75 1 he110 rfl (k := j) (by omega) (by decide) d_Mo_feedByte_227 (wr_M8 hSh _) (fun H locs L hP hD hSh hS => ?_)
          exact W.vret hx hb hr (fun t ht hW => ⟨⟨(), rfl, trivial, aw_Hr ht hP hD hSh⟩, hS.F ht⟩) hS.2.2 d_Mo_feedByte_228
        · refine lv_aload_n hx hb d_Mo_feedByte_210 rfl (lv_at hl 2 rfl) ?_
          obtain ⟨x113, o114, hw115, he112⟩ := rd_M0 hSh
          refine va_get (C := R_Mo) (T := T_Mo) (N := 19) (v := .ref (aw_m ad 8)) hx hb hG in_Mo hown hK hP 67 he112 rfl 8 (by decide) (hG _ gw_9_33) (fun _ h => h) rfl d_Mo_feedByte_211 ?_
          refine lv_iload_n hx hb d_Mo_feedByte_214 rfl (lv_at hl 3 rfl) ?_
          obtain ⟨f117, he116⟩ := rd_M8 hSh
          refine aw_lld hx hb hK hP 75 1 he116 rfl (k := j) (by omega) (by decide) d_Mo_feedByte_215 ?_
          refine lv_topl (fun y118 _ => ?_)
          refine lv_lconst (v := 1) hx hb d_Mo_feedByte_216 (by decide +kernel) ?_
          refine lv_ladd hx hb d_Mo_feedByte_217 ?_
          refine lv_topl (fun y119 _ => ?_)
          refine lv_goto (tgt := 227) hx hb d_Mo_feedByte_218 (by decide) ?_
          obtain ⟨f121, he120⟩ := rd_M8 hSh
          refine aw_lstI hx hb hK hP hD hS 75 1 he120 rfl (k := j) (by omega) (by decide) d_Mo_feedByte_227 (wr_M8 hSh _) (fun H locs L hP hD hSh hS => ?_)
          exact W.vret hx hb hr (fun t ht hW => ⟨⟨(), rfl, trivial, aw_Hr ht hP hD hSh⟩, hS.F ht⟩) hS.2.2 d_Mo_feedByte_228
    · have hb23 : (M j).2 = 3 := (nI_eq (by omega) (by omega)).mp hb23
      refine lv_aload_n hx hb d_Mo_feedByte_84 rfl (lv_at hl 1 rfl) ?_
      obtain ⟨x123, o124, hw125, he122⟩ := rd_M0 hSh
      refine va_get (C := R_Mo) (T := T_Mo) (N := 19) (v := .ref (aw_m ad 9)) hx hb hG in_Mo hown hK hP 67 he122 rfl 9 (by decide) (hG _ gw_9_34) (fun _ h => h) rfl d_Mo_feedByte_85 ?_
      refine lv_iload_n hx hb d_Mo_feedByte_88 rfl (lv_at hl 2 rfl) ?_
      obtain ⟨f127, he126⟩ := rd_M9 hSh
      refine aw_ild hx hb hK hP 76 0 he126 rfl (k := j) (by omega) (by decide) d_Mo_feedByte_89 ?_
      refine lv_topi (fun x128 _ => ?_)
      refine lv_if_ne (tgt := 109) hx hb d_Mo_feedByte_90 (by decide) (fun hb129 => ?_) (fun hb129 => ?_)
      · refine lv_aload_n hx hb d_Mo_feedByte_109 rfl (lv_at hl 1 rfl) ?_
        obtain ⟨x131, o132, hw133, he130⟩ := rd_M0 hSh
        refine va_get (C := R_Mo) (T := T_Mo) (N := 19) (v := .ref (aw_m ad 6)) hx hb hG in_Mo hown hK hP 67 he130 rfl 6 (by decide) (hG _ gw_9_31) (fun _ h => h) rfl d_Mo_feedByte_110 ?_
        refine lv_iload_n hx hb d_Mo_feedByte_113 rfl (lv_at hl 2 rfl) ?_
        obtain ⟨f135, hc136, he134⟩ := rd_M6 hSh
        refine aw_ild hx hb hK hP 73 0 he134 rfl (k := j) (by omega) (by decide) d_Mo_feedByte_114 ?_
        refine aw_ti (y := nI (M j).2) (hc136 _ (by omega)) ?_
        have hm := hSh.2.2.2.2.2 j (by omega)
        refine lv_iconst (v := nI 3) hx hb d_Mo_feedByte_115 (by decide +kernel) ?_
        refine lv_icmp_ne (tgt := 128) hx hb d_Mo_feedByte_116 (by decide) (fun h => absurd (show nI ((M j).2) = nI 3 from (nI_eq (by omega) (by omega)).mpr (by omega)) h) (fun _ => ?_)
        refine lv_aload_n hx hb d_Mo_feedByte_119 rfl (lv_at hl 1 rfl) ?_
        obtain ⟨x138, o139, hw140, he137⟩ := rd_M0 hSh
        refine va_get (C := R_Mo) (T := T_Mo) (N := 19) (v := .ref (aw_m ad 8)) hx hb hG in_Mo hown hK hP 67 he137 rfl 8 (by decide) (hG _ gw_9_33) (fun _ h => h) rfl d_Mo_feedByte_120 ?_
        refine lv_iload_n hx hb d_Mo_feedByte_123 rfl (lv_at hl 2 rfl) ?_
        obtain ⟨f142, he141⟩ := rd_M8 hSh
        refine aw_lld hx hb hK hP 75 1 he141 rfl (k := j) (by omega) (by decide) d_Mo_feedByte_124 ?_
        refine lv_topl (fun y143 _ => ?_)
        refine lv_goto (tgt := 138) hx hb d_Mo_feedByte_125 (by decide) ?_
        refine lv_lstore hx hb d_Mo_feedByte_138 hl (by decide) rfl (fun ls hl => ?_)
        have hl : lv_has ls 7 [(5, .long y143), (4, .int x7), (0, .ref (aw_m ad 0)), (1, .int (nI j)), (2, .int bk), (3, .int (nI k))] := hl
        refine lv_aload_n hx hb d_Mo_feedByte_140 rfl (lv_at hl 2 rfl) ?_
        obtain ⟨x145, o146, hw147, he144⟩ := rd_M0 hSh
        refine va_get (C := R_Mo) (T := T_Mo) (N := 19) (v := .ref (aw_m ad 1)) hx hb hG in_Mo hown hK hP 67 he144 rfl 1 (by decide) (hG _ gw_9_26) (fun _ h => h) rfl d_Mo_feedByte_141 ?_
        refine lv_iload_n hx hb d_Mo_feedByte_144 rfl (lv_at hl 5 rfl) ?_
        refine lv_iload hx hb d_Mo_feedByte_145 (lv_at hl 1 rfl) ?_
        refine lv_lload hx hb d_Mo_feedByte_147 (lv_at hl 0 rfl) ?_
        refine lv_bipush (v := nI 56) hx hb d_Mo_feedByte_149 (by decide +kernel) ?_
        refine lv_bipush (v := nI 8) hx hb d_Mo_feedByte_151 (by decide +kernel) ?_
        refine lv_aload_n hx hb d_Mo_feedByte_153 rfl (lv_at hl 2 rfl) ?_
        obtain ⟨x149, o150, hw151, he148⟩ := rd_M0 hSh
        refine va_get (C := R_Mo) (T := T_Mo) (N := 19) (v := .ref (aw_m ad 9)) hx hb hG in_Mo hown hK hP 67 he148 rfl 9 (by decide) (hG _ gw_9_34) (fun _ h => h) rfl d_Mo_feedByte_154 ?_
        refine lv_iload_n hx hb d_Mo_feedByte_157 rfl (lv_at hl 3 rfl) ?_
        obtain ⟨f153, he152⟩ := rd_M9 hSh
        refine aw_ild hx hb hK hP 76 0 he152 rfl (k := j) (by omega) (by decide) d_Mo_feedByte_158 ?_
        refine lv_topi (fun x154 _ => ?_)
        refine lv_imul hx hb d_Mo_feedByte_159 ?_
        refine lv_topi (fun x155 _ => ?_)
        refine lv_isub hx hb d_Mo_feedByte_160 ?_
        refine lv_topi (fun x156 _ => ?_)
        refine lv_lushr hx hb d_Mo_feedByte_161 rfl ?_
        refine lv_topl (fun y157 _ => ?_)
        refine lv_l2i hx hb d_Mo_feedByte_162 rfl ?_
        refine lv_topi (fun x158 _ => ?_)
        refine lv_sipush (v := nI 255) hx hb d_Mo_feedByte_163 (by decide +kernel) ?_
        refine lv_iand hx hb d_Mo_feedByte_166 ?_
        obtain ⟨k159, hk159, ek159⟩ := pk_andE x158 (m := nI 255) 8 (by decide +kernel)
        refine aw_ti ek159 ?_
        refine lv_ixor hx hb d_Mo_feedByte_167 ?_
        refine lv_topi (fun x160 _ => ?_)
        obtain ⟨f162, he161⟩ := rd_M1 hSh
        refine aw_istI hx hb hK hP hD hS 68 0 he161 rfl (k := k) (by omega) (by decide) d_Mo_feedByte_168 (wr_M1 hSh _) (fun H locs L hP hD hSh hS => ?_)
        refine lv_aload_n hx hb d_Mo_feedByte_169 rfl (lv_at hl 2 rfl) ?_
        obtain ⟨x164, o165, hw166, he163⟩ := rd_M0 hSh
        refine va_get (C := R_Mo) (T := T_Mo) (N := 19) (v := .ref (aw_m ad 9)) hx hb hG in_Mo hown hK hP 67 he163 rfl 9 (by decide) (hG _ gw_9_34) (fun _ h => h) rfl d_Mo_feedByte_170 ?_
        refine lv_iload_n hx hb d_Mo_feedByte_173 rfl (lv_at hl 3 rfl) ?_
        refine lv_aload_n hx hb d_Mo_feedByte_174 rfl (lv_at hl 2 rfl) ?_
        obtain ⟨x168, o169, hw170, he167⟩ := rd_M0 hSh
        refine va_get (C := R_Mo) (T := T_Mo) (N := 19) (v := .ref (aw_m ad 9)) hx hb hG in_Mo hown hK hP 67 he167 rfl 9 (by decide) (hG _ gw_9_34) (fun _ h => h) rfl d_Mo_feedByte_175 ?_
        refine lv_iload_n hx hb d_Mo_feedByte_178 rfl (lv_at hl 3 rfl) ?_
        obtain ⟨f172, he171⟩ := rd_M9 hSh
        refine aw_ild hx hb hK hP 76 0 he171 rfl (k := j) (by omega) (by decide) d_Mo_feedByte_179 ?_
        refine lv_topi (fun x173 _ => ?_)
        refine lv_iconst (v := nI 1) hx hb d_Mo_feedByte_180 (by decide +kernel) ?_
        refine lv_iadd hx hb d_Mo_feedByte_181 ?_
        refine lv_topi (fun x174 _ => ?_)
        refine lv_bipush (v := nI 8) hx hb d_Mo_feedByte_182 (by decide +kernel) ?_
        refine lv_irem hx hb d_Mo_feedByte_184 (by decide +kernel) ?_
        refine lv_topi (fun x175 _ => ?_)
        obtain ⟨f177, he176⟩ := rd_M9 hSh
        refine aw_istI hx hb hK hP hD hS 76 0 he176 rfl (k := j) (by omega) (by decide) d_Mo_feedByte_185 (wr_M9 hSh _) (fun H locs L hP hD hSh hS => ?_)
        refine lv_aload_n hx hb d_Mo_feedByte_186 rfl (lv_at hl 2 rfl) ?_
        obtain ⟨x179, o180, hw181, he178⟩ := rd_M0 hSh
        refine va_get (C := R_Mo) (T := T_Mo) (N := 19) (v := .ref (aw_m ad 8)) hx hb hG in_Mo hown hK hP 67 he178 rfl 8 (by decide) (hG _ gw_9_33) (fun _ h => h) rfl d_Mo_feedByte_187 ?_
        refine lv_iload_n hx hb d_Mo_feedByte_190 rfl (lv_at hl 3 rfl) ?_
        refine lv_aload_n hx hb d_Mo_feedByte_191 rfl (lv_at hl 2 rfl) ?_
        obtain ⟨x183, o184, hw185, he182⟩ := rd_M0 hSh
        refine va_get (C := R_Mo) (T := T_Mo) (N := 19) (v := .ref (aw_m ad 6)) hx hb hG in_Mo hown hK hP 67 he182 rfl 6 (by decide) (hG _ gw_9_31) (fun _ h => h) rfl d_Mo_feedByte_192 ?_
        refine lv_iload_n hx hb d_Mo_feedByte_195 rfl (lv_at hl 3 rfl) ?_
        obtain ⟨f187, hc188, he186⟩ := rd_M6 hSh
        refine aw_ild hx hb hK hP 73 0 he186 rfl (k := j) (by omega) (by decide) d_Mo_feedByte_196 ?_
        refine aw_ti (y := nI (M j).2) (hc188 _ (by omega)) ?_
        have hm := hSh.2.2.2.2.2 j (by omega)
        refine lv_iconst (v := nI 4) hx hb d_Mo_feedByte_197 (by decide +kernel) ?_
        refine lv_icmp_ne (tgt := 221) hx hb d_Mo_feedByte_198 (by decide) (fun _ => ?_) (fun h => absurd h (show ¬ nI ((M j).2) = nI 4 from fun h9 => absurd ((nI_eq (by omega) (by omega)).mp h9) (by omega)))
        refine lv_aload_n hx hb d_Mo_feedByte_221 rfl (lv_at hl 2 rfl) ?_
        obtain ⟨x190, o191, hw192, he189⟩ := rd_M0 hSh
        refine va_get (C := R_Mo) (T := T_Mo) (N := 19) (v := .ref (aw_m ad 8)) hx hb hG in_Mo hown hK hP 67 he189 rfl 8 (by decide) (hG _ gw_9_33) (fun _ h => h) rfl d_Mo_feedByte_222 ?_
        refine lv_iload_n hx hb d_Mo_feedByte_225 rfl (lv_at hl 3 rfl) ?_
        obtain ⟨f194, he193⟩ := rd_M8 hSh
        refine aw_lld hx hb hK hP 75 1 he193 rfl (k := j) (by omega) (by decide) d_Mo_feedByte_226 ?_
        refine lv_topl (fun y195 _ => ?_)
        obtain ⟨f197, he196⟩ := rd_M8 hSh
        refine aw_lstI hx hb hK hP hD hS 75 1 he196 rfl (k := j) (by omega) (by decide) d_Mo_feedByte_227 (wr_M8 hSh _) (fun H locs L hP hD hSh hS => ?_)
        exact W.vret hx hb hr (fun t ht hW => ⟨⟨(), rfl, trivial, aw_Hr ht hP hD hSh⟩, hS.F ht⟩) hS.2.2 d_Mo_feedByte_228
      · refine lv_aload_n hx hb d_Mo_feedByte_93 rfl (lv_at hl 1 rfl) ?_
        obtain ⟨x199, o200, hw201, he198⟩ := rd_M0 hSh
        refine va_get (C := R_Mo) (T := T_Mo) (N := 19) (v := .ref (aw_m ad 8)) hx hb hG in_Mo hown hK hP 67 he198 rfl 8 (by decide) (hG _ gw_9_33) (fun _ h => h) rfl d_Mo_feedByte_94 ?_
        refine lv_iload_n hx hb d_Mo_feedByte_97 rfl (lv_at hl 2 rfl) ?_
        refine lv_aload_n hx hb d_Mo_feedByte_98 rfl (lv_at hl 1 rfl) ?_
        refine lv_aload_n hx hb d_Mo_feedByte_99 rfl (lv_at hl 1 rfl) ?_
        obtain ⟨x203, o204, hw205, he202⟩ := rd_M0 hSh
        refine va_get (C := R_Mo) (T := T_Mo) (N := 19) (v := .ref (aw_m ad 8)) hx hb hG in_Mo hown hK hP 67 he202 rfl 8 (by decide) (hG _ gw_9_33) (fun _ h => h) rfl d_Mo_feedByte_100 ?_
        refine lv_iload_n hx hb d_Mo_feedByte_103 rfl (lv_at hl 2 rfl) ?_
        obtain ⟨f207, he206⟩ := rd_M8 hSh
        refine aw_lld hx hb hK hP 75 1 he206 rfl (k := j) (by omega) (by decide) d_Mo_feedByte_104 ?_
        refine lv_topl (fun y208 _ => ?_)
        obtain ⟨_, _, _, he209⟩ := rd_M0 hSh
        refine va_calll (va_runV (As := [.long y208]) (rest := [.int (nI j), .ref (aw_m ad 8)]) ⟨hx, hb, hml, hown, hG⟩ (k_Mo_on l D g ad G M F N0 y208) (aw_wV 1 hG gw_12_4 gw_12_2 gw_0_10 gw_12_3 gw_p_18 rfl rfl hd_Mo_on ⟨Nat.le_of_ble_eq_true rfl, Nat.le_of_ble_eq_true rfl⟩) (aw_qV (va_recv hK hP rfl he209) hP hD hSh hU hS) rfl rfl hl.1 rfl (lv_room (Nat.le_of_ble_eq_true rfl)) d_Mo_feedByte_105 ⟨Nat.le_of_ble_eq_true rfl, Nat.le_of_ble_eq_true rfl⟩) hS (fun _ _ h => h) (fun _ h => h) (fun y210 u8 t8 H locs ht _ _ hB _ _ hS => ?_)
        obtain ⟨L, hP, hD, hSh⟩ := hB
        rw [ht] at hP
        clear ht
        obtain ⟨f212, he211⟩ := rd_M8 hSh
        refine aw_lstI hx hb hK hP hD hS 75 1 he211 rfl (k := j) (by omega) (by decide) d_Mo_feedByte_108 (wr_M8 hSh _) (fun H locs L hP hD hSh hS => ?_)
        refine lv_aload_n hx hb d_Mo_feedByte_109 rfl (lv_at hl 1 rfl) ?_
        obtain ⟨x214, o215, hw216, he213⟩ := rd_M0 hSh
        refine va_get (C := R_Mo) (T := T_Mo) (N := 19) (v := .ref (aw_m ad 6)) hx hb hG in_Mo hown hK hP 67 he213 rfl 6 (by decide) (hG _ gw_9_31) (fun _ h => h) rfl d_Mo_feedByte_110 ?_
        refine lv_iload_n hx hb d_Mo_feedByte_113 rfl (lv_at hl 2 rfl) ?_
        obtain ⟨f218, hc219, he217⟩ := rd_M6 hSh
        refine aw_ild hx hb hK hP 73 0 he217 rfl (k := j) (by omega) (by decide) d_Mo_feedByte_114 ?_
        refine aw_ti (y := nI (M j).2) (hc219 _ (by omega)) ?_
        have hm := hSh.2.2.2.2.2 j (by omega)
        refine lv_iconst (v := nI 3) hx hb d_Mo_feedByte_115 (by decide +kernel) ?_
        refine lv_icmp_ne (tgt := 128) hx hb d_Mo_feedByte_116 (by decide) (fun h => absurd (show nI ((M j).2) = nI 3 from (nI_eq (by omega) (by omega)).mpr (by omega)) h) (fun _ => ?_)
        refine lv_aload_n hx hb d_Mo_feedByte_119 rfl (lv_at hl 1 rfl) ?_
        obtain ⟨x221, o222, hw223, he220⟩ := rd_M0 hSh
        refine va_get (C := R_Mo) (T := T_Mo) (N := 19) (v := .ref (aw_m ad 8)) hx hb hG in_Mo hown hK hP 67 he220 rfl 8 (by decide) (hG _ gw_9_33) (fun _ h => h) rfl d_Mo_feedByte_120 ?_
        refine lv_iload_n hx hb d_Mo_feedByte_123 rfl (lv_at hl 2 rfl) ?_
        obtain ⟨f225, he224⟩ := rd_M8 hSh
        refine aw_lld hx hb hK hP 75 1 he224 rfl (k := j) (by omega) (by decide) d_Mo_feedByte_124 ?_
        refine lv_topl (fun y226 _ => ?_)
        refine lv_goto (tgt := 138) hx hb d_Mo_feedByte_125 (by decide) ?_
        refine lv_lstore hx hb d_Mo_feedByte_138 hl (by decide) rfl (fun ls hl => ?_)
        have hl : lv_has ls 7 [(5, .long y226), (4, .int x7), (0, .ref (aw_m ad 0)), (1, .int (nI j)), (2, .int bk), (3, .int (nI k))] := hl
        refine lv_aload_n hx hb d_Mo_feedByte_140 rfl (lv_at hl 2 rfl) ?_
        obtain ⟨x228, o229, hw230, he227⟩ := rd_M0 hSh
        refine va_get (C := R_Mo) (T := T_Mo) (N := 19) (v := .ref (aw_m ad 1)) hx hb hG in_Mo hown hK hP 67 he227 rfl 1 (by decide) (hG _ gw_9_26) (fun _ h => h) rfl d_Mo_feedByte_141 ?_
        refine lv_iload_n hx hb d_Mo_feedByte_144 rfl (lv_at hl 5 rfl) ?_
        refine lv_iload hx hb d_Mo_feedByte_145 (lv_at hl 1 rfl) ?_
        refine lv_lload hx hb d_Mo_feedByte_147 (lv_at hl 0 rfl) ?_
        refine lv_bipush (v := nI 56) hx hb d_Mo_feedByte_149 (by decide +kernel) ?_
        refine lv_bipush (v := nI 8) hx hb d_Mo_feedByte_151 (by decide +kernel) ?_
        refine lv_aload_n hx hb d_Mo_feedByte_153 rfl (lv_at hl 2 rfl) ?_
        obtain ⟨x232, o233, hw234, he231⟩ := rd_M0 hSh
        refine va_get (C := R_Mo) (T := T_Mo) (N := 19) (v := .ref (aw_m ad 9)) hx hb hG in_Mo hown hK hP 67 he231 rfl 9 (by decide) (hG _ gw_9_34) (fun _ h => h) rfl d_Mo_feedByte_154 ?_
        refine lv_iload_n hx hb d_Mo_feedByte_157 rfl (lv_at hl 3 rfl) ?_
        obtain ⟨f236, he235⟩ := rd_M9 hSh
        refine aw_ild hx hb hK hP 76 0 he235 rfl (k := j) (by omega) (by decide) d_Mo_feedByte_158 ?_
        refine lv_topi (fun x237 _ => ?_)
        refine lv_imul hx hb d_Mo_feedByte_159 ?_
        refine lv_topi (fun x238 _ => ?_)
        refine lv_isub hx hb d_Mo_feedByte_160 ?_
        refine lv_topi (fun x239 _ => ?_)
        refine lv_lushr hx hb d_Mo_feedByte_161 rfl ?_
        refine lv_topl (fun y240 _ => ?_)
        refine lv_l2i hx hb d_Mo_feedByte_162 rfl ?_
        refine lv_topi (fun x241 _ => ?_)
        refine lv_sipush (v := nI 255) hx hb d_Mo_feedByte_163 (by decide +kernel) ?_
        refine lv_iand hx hb d_Mo_feedByte_166 ?_
        obtain ⟨k242, hk242, ek242⟩ := pk_andE x241 (m := nI 255) 8 (by decide +kernel)
        refine aw_ti ek242 ?_
        refine lv_ixor hx hb d_Mo_feedByte_167 ?_
        refine lv_topi (fun x243 _ => ?_)
        obtain ⟨f245, he244⟩ := rd_M1 hSh
        refine aw_istI hx hb hK hP hD hS 68 0 he244 rfl (k := k) (by omega) (by decide) d_Mo_feedByte_168 (wr_M1 hSh _) (fun H locs L hP hD hSh hS => ?_)
        refine lv_aload_n hx hb d_Mo_feedByte_169 rfl (lv_at hl 2 rfl) ?_
        obtain ⟨x247, o248, hw249, he246⟩ := rd_M0 hSh
        refine va_get (C := R_Mo) (T := T_Mo) (N := 19) (v := .ref (aw_m ad 9)) hx hb hG in_Mo hown hK hP 67 he246 rfl 9 (by decide) (hG _ gw_9_34) (fun _ h => h) rfl d_Mo_feedByte_170 ?_
        refine lv_iload_n hx hb d_Mo_feedByte_173 rfl (lv_at hl 3 rfl) ?_
        refine lv_aload_n hx hb d_Mo_feedByte_174 rfl (lv_at hl 2 rfl) ?_
        obtain ⟨x251, o252, hw253, he250⟩ := rd_M0 hSh
        refine va_get (C := R_Mo) (T := T_Mo) (N := 19) (v := .ref (aw_m ad 9)) hx hb hG in_Mo hown hK hP 67 he250 rfl 9 (by decide) (hG _ gw_9_34) (fun _ h => h) rfl d_Mo_feedByte_175 ?_
        refine lv_iload_n hx hb d_Mo_feedByte_178 rfl (lv_at hl 3 rfl) ?_
        obtain ⟨f255, he254⟩ := rd_M9 hSh
        refine aw_ild hx hb hK hP 76 0 he254 rfl (k := j) (by omega) (by decide) d_Mo_feedByte_179 ?_
        refine lv_topi (fun x256 _ => ?_)
        refine lv_iconst (v := nI 1) hx hb d_Mo_feedByte_180 (by decide +kernel) ?_
        refine lv_iadd hx hb d_Mo_feedByte_181 ?_
        refine lv_topi (fun x257 _ => ?_)
        refine lv_bipush (v := nI 8) hx hb d_Mo_feedByte_182 (by decide +kernel) ?_
        refine lv_irem hx hb d_Mo_feedByte_184 (by decide +kernel) ?_
        refine lv_topi (fun x258 _ => ?_)
        obtain ⟨f260, he259⟩ := rd_M9 hSh
        refine aw_istI hx hb hK hP hD hS 76 0 he259 rfl (k := j) (by omega) (by decide) d_Mo_feedByte_185 (wr_M9 hSh _) (fun H locs L hP hD hSh hS => ?_)
        refine lv_aload_n hx hb d_Mo_feedByte_186 rfl (lv_at hl 2 rfl) ?_
        obtain ⟨x262, o263, hw264, he261⟩ := rd_M0 hSh
        refine va_get (C := R_Mo) (T := T_Mo) (N := 19) (v := .ref (aw_m ad 8)) hx hb hG in_Mo hown hK hP 67 he261 rfl 8 (by decide) (hG _ gw_9_33) (fun _ h => h) rfl d_Mo_feedByte_187 ?_
        refine lv_iload_n hx hb d_Mo_feedByte_190 rfl (lv_at hl 3 rfl) ?_
        refine lv_aload_n hx hb d_Mo_feedByte_191 rfl (lv_at hl 2 rfl) ?_
        obtain ⟨x266, o267, hw268, he265⟩ := rd_M0 hSh
        refine va_get (C := R_Mo) (T := T_Mo) (N := 19) (v := .ref (aw_m ad 6)) hx hb hG in_Mo hown hK hP 67 he265 rfl 6 (by decide) (hG _ gw_9_31) (fun _ h => h) rfl d_Mo_feedByte_192 ?_
        refine lv_iload_n hx hb d_Mo_feedByte_195 rfl (lv_at hl 3 rfl) ?_
        obtain ⟨f270, hc271, he269⟩ := rd_M6 hSh
        refine aw_ild hx hb hK hP 73 0 he269 rfl (k := j) (by omega) (by decide) d_Mo_feedByte_196 ?_
        refine aw_ti (y := nI (M j).2) (hc271 _ (by omega)) ?_
        have hm := hSh.2.2.2.2.2 j (by omega)
        refine lv_iconst (v := nI 4) hx hb d_Mo_feedByte_197 (by decide +kernel) ?_
        refine lv_icmp_ne (tgt := 221) hx hb d_Mo_feedByte_198 (by decide) (fun _ => ?_) (fun h => absurd h (show ¬ nI ((M j).2) = nI 4 from fun h9 => absurd ((nI_eq (by omega) (by omega)).mp h9) (by omega)))
        refine lv_aload_n hx hb d_Mo_feedByte_221 rfl (lv_at hl 2 rfl) ?_
        obtain ⟨x273, o274, hw275, he272⟩ := rd_M0 hSh
        refine va_get (C := R_Mo) (T := T_Mo) (N := 19) (v := .ref (aw_m ad 8)) hx hb hG in_Mo hown hK hP 67 he272 rfl 8 (by decide) (hG _ gw_9_33) (fun _ h => h) rfl d_Mo_feedByte_222 ?_
        refine lv_iload_n hx hb d_Mo_feedByte_225 rfl (lv_at hl 3 rfl) ?_
        obtain ⟨f277, he276⟩ := rd_M8 hSh
        refine aw_lld hx hb hK hP 75 1 he276 rfl (k := j) (by omega) (by decide) d_Mo_feedByte_226 ?_
        refine lv_topl (fun y278 _ => ?_)
        obtain ⟨f280, he279⟩ := rd_M8 hSh
        refine aw_lstI hx hb hK hP hD hS 75 1 he279 rfl (k := j) (by omega) (by decide) d_Mo_feedByte_227 (wr_M8 hSh _) (fun H locs L hP hD hSh hS => ?_)
        exact W.vret hx hb hr (fun t ht hW => ⟨⟨(), rfl, trivial, aw_Hr ht hP hD hSh⟩, hS.F ht⟩) hS.2.2 d_Mo_feedByte_228
  · have hb15 : (M j).2 = 2 := (nI_eq (by omega) (by omega)).mp hb15
    refine lv_iload hx hb d_Mo_feedByte_18 (lv_at hl 0 rfl) ?_
    refine lv_aload_n hx hb d_Mo_feedByte_20 rfl (lv_at hl 1 rfl) ?_
    refine lv_aload_n hx hb d_Mo_feedByte_21 rfl (lv_at hl 1 rfl) ?_
    obtain ⟨x282, o283, hw284, he281⟩ := rd_M0 hSh
    refine va_get (C := R_Mo) (T := T_Mo) (N := 19) (v := .ref (aw_m ad 8)) hx hb hG in_Mo hown hK hP 67 he281 rfl 8 (by decide) (hG _ gw_9_33) (fun _ h => h) rfl d_Mo_feedByte_22 ?_
    refine lv_iload_n hx hb d_Mo_feedByte_25 rfl (lv_at hl 2 rfl) ?_
    obtain ⟨f286, he285⟩ := rd_M8 hSh
    refine aw_lld hx hb hK hP 75 1 he285 rfl (k := j) (by omega) (by decide) d_Mo_feedByte_26 ?_
    refine lv_topl (fun y287 _ => ?_)
    obtain ⟨_, _, _, he288⟩ := rd_M0 hSh
    refine va_calll (va_runV (As := [.long y287]) (rest := [.int x7]) ⟨hx, hb, hml, hown, hG⟩ (k_Mo_on l D g ad G M F N0 y287) (aw_wV 1 hG gw_12_4 gw_12_2 gw_0_10 gw_12_3 gw_p_18 rfl rfl hd_Mo_on ⟨Nat.le_of_ble_eq_true rfl, Nat.le_of_ble_eq_true rfl⟩) (aw_qV (va_recv hK hP rfl he288) hP hD hSh hU hS) rfl rfl hl.1 rfl (lv_room (Nat.le_of_ble_eq_true rfl)) d_Mo_feedByte_27 ⟨Nat.le_of_ble_eq_true rfl, Nat.le_of_ble_eq_true rfl⟩) hS (fun _ _ h => h) (fun _ h => h) (fun y289 u8 t8 H locs ht _ _ hB _ _ hS => ?_)
    obtain ⟨L, hP, hD, hSh⟩ := hB
    rw [ht] at hP
    clear ht
    refine lv_bipush (v := nI 56) hx hb d_Mo_feedByte_30 (by decide +kernel) ?_
    refine lv_lushr hx hb d_Mo_feedByte_32 rfl ?_
    refine lv_topl (fun y290 _ => ?_)
    refine lv_l2i hx hb d_Mo_feedByte_33 rfl ?_
    refine lv_topi (fun x291 _ => ?_)
    refine lv_ixor hx hb d_Mo_feedByte_34 ?_
    refine lv_topi (fun x292 _ => ?_)
    refine lv_istore hx hb d_Mo_feedByte_35 hl (by decide) rfl (fun ls hl => ?_)
    have hl : lv_has ls 7 [(5, .int x292), (4, .int x7), (0, .ref (aw_m ad 0)), (1, .int (nI j)), (2, .int bk), (3, .int (nI k))] := hl
    refine lv_aload_n hx hb d_Mo_feedByte_37 rfl (lv_at hl 2 rfl) ?_
    obtain ⟨x294, o295, hw296, he293⟩ := rd_M0 hSh
    refine va_get (C := R_Mo) (T := T_Mo) (N := 19) (v := .ref (aw_m ad 8)) hx hb hG in_Mo hown hK hP 67 he293 rfl 8 (by decide) (hG _ gw_9_33) (fun _ h => h) rfl d_Mo_feedByte_38 ?_
    refine lv_iload_n hx hb d_Mo_feedByte_41 rfl (lv_at hl 3 rfl) ?_
    refine lv_aload_n hx hb d_Mo_feedByte_42 rfl (lv_at hl 2 rfl) ?_
    obtain ⟨x298, o299, hw300, he297⟩ := rd_M0 hSh
    refine va_get (C := R_Mo) (T := T_Mo) (N := 19) (v := .ref (aw_m ad 8)) hx hb hG in_Mo hown hK hP 67 he297 rfl 8 (by decide) (hG _ gw_9_33) (fun _ h => h) rfl d_Mo_feedByte_43 ?_
    refine lv_iload_n hx hb d_Mo_feedByte_46 rfl (lv_at hl 3 rfl) ?_
    obtain ⟨f302, he301⟩ := rd_M8 hSh
    refine aw_lld hx hb hK hP 75 1 he301 rfl (k := j) (by omega) (by decide) d_Mo_feedByte_47 ?_
    refine lv_topl (fun y303 _ => ?_)
    refine lv_bipush (v := nI 8) hx hb d_Mo_feedByte_48 (by decide +kernel) ?_
    refine lv_lshl hx hb d_Mo_feedByte_50 rfl ?_
    refine lv_topl (fun y304 _ => ?_)
    refine lv_iload_n hx hb d_Mo_feedByte_51 rfl (lv_at hl 4 rfl) ?_
    refine lv_if_eq (tgt := 60) hx hb d_Mo_feedByte_52 (by decide) (fun hb305 => ?_) (fun hb305 => ?_)
    · refine lv_iload hx hb d_Mo_feedByte_60 (lv_at hl 0 rfl) ?_
      refine lv_i2l hx hb d_Mo_feedByte_62 rfl ?_
      refine lv_topl (fun y306 _ => ?_)
      refine lv_lor hx hb d_Mo_feedByte_63 ?_
      refine lv_topl (fun y307 _ => ?_)
      obtain ⟨f309, he308⟩ := rd_M8 hSh
      refine aw_lstI hx hb hK hP hD hS 75 1 he308 rfl (k := j) (by omega) (by decide) d_Mo_feedByte_64 (wr_M8 hSh _) (fun H locs L hP hD hSh hS => ?_)
      refine lv_aload_n hx hb d_Mo_feedByte_65 rfl (lv_at hl 2 rfl) ?_
      obtain ⟨x311, o312, hw313, he310⟩ := rd_M0 hSh
      refine va_get (C := R_Mo) (T := T_Mo) (N := 19) (v := .ref (aw_m ad 1)) hx hb hG in_Mo hown hK hP 67 he310 rfl 1 (by decide) (hG _ gw_9_26) (fun _ h => h) rfl d_Mo_feedByte_66 ?_
      refine lv_iload_n hx hb d_Mo_feedByte_69 rfl (lv_at hl 5 rfl) ?_
      refine lv_iload hx hb d_Mo_feedByte_70 (lv_at hl 0 rfl) ?_
      obtain ⟨f315, he314⟩ := rd_M1 hSh
      refine aw_istI hx hb hK hP hD hS 68 0 he314 rfl (k := k) (by omega) (by decide) d_Mo_feedByte_72 (wr_M1 hSh _) (fun H locs L hP hD hSh hS => ?_)
      exact W.vret hx hb hr (fun t ht hW => ⟨⟨(), rfl, trivial, aw_Hr ht hP hD hSh⟩, hS.F ht⟩) hS.2.2 d_Mo_feedByte_73
    · refine lv_iload hx hb d_Mo_feedByte_55 (lv_at hl 1 rfl) ?_
      refine lv_goto (tgt := 62) hx hb d_Mo_feedByte_57 (by decide) ?_
      refine lv_i2l hx hb d_Mo_feedByte_62 rfl ?_
      refine lv_topl (fun y316 _ => ?_)
      refine lv_lor hx hb d_Mo_feedByte_63 ?_
      refine lv_topl (fun y317 _ => ?_)
      obtain ⟨f319, he318⟩ := rd_M8 hSh
      refine aw_lstI hx hb hK hP hD hS 75 1 he318 rfl (k := j) (by omega) (by decide) d_Mo_feedByte_64 (wr_M8 hSh _) (fun H locs L hP hD hSh hS => ?_)
      refine lv_aload_n hx hb d_Mo_feedByte_65 rfl (lv_at hl 2 rfl) ?_
      obtain ⟨x321, o322, hw323, he320⟩ := rd_M0 hSh
      refine va_get (C := R_Mo) (T := T_Mo) (N := 19) (v := .ref (aw_m ad 1)) hx hb hG in_Mo hown hK hP 67 he320 rfl 1 (by decide) (hG _ gw_9_26) (fun _ h => h) rfl d_Mo_feedByte_66 ?_
      refine lv_iload_n hx hb d_Mo_feedByte_69 rfl (lv_at hl 5 rfl) ?_
      refine lv_iload hx hb d_Mo_feedByte_70 (lv_at hl 0 rfl) ?_
      obtain ⟨f325, he324⟩ := rd_M1 hSh
      refine aw_istI hx hb hK hP hD hS 68 0 he324 rfl (k := k) (by omega) (by decide) d_Mo_feedByte_72 (wr_M1 hSh _) (fun H locs L hP hD hSh hS => ?_)
      exact W.vret hx hb hr (fun t ht hW => ⟨⟨(), rfl, trivial, aw_Hr ht hP hD hSh⟩, hS.F ht⟩) hS.2.2 d_Mo_feedByte_73
